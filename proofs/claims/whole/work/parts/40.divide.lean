/-- the remainder that a field with t decimals and dg digits gets -/
def dvR (x y : Int) (sa dc t dg : Nat) : Option Int := sRes (x * 10 ^ dc - y * (x * 10 ^ dc).tdiv (y * 10 ^ sa) * 10 ^ sa) (10 ^ sa * 10 ^ dc) t dg 0
abbrev okD (S : ST) (a b q r md : Int) : Prop := (0 ≤ md ∧ md ≤ 7) ∧ opd S a ∧ opd S b ∧ th S q ∧ th S r
def fDiv2 (S : ST) (q r : Int) (o1 o2 : Option Int) : Int × ST := if o1 = none then (1, sRs S q.toNat o1) else (2 * e01 o2, sRs (sRs S q.toNat o1) r.toNat o2)
def fDivide (S : ST) (a b q r md : Int) : Int × ST := if okD S a b q r md then (match gU' S a with
  | none => (-2, sUn S)
  | some x => match gU' S b with
    | none => (-2, sUn S)
    | some y => fDiv2 S q r (qO x y (gS S a) (gS S b) (gS S q) (gN S q) md) (dvR x y (gS S a) (gS S b + gS S q) (gS S r) (gN S r))) else (-1, S)
theorem fDivide_d {S : ST} {a b q r md : Int} (h : okD S a b q r md) (hn : gU' S a = none ∨ gU' S b = none) : fDivide S a b q r md = (-2, sUn S) := by
  unfold fDivide
  rw [if_pos h]
  rcases hn with hn | hn
  · rw [hn]
  · rw [hn]; cases gU' S a <;> rfl
theorem fDivide_s {S : ST} {a b q r md x y : Int} (h : okD S a b q r md) (hx : gU' S a = some x) (hy : gU' S b = some y) : fDivide S a b q r md = fDiv2 S q r (qO x y (gS S a) (gS S b) (gS S q) (gN S q) md) (dvR x y (gS S a) (gS S b + gS S q) (gS S r) (gN S r)) := by
  unfold fDivide
  rw [if_pos h, hx, hy]
theorem tdivmul_le (a b : Int) : (b * a.tdiv b).natAbs ≤ a.natAbs := by
  rw [Int.natAbs_mul, Int.natAbs_tdiv]
  exact Nat.mul_div_le _ _
theorem rest_le {x y : Int} {sa dc sc : Nat} (hs : dc ≤ sc) : (y * (x * 10 ^ dc).tdiv (y * 10 ^ sa) * 10 ^ (sc - dc)).natAbs ≤ (x * 10 ^ sc).natAbs := by
  have h1 := tdivmul_le (x * 10 ^ dc) (y * 10 ^ sa)
  have hp : ∀ n : Nat, ((10 : Int) ^ n).natAbs = 10 ^ n := fun n => by rw [Int.natAbs_pow]; rfl
  rw [Int.natAbs_mul, Int.natAbs_mul, Int.natAbs_mul x, hp] at h1
  rw [Int.natAbs_mul, Int.natAbs_mul, Int.natAbs_mul x, hp, hp]
  generalize ((x * 10 ^ dc).tdiv (y * 10 ^ sa)).natAbs = c at *
  rw [hp] at h1
  have h2 : y.natAbs * c ≤ y.natAbs * 10 ^ sa * c := by
    have := Nat.mul_le_mul_left (y.natAbs * c) (show 1 ≤ 10 ^ sa from Nat.pow_pos (by decide))
    rw [Nat.mul_one] at this
    rw [Nat.mul_right_comm]; exact this
  have h3 := Nat.mul_le_mul_right (10 ^ (sc - dc)) (Nat.le_trans h2 h1)
  rw [Nat.mul_assoc x.natAbs, ← Nat.pow_add, show dc + (sc - dc) = sc by omega] at h3
  exact h3
theorem rest_eq {x y c : Int} {sa dc sc t dg : Nat} (h1 : sa ≤ sc) (h2 : dc ≤ sc) : sRes (x * 10 ^ (sc - sa) - y * c * 10 ^ (sc - dc)) (10 ^ sc) t dg 0 = sRes (x * 10 ^ dc - y * c * 10 ^ sa) (10 ^ sa * 10 ^ dc) t dg 0 := by
  refine sRes_rat (pow10_pos sc) (Int.mul_pos (pow10_pos sa) (pow10_pos dc)) ?_
  have e1 : (10 : Int) ^ (sc - sa) * 10 ^ sa = 10 ^ sc := by rw [← p10a, show sc - sa + sa = sc by omega]
  have e2 : (10 : Int) ^ (sc - dc) * 10 ^ dc = 10 ^ sc := by rw [← p10a, show sc - dc + dc = sc by omega]
  rw [Int.sub_mul, Int.sub_mul]
  rw [show x * 10 ^ (sc - sa) * (10 ^ sa * 10 ^ dc) = x * (10 ^ (sc - sa) * 10 ^ sa) * 10 ^ dc by simp only [Int.mul_assoc], show y * c * 10 ^ (sc - dc) * (10 ^ sa * 10 ^ dc) = y * c * (10 ^ (sc - dc) * 10 ^ dc) * 10 ^ sa by simp only [Int.mul_assoc, Int.mul_comm, Int.mul_left_comm], e1, e2]
  generalize (10 : Int) ^ sc = w
  rw [show x * w * 10 ^ dc = x * 10 ^ dc * w by simp only [Int.mul_assoc, Int.mul_comm, Int.mul_left_comm], show y * c * w * 10 ^ sa = y * c * 10 ^ sa * w by simp only [Int.mul_assoc, Int.mul_comm, Int.mul_left_comm]]
set_option maxHeartbeats 1000000 in
theorem c_remainderAt (E : xEnv) (h : xH) (x y : Int) (sc sa dc : Nat) (hy : ¬ y = 0) (hx : x.natAbs < 1000000000) (hyb : y.natAbs < 1000000000) (h1 : sa ≤ sc) (h2 : dc ≤ sc) (h3 : sc ≤ 8) (h4 : sa ≤ 4) : xCt E 3 0 0 M_PR_remainderAt [vI sc, vL x, vI sa, vL y, vI dc] h (rV (vL (x * 10 ^ (sc - sa) - y * (x * 10 ^ dc).tdiv (y * 10 ^ sa) * 10 ^ (sc - dc))) h) := by
  refine x_met rfl rfl (Nat.le_of_ble_eq_true rfl) ?_
  refine x_lload_n d_PR_remainderAt_0 rfl rfl ?_
  refine x_iload d_PR_remainderAt_1 rfl ?_
  refine x_iload_n d_PR_remainderAt_3 rfl rfl ?_
  refine j_isub d_PR_remainderAt_4 ?_
  refine x_lload d_PR_remainderAt_5 rfl ?_
  refine j_iconst d_PR_remainderAt_7 ?_
  refine x_callS1 (M' := M_DC_result) d_PR_remainderAt_8 lk_PR_144 (c_result E h x _ y 0 (by omega) (by omega) (by omega) (by decide)) mt_DC_result st_DC_result (by decide) rfl (Nat.le_of_ble_eq_true rfl) (by decide) (by decide) ?_
  refine x_lstore d_PR_remainderAt_11 (Nat.le_of_ble_eq_true rfl) ?_
  refine x_lload_n d_PR_remainderAt_13 rfl rfl ?_
  refine x_iload_n d_PR_remainderAt_14 rfl rfl ?_
  refine x_iload_n d_PR_remainderAt_15 rfl rfl ?_
  refine j_isub d_PR_remainderAt_16 ?_
  refine x_top (w := vI ((sc - sa : Nat) : Int)) (by rw [show ((sc - sa : Nat) : Int) = (sc : Int) - sa by omega]) ?_
  refine x_callS1 (M' := M_DC_tenTo) d_PR_remainderAt_17 lk_PR_148 (c_tenTo E h (sc - sa) (by omega)) mt_DC_tenTo st_DC_tenTo (by decide) rfl (Nat.le_of_ble_eq_true rfl) (by decide) (by decide) ?_
  refine j_lmul d_PR_remainderAt_20 ?_
  refine x_lload d_PR_remainderAt_21 rfl ?_
  refine x_lload d_PR_remainderAt_23 rfl ?_
  refine j_lmul d_PR_remainderAt_25 ?_
  refine x_iload_n d_PR_remainderAt_26 rfl rfl ?_
  refine x_iload d_PR_remainderAt_27 rfl ?_
  refine j_isub d_PR_remainderAt_29 ?_
  refine x_top (w := vI ((sc - dc : Nat) : Int)) (by rw [show ((sc - dc : Nat) : Int) = (sc : Int) - dc by omega]) ?_
  refine x_callS1 (M' := M_DC_tenTo) d_PR_remainderAt_30 lk_PR_148 (c_tenTo E h (sc - dc) (by omega)) mt_DC_tenTo st_DC_tenTo (by decide) rfl (Nat.le_of_ble_eq_true rfl) (by decide) (by decide) ?_
  refine j_lmul d_PR_remainderAt_33 ?_
  refine j_lsub d_PR_remainderAt_34 ?_
  refine x_lreturn d_PR_remainderAt_35 rfl ?_
  exact rV_l (by rw [dRes0 hy hx]) rfl
set_option maxHeartbeats 4000000 in
theorem w_divide {E : xEnv} {h : xH} {po : Nat} {Y : LY} {S : ST} (a b q r md : Int) (hO : SO S) (hW : CW h po Y S) (ha : iR a) (hb : iR b) (hq : iR q) (hr : iR r) (hmd : iR md) : xCt E 6 0 0 M_PR_divide [.ref po, vI a, vI b, vI q, vI r, vI md] h (rQ (pC po Y h (fDivide S a b q r md))) := by
  refine x_met rfl rfl (Nat.le_of_ble_eq_true rfl) ?_
  have w0 := hW.1
  obtain ⟨T, s1, s2, s3, s4, s5, s6⟩ := hW.2.2.2.1
  have ra := gF_rf S Y a
  have rb := gF_rf S Y b
  have rq := gF_rf S Y q
  have rr := gF_rf S Y r
  obtain ⟨Z, hZ⟩ : ∃ Z, Z = (xZ E 0 0 (rQ (pC po Y h (fDivide S a b q r md)))) := ⟨_, rfl⟩
  rw [← hZ]
  have bad : ¬ okD S a b q r md → ∀ L : List (Option Value), X E M_PR_divide 6 0 0 Z 63 L [] h 0 0 := by
    intro hb L
    rw [hZ]
    refine j_iconst d_PR_divide_63 ?_
    refine x_ireturn d_PR_divide_64 rfl ?_
    unfold fDivide
    rw [if_neg hb]
    exact ⟨_, rfl, rfl, hW, frC_refl _ _⟩
  have main : okD S a b q r md → X E M_PR_divide 6 0 0 Z 65 [some (.ref po), some (vI a), some (vI b), some (vI q), some (vI r), some (vI md), some (.ref (lF' Y a.toNat)), some (.ref (lF' Y b.toNat)), some (.ref (lF' Y q.toNat)), some (.ref (lF' Y r.toNat)), none, none, none, none, none, none, none, none] [] h 0 0 := by
    intro hk
    have hk0 := hk
    obtain ⟨hmd2, ⟨ha1, ha2⟩, ⟨hb1, hb2⟩, hq1, hr1⟩ := hk
    have hia : a.toNat < zN S := by omega
    have hib : b.toNat < zN S := by omega
    have hiq : q.toNat < zN S := by omega
    have hir : r.toNat < zN S := by omega
    have hDa := (hO.2.2.2.2 _ hia).1
    have hDb := (hO.2.2.2.2 _ hib).1
    have hDq := (hO.2.2.2.2 _ hiq).1
    have hDr := (hO.2.2.2.2 _ hir).1
    have hua := uA_9 hDa s6
    have hub := uA_9 hDb s6
    have hla := uA_l hDa s6
    have hlb := uA_l hDb s6
    have hsa := hDa.2.2.1
    have hsb := hDb.2.2.1
    have hsq := hDq.2.2.1
    have hsr := hDr.2.2.1
    have hnq := hDq.2.1
    have hnr := hDr.2.1
    refine x_aload_n d_PR_divide_65 rfl rfl (by first | rfl | assumption) ?_
    refine x_get 4 5 d_PR_divide_66 gf_PR_29 (by repeat (first | assumption | exact hs_self (by assumption) | exact hs_self (hs_ne (by omega) (by assumption)) | exact hs_self (hs_ne (by omega) (hs_ne (by omega) (by assumption))) | refine hs_ne (by omega) ?_)) (by rfl) ?_
    refine x_aload d_PR_divide_69 rfl (by first | rfl | assumption) ?_
    refine x_callVq (M' := M_SG_unitsOf) d_PR_divide_71 lk_PR_89 (w_unitsOf a.toNat hO hW hia) mt_SG_unitsOf im_SG_unitsOf se_SG_unitsOf (by repeat (first | assumption | exact hs_self (by assumption) | exact hs_self (hs_ne (by omega) (by assumption)) | exact hs_self (hs_ne (by omega) (hs_ne (by omega) (by assumption))) | refine hs_ne (by omega) ?_)) rfl (by decide) rfl (Nat.le_of_ble_eq_true rfl) (by decide) (by decide) ?_
    rintro v h1 ⟨rfl, hW1, hf1, -⟩
    have w01 := hW1.1
    obtain ⟨T1, s11, -⟩ := hW1.2.2.2.1
    refine x_lstore d_PR_divide_74 (Nat.le_of_ble_eq_true rfl) ?_
    refine x_aload_n d_PR_divide_76 rfl rfl (by first | rfl | assumption) ?_
    refine x_get 4 5 d_PR_divide_77 gf_PR_29 (by repeat (first | assumption | exact hs_self (by assumption) | exact hs_self (hs_ne (by omega) (by assumption)) | exact hs_self (hs_ne (by omega) (hs_ne (by omega) (by assumption))) | refine hs_ne (by omega) ?_)) (by rfl) ?_
    refine x_aload d_PR_divide_80 rfl (by first | rfl | assumption) ?_
    refine x_callVq (M' := M_SG_unitsOf) d_PR_divide_82 lk_PR_89 (w_unitsOf b.toNat hO hW1 hib) mt_SG_unitsOf im_SG_unitsOf se_SG_unitsOf (by repeat (first | assumption | exact hs_self (by assumption) | exact hs_self (hs_ne (by omega) (by assumption)) | exact hs_self (hs_ne (by omega) (hs_ne (by omega) (by assumption))) | refine hs_ne (by omega) ?_)) rfl (by decide) rfl (Nat.le_of_ble_eq_true rfl) (by decide) (by decide) ?_
    rintro v h2 ⟨rfl, hW2, hf2, -⟩
    have w02 := hW2.1
    have a1 := (hW2.2.2.2.2.2.2 a.toNat hia).1.1
    have b1 := (hW2.2.2.2.2.2.2 b.toNat hib).1.1
    have hf := frC_trans hf1 hf2
    have dErr : (gU' S a = none ∨ gU' S b = none) → ∀ L : List (Option Value), L[0]? = some (some (.ref po)) → X E M_PR_divide 6 0 0 Z 105 L [] h2 0 0 := by
      intro hn L hL
      refine x_aload_n d_PR_divide_105 rfl hL rfl ?_
      refine x_callVq (M' := M_PR_dataError) d_PR_divide_106 lk_PR_97 (w_dataError hW2) mt_PR_dataError im_PR_dataError se_PR_dataError (by repeat (first | assumption | exact hs_self (by assumption) | exact hs_self (hs_ne (by omega) (by assumption)) | exact hs_self (hs_ne (by omega) (hs_ne (by omega) (by assumption))) | refine hs_ne (by omega) ?_)) rfl (by decide) rfl (Nat.le_of_ble_eq_true rfl) (by decide) (by decide) ?_
      rintro v h3 ⟨rfl, hW3, hf3⟩
      rw [hZ]
      refine x_ireturn d_PR_divide_109 rfl ?_
      rw [fDivide_d hk0 hn]
      exact ⟨_, rfl, rfl, hW3, frC_trans hf hf3⟩
    refine x_lstore d_PR_divide_85 (Nat.le_of_ble_eq_true rfl) ?_
    refine x_lload d_PR_divide_87 rfl ?_
    refine x_ldc2 d_PR_divide_89 kl_PR_87 ?_
    refine j_lcmp_eq 105 d_PR_divide_92 d_PR_divide_93 (by decide) hla.1 nonI_lR (fun c92 => ?_) (fun c92 => ?_)
    · exact dErr (Or.inl (hla.2.mp c92)) _ rfl
    · refine x_lload d_PR_divide_96 rfl ?_
      refine x_ldc2 d_PR_divide_98 kl_PR_87 ?_
      refine j_lcmp_ne 110 d_PR_divide_101 d_PR_divide_102 (by decide) hlb.1 nonI_lR (fun c101 => ?_) (fun c101 => ?_)
      · obtain ⟨x, hx⟩ : ∃ x, gU' S a = some x := Option.ne_none_iff_exists'.mp (fun q => c92 (hla.2.mpr q))
        obtain ⟨y, hy⟩ : ∃ y, gU' S b = some y := Option.ne_none_iff_exists'.mp (fun q => c101 (hlb.2.mpr q))
        have hxb := hua x hx
        have hyb := hub y hy
        rw [fDivide_s hk0 hx hy] at hZ
        rw [show uA (zD S a.toNat) (zB S) = some x from hx, show uA (zD S b.toNat) (zB S) = some y from hy]
        obtain ⟨o1, ho1⟩ : ∃ o, o = qO x y (gS S a) (gS S b) (gS S q) (gN S q) md := ⟨_, rfl⟩
        obtain ⟨o2, ho2⟩ : ∃ o, o = dvR x y (gS S a) (gS S b + gS S q) (gS S r) (gN S r) := ⟨_, rfl⟩
        rw [← ho1, ← ho2] at hZ
        have hy0 : ¬ o1 = none → ¬ y = 0 := by
          intro hn h0
          apply hn
          rw [ho1]; unfold qO; rw [if_pos h0]
        refine x_loc (L' := [some (.ref po), some (vI a), some (vI b), some (vI q), some (vI r), some (vI md), some (.ref (lF' Y a.toNat)), some (.ref (lF' Y b.toNat)), some (.ref (lF' Y q.toNat)), some (.ref (lF' Y r.toNat)), some (vL x), none, some (vL y), none, none, none, none, none]) rfl ?_
        refine x_aload_n d_PR_divide_110 rfl rfl (by first | rfl | assumption) ?_
        refine x_aload d_PR_divide_111 rfl (by first | rfl | assumption) ?_
        refine x_lload d_PR_divide_113 rfl ?_
        refine x_aload d_PR_divide_115 rfl (by first | rfl | assumption) ?_
        refine x_get 1 5 d_PR_divide_117 gf_PR_69 (by repeat (first | assumption | exact hs_self (by assumption) | exact hs_self (hs_ne (by omega) (by assumption)) | exact hs_self (hs_ne (by omega) (hs_ne (by omega) (by assumption))) | refine hs_ne (by omega) ?_)) (by rfl) ?_
        refine x_aload d_PR_divide_120 rfl (by first | rfl | assumption) ?_
        refine x_get 1 5 d_PR_divide_122 gf_PR_69 (by repeat (first | assumption | exact hs_self (by assumption) | exact hs_self (hs_ne (by omega) (by assumption)) | exact hs_self (hs_ne (by omega) (hs_ne (by omega) (by assumption))) | refine hs_ne (by omega) ?_)) (by rfl) ?_
        refine j_isub d_PR_divide_125 ?_
        refine x_lload d_PR_divide_126 rfl ?_
        refine x_iload d_PR_divide_128 rfl ?_
        refine x_callVq (M' := M_PR_storeResult) d_PR_divide_130 lk_PR_111 (w_storeResult q.toNat x _ y md o1 hO hW2 hiq (by omega) (by omega) (by omega) hmd2 (by rw [ho1, cResQ hnq.2 hxb])) mt_PR_storeResult im_PR_storeResult se_PR_storeResult (by repeat (first | assumption | exact hs_self (by assumption) | exact hs_self (hs_ne (by omega) (by assumption)) | exact hs_self (hs_ne (by omega) (hs_ne (by omega) (by assumption))) | refine hs_ne (by omega) ?_)) rfl (by decide) rfl (Nat.le_of_ble_eq_true rfl) (by decide) (by decide) ?_
        rintro v h3 ⟨rfl, hW3, hf3, -⟩
        have hf' := frC_trans hf hf3
        have he1 := e01_r o1
        refine j_if_ne 138 d_PR_divide_133 (by decide) (by unfold iR; omega) (fun c133 => ?_) (fun c133 => ?_)
        · have hn1 : ¬ o1 = none := by intro h0; rw [h0] at c133; exact c133 rfl
          have hy1 := hy0 hn1
          have a3 := (show fAt h3 (lF' Y a.toNat) (lP Y a.toNat) (lQ Y a.toNat) (zD S a.toNat) from (hW3.2.2.2.2.2.2 a.toNat hia).1).1
          have b3 := (show fAt h3 (lF' Y b.toNat) (lP Y b.toNat) (lQ Y b.toNat) (zD S b.toNat) from (hW3.2.2.2.2.2.2 b.toNat hib).1).1
          have q3 := (show fAt h3 (lF' Y q.toNat) (lP Y q.toNat) (lQ Y q.toNat) (zD S q.toNat) from (hW3.2.2.2.2.2.2 q.toNat hiq).1).1
          have w03 := hW3.1
          have hO3 := SO_sRs o1 hO hiq
          obtain ⟨dc, hdc⟩ : ∃ dc, dc = fS (zD S b.toNat) + fS (zD S q.toNat) := ⟨_, rfl⟩
          obtain ⟨sc, hsc⟩ : ∃ sc, sc = max (fS (zD S a.toNat)) dc := ⟨_, rfl⟩
          have hsc1 : fS (zD S a.toNat) ≤ sc := by rw [hsc]; exact Nat.le_max_left _ _
          have hsc2 : dc ≤ sc := by rw [hsc]; exact Nat.le_max_right _ _
          have hsc3 : sc ≤ 8 := by rw [hsc]; exact Nat.max_le.mpr ⟨by omega, by omega⟩
          refine x_aload d_PR_divide_138 rfl (by first | rfl | assumption) ?_
          refine x_get 1 5 d_PR_divide_140 gf_PR_69 (by repeat (first | assumption | exact hs_self (by assumption) | exact hs_self (hs_ne (by omega) (by assumption)) | exact hs_self (hs_ne (by omega) (hs_ne (by omega) (by assumption))) | refine hs_ne (by omega) ?_)) (by rfl) ?_
          refine x_aload d_PR_divide_143 rfl (by first | rfl | assumption) ?_
          refine x_get 1 5 d_PR_divide_145 gf_PR_69 (by repeat (first | assumption | exact hs_self (by assumption) | exact hs_self (hs_ne (by omega) (by assumption)) | exact hs_self (hs_ne (by omega) (hs_ne (by omega) (by assumption))) | refine hs_ne (by omega) ?_)) (by rfl) ?_
          refine j_iadd d_PR_divide_148 ?_
          refine x_top (w := vI (dc : Int)) (by rw [hdc]; rfl) ?_
          refine x_istore d_PR_divide_149 (Nat.le_of_ble_eq_true rfl) ?_
          refine x_aload d_PR_divide_151 rfl (by first | rfl | assumption) ?_
          refine x_get 1 5 d_PR_divide_153 gf_PR_69 (by repeat (first | assumption | exact hs_self (by assumption) | exact hs_self (hs_ne (by omega) (by assumption)) | exact hs_self (hs_ne (by omega) (hs_ne (by omega) (by assumption))) | refine hs_ne (by omega) ?_)) (by rfl) ?_
          refine x_iload d_PR_divide_156 rfl ?_
          refine j_imax d_PR_divide_158 lk_PR_121w (by unfold iR; omega) (by unfold iR; omega) (by decide) (Nat.le_of_ble_eq_true rfl) ?_
          refine x_top (w := vI (sc : Int)) (by rw [show ((sc : Nat) : Int) = max (fS (zD S a.toNat) : Int) (dc : Int) by omega]) ?_
          refine x_istore d_PR_divide_161 (Nat.le_of_ble_eq_true rfl) ?_
          refine x_iload d_PR_divide_163 rfl ?_
          refine x_lload d_PR_divide_165 rfl ?_
          refine x_aload d_PR_divide_167 rfl (by first | rfl | assumption) ?_
          refine x_get 1 5 d_PR_divide_169 gf_PR_69 (by repeat (first | assumption | exact hs_self (by assumption) | exact hs_self (hs_ne (by omega) (by assumption)) | exact hs_self (hs_ne (by omega) (hs_ne (by omega) (by assumption))) | refine hs_ne (by omega) ?_)) (by rfl) ?_
          refine x_lload d_PR_divide_172 rfl ?_
          refine x_iload d_PR_divide_174 rfl ?_
          refine x_callS1 (M' := M_PR_remainderAt) d_PR_divide_176 lk_PR_127 (c_remainderAt E h3 x y sc _ dc hy1 hxb hyb hsc1 hsc2 hsc3 hsa) mt_PR_remainderAt st_PR_remainderAt (by decide) rfl (Nat.le_of_ble_eq_true rfl) (by decide) (by decide) ?_
          refine x_lstore d_PR_divide_179 (Nat.le_of_ble_eq_true rfl) ?_
          have hpx := pow10_le (n := sc) (m := 8) hsc3
          have hpx0 := pow10_pos sc
          have hpa := pow10_le (n := sc - fS (zD S a.toNat)) (m := 8) (by omega)
          have hpa0 := pow10_pos (sc - fS (zD S a.toNat))
          have hm0 := mul_abs_lt (a := x) (b := 10 ^ sc) (x := 1000000000) (y := 100000000) hxb (by omega) (by decide)
          have hm1 := mul_abs_lt (a := x) (b := 10 ^ (sc - fS (zD S a.toNat))) (x := 1000000000) (y := 100000000) hxb (by omega) (by decide)
          have hm2 := rest_le (x := x) (y := y) (sa := fS (zD S a.toNat)) hsc2
          have hce : cRes (x * 10 ^ (sc - fS (zD S a.toNat)) - y * (x * 10 ^ dc).tdiv (y * 10 ^ fS (zD S a.toNat)) * 10 ^ (sc - dc)) (sc : Int) 1 (fS (zD S r.toNat)) (fN (zD S r.toNat)) 0 = o2 := by rw [ho2, cRes1 hnr.2, rest_eq hsc1 hsc2, hdc]; rfl
          refine x_aload_n d_PR_divide_181 rfl rfl (by first | rfl | assumption) ?_
          refine x_aload d_PR_divide_182 rfl (by first | rfl | assumption) ?_
          refine x_lload d_PR_divide_184 rfl ?_
          refine x_iload d_PR_divide_186 rfl ?_
          refine j_lconst 1 d_PR_divide_188 (by decide) ?_
          refine j_iconst d_PR_divide_189 ?_
          refine x_callVq (M' := M_PR_storeResult) d_PR_divide_190 lk_PR_111 (w_storeResult (S := sRs S q.toNat o1) r.toNat _ (sc : Int) 1 0 o2 hO3 hW3 hir (by omega) (by show -8 ≤ (fS (zD S r.toNat) : Int) - sc ∧ (fS (zD S r.toNat) : Int) - sc ≤ 8; omega) (by decide) (by decide) hce) mt_PR_storeResult im_PR_storeResult se_PR_storeResult (by repeat (first | assumption | exact hs_self (by assumption) | exact hs_self (hs_ne (by omega) (by assumption)) | exact hs_self (hs_ne (by omega) (hs_ne (by omega) (by assumption))) | refine hs_ne (by omega) ?_)) rfl (by decide) rfl (Nat.le_of_ble_eq_true rfl) (by decide) (by decide) ?_
          rintro v h4 ⟨rfl, hW4, hf4, -⟩
          have he2 := e01_r o2
          have hres : fDiv2 S q r o1 o2 = (2 * e01 o2, sRs (sRs S q.toNat o1) r.toNat o2) := by unfold fDiv2; rw [if_neg hn1]
          rw [hZ]
          refine j_if_eq 200 d_PR_divide_193 (by decide) (by unfold iR; omega) (fun c193 => ?_) (fun c193 => ?_)
          · refine j_iconst d_PR_divide_200 ?_
            refine x_ireturn d_PR_divide_201 rfl ?_
            rw [hres]
            exact ⟨_, rfl, by show vI 2 = vI (2 * e01 o2); rw [show e01 o2 = 1 by omega]; rfl, hW4, frC_trans hf' hf4⟩
          · refine j_iconst d_PR_divide_196 ?_
            refine x_goto 201 d_PR_divide_197 (by decide) ?_
            refine x_ireturn d_PR_divide_201 rfl ?_
            rw [hres]
            exact ⟨_, rfl, by show vI 0 = vI (2 * e01 o2); rw [show e01 o2 = 0 by omega]; rfl, hW4, frC_trans hf' hf4⟩
        · have hn1 : o1 = none := by
            cases ho : o1 with
            | none => rfl
            | some y => exfalso; rw [ho] at c133; have : e01 (some y) = 0 := rfl; omega
          rw [hZ]
          refine j_iconst d_PR_divide_136 ?_
          refine x_ireturn d_PR_divide_137 rfl ?_
          unfold fDiv2
          rw [if_pos hn1]
          exact ⟨_, rfl, rfl, hW3, hf'⟩
      · exact dErr (Or.inr (hlb.2.mp (by rw [c101]; rfl))) _ rfl
  refine x_aload_n d_PR_divide_0 rfl rfl (by first | rfl | assumption) ?_
  refine x_iload_n d_PR_divide_1 rfl rfl ?_
  refine x_callV1 (M' := M_PR_fieldAt) d_PR_divide_2 lk_PR_59 (w_fieldAt a hO hW ha) mt_PR_fieldAt im_PR_fieldAt se_PR_fieldAt (by repeat (first | assumption | exact hs_self (by assumption) | exact hs_self (hs_ne (by omega) (by assumption)) | exact hs_self (hs_ne (by omega) (hs_ne (by omega) (by assumption))) | refine hs_ne (by omega) ?_)) rfl (by decide) rfl (Nat.le_of_ble_eq_true rfl) (by decide) (by decide) ?_
  refine x_astore d_PR_divide_5 (Nat.le_of_ble_eq_true rfl) (by first | rfl | assumption) ?_
  refine x_aload_n d_PR_divide_7 rfl rfl (by first | rfl | assumption) ?_
  refine x_iload_n d_PR_divide_8 rfl rfl ?_
  refine x_callV1 (M' := M_PR_fieldAt) d_PR_divide_9 lk_PR_59 (w_fieldAt b hO hW hb) mt_PR_fieldAt im_PR_fieldAt se_PR_fieldAt (by repeat (first | assumption | exact hs_self (by assumption) | exact hs_self (hs_ne (by omega) (by assumption)) | exact hs_self (hs_ne (by omega) (hs_ne (by omega) (by assumption))) | refine hs_ne (by omega) ?_)) rfl (by decide) rfl (Nat.le_of_ble_eq_true rfl) (by decide) (by decide) ?_
  refine x_astore d_PR_divide_12 (Nat.le_of_ble_eq_true rfl) (by first | rfl | assumption) ?_
  refine x_aload_n d_PR_divide_14 rfl rfl (by first | rfl | assumption) ?_
  refine x_iload_n d_PR_divide_15 rfl rfl ?_
  refine x_callV1 (M' := M_PR_fieldAt) d_PR_divide_16 lk_PR_59 (w_fieldAt q hO hW hq) mt_PR_fieldAt im_PR_fieldAt se_PR_fieldAt (by repeat (first | assumption | exact hs_self (by assumption) | exact hs_self (hs_ne (by omega) (by assumption)) | exact hs_self (hs_ne (by omega) (hs_ne (by omega) (by assumption))) | refine hs_ne (by omega) ?_)) rfl (by decide) rfl (Nat.le_of_ble_eq_true rfl) (by decide) (by decide) ?_
  refine x_astore d_PR_divide_19 (Nat.le_of_ble_eq_true rfl) (by first | rfl | assumption) ?_
  refine x_aload_n d_PR_divide_21 rfl rfl (by first | rfl | assumption) ?_
  refine x_iload d_PR_divide_22 rfl ?_
  refine x_callV1 (M' := M_PR_fieldAt) d_PR_divide_24 lk_PR_59 (w_fieldAt r hO hW hr) mt_PR_fieldAt im_PR_fieldAt se_PR_fieldAt (by repeat (first | assumption | exact hs_self (by assumption) | exact hs_self (hs_ne (by omega) (by assumption)) | exact hs_self (hs_ne (by omega) (hs_ne (by omega) (by assumption))) | refine hs_ne (by omega) ?_)) rfl (by decide) rfl (Nat.le_of_ble_eq_true rfl) (by decide) (by decide) ?_
  refine x_astore d_PR_divide_27 (Nat.le_of_ble_eq_true rfl) (by first | rfl | assumption) ?_
  refine x_loc (L' := [some (.ref po), some (vI a), some (vI b), some (vI q), some (vI r), some (vI md), some (gF S Y a), some (gF S Y b), some (gF S Y q), some (gF S Y r), none, none, none, none, none, none, none, none]) (by unfold gF; split <;> split <;> split <;> split <;> rfl) ?_
  refine x_iload d_PR_divide_29 rfl ?_
  refine x_callS1 (M' := M_PR_isMode) d_PR_divide_31 lk_PR_104 (c_isMode E h md hmd) mt_PR_isMode st_PR_isMode (by decide) rfl (Nat.le_of_ble_eq_true rfl) (by decide) (by decide) ?_
  refine j_if_eq 63 d_PR_divide_34 (by decide) (by unfold iR; split <;> omega) (fun c34 => ?_) (fun c34 => ?_)
  · rw [ite10] at c34
    exact bad (fun x => c34 x.1) _
  · rw [ite10] at c34
    refine x_aload d_PR_divide_37 rfl (by first | rfl | assumption) ?_
    refine x_callS1 (M' := M_PR_isOperand) d_PR_divide_39 lk_PR_107 (w_isOperand a hO hW) mt_PR_isOperand st_PR_isOperand (by decide) rfl (Nat.le_of_ble_eq_true rfl) (by decide) (by decide) ?_
    refine j_if_eq 63 d_PR_divide_42 (by decide) (op01_i S a) (fun c42 => ?_) (fun c42 => ?_)
    · exact bad (fun x => op01_0.mp c42 x.2.1) _
    · refine x_aload d_PR_divide_45 rfl (by first | rfl | assumption) ?_
      refine x_callS1 (M' := M_PR_isOperand) d_PR_divide_47 lk_PR_107 (w_isOperand b hO hW) mt_PR_isOperand st_PR_isOperand (by decide) rfl (Nat.le_of_ble_eq_true rfl) (by decide) (by decide) ?_
      refine j_if_eq 63 d_PR_divide_50 (by decide) (op01_i S b) (fun c50 => ?_) (fun c50 => ?_)
      · exact bad (fun x => op01_0.mp c50 x.2.2.1) _
      · refine x_aload d_PR_divide_53 rfl (by first | rfl | assumption) ?_
        refine x_ifnull 63 d_PR_divide_55 (by first | rfl | assumption) (by decide) (fun c55 => ?_) (fun c55 => ?_)
        · exact bad (fun x => gF_null.mp c55 x.2.2.2.1) _
        · refine x_aload d_PR_divide_58 rfl (by first | rfl | assumption) ?_
          refine x_ifnonnull 65 d_PR_divide_60 (by first | rfl | assumption) (by decide) (fun c60 => ?_) (fun c60 => ?_)
          · have hoa := opd_of c42
            have hob := opd_of c50
            have hoq := th_of c55
            have hor := th_of c60
            rw [gF_pos hoa.1, gF_pos hob.1, gF_pos hoq, gF_pos hor]
            exact main ⟨Classical.not_not.mp c34, hoa, hob, hoq, hor⟩
          · exact bad (fun x => gF_null.mp c60 x.2.2.2.2) _
