theorem gw_max : Cond.static Lib.Math.max.name ∈ GW ∧ Cond.initialized "java/lang/Math" ∈ GW ∧ Cond.code Lib.Math.max.name Lib.Math.max.code 2 (some .int) ∈ GW := ⟨gwT1 187 rfl rfl, gwT1 8 rfl rfl, gwT1 188 rfl rfl⟩
theorem iI_max {a b : Int} (ha : iR a) (hb : iR b) : (if iI a < iI b then iI b else iI a) = iI (max a b) := by
  by_cases h : a < b
  · rw [if_pos ((iI_lt ha hb).mpr h), Int.max_eq_right (by omega)]
  · rw [if_neg (fun x => h ((iI_lt ha hb).mp x)), Int.max_eq_left (by omega)]
section JM
variable {E : xEnv} {M : xM} {d K N : Nat} {Z : xEnd} {pc : Nat} {L : List (Option Value)} {st : List Value} {h : xH} {k n : Nat}
theorem j_imax {index : Nat} {a b : Int} (hd : decode M.2.1 pc = .ok (.invokestatic index, 3)) (h1 : Cond.methodLink M.1.cls index Lib.Math.max.name ∈ GW) (ha : iR a) (hb : iR b) (hdd : 1 ≤ d) (hw : (st.map fun v => v.category).sum ≤ 8) (kk : X E M d K N Z (pc + 3) L (vI (max a b) :: st) h k n) : X E M d K N Z pc L (vI b :: vI a :: st) h k n := x_imax hd h1 gw_max.1 gw_max.2.1 gw_max.2.2 hdd hw (by rw [iI_max ha hb]; exact kk)
end JM
/-- plus, minus, times, divided by -/
def cO (op x y : Int) (sa sb t dg : Nat) (md : Int) : Option Int := if op = 2 then sRes (x * y) (10 ^ sa * 10 ^ sb) t dg md else if op = 3 then qO x y sa sb t dg md else sRes (x * 10 ^ sb + (if op = 0 then y else -y) * 10 ^ sa) (10 ^ sa * 10 ^ sb) t dg md
abbrev gU' (S : ST) (z : Int) : Option Int := uA (zD S z.toNat) (zB S)
abbrev gS (S : ST) (z : Int) : Nat := fS (zD S z.toNat)
abbrev gN (S : ST) (z : Int) : Nat := fN (zD S z.toNat)
abbrev okC (S : ST) (op a b t md : Int) : Prop := (0 ≤ op ∧ op ≤ 3) ∧ (0 ≤ md ∧ md ≤ 7) ∧ opd S a ∧ opd S b ∧ th S t
def fCompute (S : ST) (op a b t md : Int) : Int × ST := if okC S op a b t md then (match gU' S a with
  | none => (-2, sUn S)
  | some x => match gU' S b with
    | none => (-2, sUn S)
    | some y => (e01 (cO op x y (gS S a) (gS S b) (gS S t) (gN S t) md), sRs S t.toNat (cO op x y (gS S a) (gS S b) (gS S t) (gN S t) md))) else (-1, S)
theorem fCompute_d {S : ST} {op a b t md : Int} (h : okC S op a b t md) (hn : gU' S a = none ∨ gU' S b = none) : fCompute S op a b t md = (-2, sUn S) := by
  unfold fCompute
  rw [if_pos h]
  rcases hn with hn | hn
  · rw [hn]
  · rw [hn]; cases gU' S a <;> rfl
theorem fCompute_s {S : ST} {op a b t md x y : Int} (h : okC S op a b t md) (hx : gU' S a = some x) (hy : gU' S b = some y) : fCompute S op a b t md = (e01 (cO op x y (gS S a) (gS S b) (gS S t) (gN S t) md), sRs S t.toNat (cO op x y (gS S a) (gS S b) (gS S t) (gN S t) md)) := by
  unfold fCompute
  rw [if_pos h, hx, hy]
theorem nonI_lR : lR nonI := by unfold lR nonI; omega
theorem opd_of {S : ST} {z : Int} (h : ¬ op01 S z = 0) : opd S z := Classical.byContradiction (fun x => h (op01_0.mpr x))
theorem th_of {S : ST} {Y : LY} {z : Int} (h : ¬ gF S Y z = .null) : th S z := Classical.byContradiction (fun x => h (gF_null.mpr x))
theorem op01_i (S : ST) (z : Int) : iR (op01 S z) := by have := op01_r S z; unfold iR; omega
theorem uA_l {D : FD} {B : Nat → Int} (hD : fOk D) (hB : bOk B) : lR ((uA D B).getD nonI) ∧ ((uA D B).getD nonI = nonI ↔ uA D B = none) := by
  cases hu : uA D B with
  | none => exact ⟨nonI_lR, by simp⟩
  | some x =>
    have := uA_9 hD hB x hu
    refine ⟨by unfold lR; show -9223372036854775808 ≤ x ∧ x < 9223372036854775808; omega, ?_⟩
    show x = nonI ↔ _
    unfold nonI
    constructor
    · intro h; exfalso; omega
    · intro h; cases h
set_option maxHeartbeats 4000000 in
theorem w_compute {E : xEnv} {h : xH} {po : Nat} {Y : LY} {S : ST} (op a b t md : Int) (hO : SO S) (hW : CW h po Y S) (hop : iR op) (ha : iR a) (hb : iR b) (ht : iR t) (hmd : iR md) : xCt E 6 0 0 M_PR_compute [.ref po, vI op, vI a, vI b, vI t, vI md] h (rQ (pC po Y h (fCompute S op a b t md))) := by
  refine x_met rfl rfl (Nat.le_of_ble_eq_true rfl) ?_
  have w0 := hW.1
  obtain ⟨T, s1, s2, s3, s4, s5, s6⟩ := hW.2.2.2.1
  have ra := gF_rf S Y a
  have rb := gF_rf S Y b
  have rt := gF_rf S Y t
  obtain ⟨Z, hZ⟩ : ∃ Z, Z = (xZ E 0 0 (rQ (pC po Y h (fCompute S op a b t md)))) := ⟨_, rfl⟩
  rw [← hZ]
  have bad : ¬ okC S op a b t md → ∀ L : List (Option Value), X E M_PR_compute 6 0 0 Z 58 L [] h 0 0 := by
    intro hb L
    rw [hZ]
    refine j_iconst d_PR_compute_58 ?_
    refine x_ireturn d_PR_compute_59 rfl ?_
    unfold fCompute
    rw [if_neg hb]
    exact ⟨_, rfl, rfl, hW, frC_refl _ _⟩
  have main : okC S op a b t md → X E M_PR_compute 6 0 0 Z 60 [some (.ref po), some (vI op), some (vI a), some (vI b), some (vI t), some (vI md), some (.ref (lF' Y a.toNat)), some (.ref (lF' Y b.toNat)), some (.ref (lF' Y t.toNat)), none, none, none, none, none, none, none] [] h 0 0 := by
    intro hk
    have hk0 := hk
    obtain ⟨hop2, hmd2, ⟨ha1, ha2⟩, ⟨hb1, hb2⟩, ht1⟩ := hk
    have hia : a.toNat < zN S := by omega
    have hib : b.toNat < zN S := by omega
    have hit : t.toNat < zN S := by omega
    have hDa := (hO.2.2.2.2 _ hia).1
    have hDb := (hO.2.2.2.2 _ hib).1
    have hDt := (hO.2.2.2.2 _ hit).1
    have hua := uA_9 hDa s6
    have hub := uA_9 hDb s6
    have hla := uA_l hDa s6
    have hlb := uA_l hDb s6
    have hsa := hDa.2.2.1
    have hsb := hDb.2.2.1
    have hst := hDt.2.2.1
    have hnt := hDt.2.1
    refine x_aload_n d_PR_compute_60 rfl rfl (by first | rfl | assumption) ?_
    refine x_get 4 5 d_PR_compute_61 gf_PR_29 (by repeat (first | assumption | exact hs_self (by assumption) | exact hs_self (hs_ne (by omega) (by assumption)) | exact hs_self (hs_ne (by omega) (hs_ne (by omega) (by assumption))) | refine hs_ne (by omega) ?_)) (by rfl) ?_
    refine x_aload d_PR_compute_64 rfl (by first | rfl | assumption) ?_
    refine x_callVq (M' := M_SG_unitsOf) d_PR_compute_66 lk_PR_89 (w_unitsOf a.toNat hO hW hia) mt_SG_unitsOf im_SG_unitsOf se_SG_unitsOf (by repeat (first | assumption | exact hs_self (by assumption) | exact hs_self (hs_ne (by omega) (by assumption)) | exact hs_self (hs_ne (by omega) (hs_ne (by omega) (by assumption))) | refine hs_ne (by omega) ?_)) rfl (by decide) rfl (Nat.le_of_ble_eq_true rfl) (by decide) (by decide) ?_
    rintro v h1 ⟨rfl, hW1, hf1, -⟩
    have w01 := hW1.1
    obtain ⟨T1, s11, -⟩ := hW1.2.2.2.1
    refine x_lstore d_PR_compute_69 (Nat.le_of_ble_eq_true rfl) ?_
    refine x_aload_n d_PR_compute_71 rfl rfl (by first | rfl | assumption) ?_
    refine x_get 4 5 d_PR_compute_72 gf_PR_29 (by repeat (first | assumption | exact hs_self (by assumption) | exact hs_self (hs_ne (by omega) (by assumption)) | exact hs_self (hs_ne (by omega) (hs_ne (by omega) (by assumption))) | refine hs_ne (by omega) ?_)) (by rfl) ?_
    refine x_aload d_PR_compute_75 rfl (by first | rfl | assumption) ?_
    refine x_callVq (M' := M_SG_unitsOf) d_PR_compute_77 lk_PR_89 (w_unitsOf b.toNat hO hW1 hib) mt_SG_unitsOf im_SG_unitsOf se_SG_unitsOf (by repeat (first | assumption | exact hs_self (by assumption) | exact hs_self (hs_ne (by omega) (by assumption)) | exact hs_self (hs_ne (by omega) (hs_ne (by omega) (by assumption))) | refine hs_ne (by omega) ?_)) rfl (by decide) rfl (Nat.le_of_ble_eq_true rfl) (by decide) (by decide) ?_
    rintro v h2 ⟨rfl, hW2, hf2, -⟩
    have w02 := hW2.1
    have a1 := (hW2.2.2.2.2.2.2 a.toNat hia).1.1
    have b1 := (hW2.2.2.2.2.2.2 b.toNat hib).1.1
    have hf := frC_trans hf1 hf2
    have dErr : (gU' S a = none ∨ gU' S b = none) → ∀ L : List (Option Value), L[0]? = some (some (.ref po)) → X E M_PR_compute 6 0 0 Z 100 L [] h2 0 0 := by
      intro hn L hL
      refine x_aload_n d_PR_compute_100 rfl hL rfl ?_
      refine x_callVq (M' := M_PR_dataError) d_PR_compute_101 lk_PR_97 (w_dataError hW2) mt_PR_dataError im_PR_dataError se_PR_dataError (by repeat (first | assumption | exact hs_self (by assumption) | exact hs_self (hs_ne (by omega) (by assumption)) | exact hs_self (hs_ne (by omega) (hs_ne (by omega) (by assumption))) | refine hs_ne (by omega) ?_)) rfl (by decide) rfl (Nat.le_of_ble_eq_true rfl) (by decide) (by decide) ?_
      rintro v h3 ⟨rfl, hW3, hf3⟩
      rw [hZ]
      refine x_ireturn d_PR_compute_104 rfl ?_
      rw [fCompute_d hk0 hn]
      exact ⟨_, rfl, rfl, hW3, frC_trans hf hf3⟩
    refine x_lstore d_PR_compute_80 (Nat.le_of_ble_eq_true rfl) ?_
    refine x_lload d_PR_compute_82 rfl ?_
    refine x_ldc2 d_PR_compute_84 kl_PR_87 ?_
    refine j_lcmp_eq 100 d_PR_compute_87 d_PR_compute_88 (by decide) hla.1 nonI_lR (fun c87 => ?_) (fun c87 => ?_)
    · exact dErr (Or.inl (hla.2.mp c87)) _ rfl
    · refine x_lload d_PR_compute_91 rfl ?_
      refine x_ldc2 d_PR_compute_93 kl_PR_87 ?_
      refine j_lcmp_ne 105 d_PR_compute_96 d_PR_compute_97 (by decide) hlb.1 nonI_lR (fun c96 => ?_) (fun c96 => ?_)
      · obtain ⟨x, hx⟩ : ∃ x, gU' S a = some x := Option.ne_none_iff_exists'.mp (fun q => c87 (hla.2.mpr q))
        obtain ⟨y, hy⟩ : ∃ y, gU' S b = some y := Option.ne_none_iff_exists'.mp (fun q => c96 (hlb.2.mpr q))
        have hxb := hua x hx
        have hyb := hub y hy
        rw [fCompute_s hk0 hx hy] at hZ
        rw [show uA (zD S a.toNat) (zB S) = some x from hx, show uA (zD S b.toNat) (zB S) = some y from hy]
        obtain ⟨o, ho⟩ : ∃ o, o = cO op x y (gS S a) (gS S b) (gS S t) (gN S t) md := ⟨_, rfl⟩
        rw [← ho] at hZ
        refine x_loc (L' := [some (.ref po), some (vI op), some (vI a), some (vI b), some (vI t), some (vI md), some (.ref (lF' Y a.toNat)), some (.ref (lF' Y b.toNat)), some (.ref (lF' Y t.toNat)), some (vL x), none, some (vL y), none, none, none, none]) rfl ?_
        have fin : ∀ (h3 : xH) (L : List (Option Value)), CW h3 po Y (sRs S t.toNat o) → frC po h h3 → L[13]? = some (some (vI (1 - e01 o))) → X E M_PR_compute 6 0 0 Z 221 L [] h3 0 0 := by
          intro h3 L hW3 hf3 hL
          have he := e01_r o
          refine x_iload d_PR_compute_221 hL ?_
          rw [hZ]
          refine j_if_eq 230 d_PR_compute_223 (by decide) (by unfold iR; omega) (fun c223 => ?_) (fun c223 => ?_)
          · refine j_iconst d_PR_compute_230 ?_
            refine x_ireturn d_PR_compute_231 rfl ?_
            exact ⟨_, rfl, by rw [show e01 o = 1 by omega], hW3, hf3⟩
          · refine j_iconst d_PR_compute_226 ?_
            refine x_goto 231 d_PR_compute_227 (by decide) ?_
            refine x_ireturn d_PR_compute_231 rfl ?_
            exact ⟨_, rfl, by rw [show e01 o = 0 by omega], hW3, hf3⟩
        have sums : ∀ y' : Int, y'.natAbs < 1000000000 → o = sRes (x * 10 ^ gS S b + y' * 10 ^ gS S a) (10 ^ gS S a * 10 ^ gS S b) (gS S t) (gN S t) md → X E M_PR_compute 6 0 0 Z 186 [some (.ref po), some (vI op), some (vI a), some (vI b), some (vI t), some (vI md), some (.ref (lF' Y a.toNat)), some (.ref (lF' Y b.toNat)), some (.ref (lF' Y t.toNat)), some (vL x), none, some (vL y), none, none, none, none] [vL y'] h2 0 0 := by
          intro y' hy' hoe
          have hpa := pow10_le (n := 4 - fS (zD S a.toNat)) (m := 4) (by omega)
          have hpa0 := pow10_pos (4 - fS (zD S a.toNat))
          have hpb := pow10_le (n := 4 - fS (zD S b.toNat)) (m := 4) (by omega)
          have hpb0 := pow10_pos (4 - fS (zD S b.toNat))
          have hm1 := mul_abs_lt (a := x) (b := 10 ^ (4 - fS (zD S a.toNat))) (x := 1000000000) (y := 10000) hxb (by omega) (by decide)
          have hm2 := mul_abs_lt (a := y') (b := 10 ^ (4 - fS (zD S b.toNat))) (x := 1000000000) (y := 10000) hy' (by omega) (by decide)
          refine x_aload d_PR_compute_186 rfl (by first | rfl | assumption) ?_
          refine x_get 1 5 d_PR_compute_188 gf_PR_69 (by repeat (first | assumption | exact hs_self (by assumption) | exact hs_self (hs_ne (by omega) (by assumption)) | exact hs_self (hs_ne (by omega) (hs_ne (by omega) (by assumption))) | refine hs_ne (by omega) ?_)) (by rfl) ?_
          refine x_callS1 (M' := M_DC_atFullScale) d_PR_compute_191 lk_PR_115 (c_atFull E h2 y' _ hsb) mt_DC_atFullScale st_DC_atFullScale (by decide) rfl (Nat.le_of_ble_eq_true rfl) (by decide) (by decide) ?_
          refine x_lstore d_PR_compute_194 (Nat.le_of_ble_eq_true rfl) ?_
          refine x_aload_n d_PR_compute_196 rfl rfl (by first | rfl | assumption) ?_
          refine x_aload d_PR_compute_197 rfl (by first | rfl | assumption) ?_
          refine x_lload d_PR_compute_199 rfl ?_
          refine x_aload d_PR_compute_201 rfl (by first | rfl | assumption) ?_
          refine x_get 1 5 d_PR_compute_203 gf_PR_69 (by repeat (first | assumption | exact hs_self (by assumption) | exact hs_self (hs_ne (by omega) (by assumption)) | exact hs_self (hs_ne (by omega) (hs_ne (by omega) (by assumption))) | refine hs_ne (by omega) ?_)) (by rfl) ?_
          refine x_callS1 (M' := M_DC_atFullScale) d_PR_compute_206 lk_PR_115 (c_atFull E h2 x _ hsa) mt_DC_atFullScale st_DC_atFullScale (by decide) rfl (Nat.le_of_ble_eq_true rfl) (by decide) (by decide) ?_
          refine x_lload d_PR_compute_209 rfl ?_
          refine j_ladd d_PR_compute_211 ?_
          refine j_iconst d_PR_compute_212 ?_
          refine j_lconst 1 d_PR_compute_213 (by decide) ?_
          refine x_iload d_PR_compute_214 rfl ?_
          refine x_callVq (M' := M_PR_storeResult) d_PR_compute_216 lk_PR_111 (w_storeResult t.toNat _ 4 1 md o hO hW2 hit (by omega) (by omega) (by decide) hmd2 (by rw [hoe, show (4 : Int) = ((4 : Nat) : Int) from rfl, cRes1 hnt.2, ← sRes4 hsa hsb])) mt_PR_storeResult im_PR_storeResult se_PR_storeResult (by repeat (first | assumption | exact hs_self (by assumption) | exact hs_self (hs_ne (by omega) (by assumption)) | exact hs_self (hs_ne (by omega) (hs_ne (by omega) (by assumption))) | refine hs_ne (by omega) ?_)) rfl (by decide) rfl (Nat.le_of_ble_eq_true rfl) (by decide) (by decide) ?_
          rintro v h3 ⟨rfl, hW3, hf3, -⟩
          refine x_istore d_PR_compute_219 (Nat.le_of_ble_eq_true rfl) ?_
          exact fin _ _ hW3 (frC_trans hf hf3) rfl
        unfold iR at hop
        refine x_iload_n d_PR_compute_105 rfl rfl ?_
        refine j_iconst d_PR_compute_106 ?_
        refine j_icmp_ne 140 d_PR_compute_107 (by decide) (by unfold iR; omega) (by unfold iR; omega) (fun c107 => ?_) (fun c107 => ?_)
        · refine x_iload_n d_PR_compute_140 rfl rfl ?_
          refine j_iconst d_PR_compute_141 ?_
          refine j_icmp_ne 173 d_PR_compute_142 (by decide) (by unfold iR; omega) (by unfold iR; omega) (fun c142 => ?_) (fun c142 => ?_)
          · refine x_iload_n d_PR_compute_173 rfl rfl ?_
            refine j_iconst d_PR_compute_174 ?_
            refine j_icmp_ne 184 d_PR_compute_175 (by decide) (by unfold iR; omega) (by unfold iR; omega) (fun c175 => ?_) (fun c175 => ?_)
            · refine x_lload d_PR_compute_184 rfl ?_
              refine sums y hyb ?_
              rw [ho]; unfold cO
              rw [if_neg c107, if_neg c142, if_pos (by omega)]
            · refine x_lload d_PR_compute_178 rfl ?_
              refine j_lneg d_PR_compute_180 ?_
              refine x_goto 186 d_PR_compute_181 (by decide) ?_
              refine sums (-y) (by omega) ?_
              rw [ho]; unfold cO
              rw [if_neg c107, if_neg c142, if_neg (by omega)]
          · refine x_aload_n d_PR_compute_145 rfl rfl (by first | rfl | assumption) ?_
            refine x_aload d_PR_compute_146 rfl (by first | rfl | assumption) ?_
            refine x_lload d_PR_compute_148 rfl ?_
            refine x_aload d_PR_compute_150 rfl (by first | rfl | assumption) ?_
            refine x_get 1 5 d_PR_compute_152 gf_PR_69 (by repeat (first | assumption | exact hs_self (by assumption) | exact hs_self (hs_ne (by omega) (by assumption)) | exact hs_self (hs_ne (by omega) (hs_ne (by omega) (by assumption))) | refine hs_ne (by omega) ?_)) (by rfl) ?_
            refine x_aload d_PR_compute_155 rfl (by first | rfl | assumption) ?_
            refine x_get 1 5 d_PR_compute_157 gf_PR_69 (by repeat (first | assumption | exact hs_self (by assumption) | exact hs_self (hs_ne (by omega) (by assumption)) | exact hs_self (hs_ne (by omega) (hs_ne (by omega) (by assumption))) | refine hs_ne (by omega) ?_)) (by rfl) ?_
            refine j_isub d_PR_compute_160 ?_
            refine x_lload d_PR_compute_161 rfl ?_
            refine x_iload d_PR_compute_163 rfl ?_
            refine x_callVq (M' := M_PR_storeResult) d_PR_compute_165 lk_PR_111 (w_storeResult t.toNat x _ y md o hO hW2 hit (by omega) (by omega) (by omega) hmd2 (by rw [ho, cResQ hnt.2 hxb]; unfold cO; rw [if_neg c107, if_pos (by omega)])) mt_PR_storeResult im_PR_storeResult se_PR_storeResult (by repeat (first | assumption | exact hs_self (by assumption) | exact hs_self (hs_ne (by omega) (by assumption)) | exact hs_self (hs_ne (by omega) (hs_ne (by omega) (by assumption))) | refine hs_ne (by omega) ?_)) rfl (by decide) rfl (Nat.le_of_ble_eq_true rfl) (by decide) (by decide) ?_
            rintro v h3 ⟨rfl, hW3, hf3, -⟩
            refine x_istore d_PR_compute_168 (Nat.le_of_ble_eq_true rfl) ?_
            refine x_goto 221 d_PR_compute_170 (by decide) ?_
            exact fin _ _ hW3 (frC_trans hf hf3) rfl
        · have hm1 := mul_abs_lt (a := x) (b := y) (x := 1000000000) (y := 1000000000) hxb (by omega) (by decide)
          refine x_aload_n d_PR_compute_110 rfl rfl (by first | rfl | assumption) ?_
          refine x_aload d_PR_compute_111 rfl (by first | rfl | assumption) ?_
          refine x_lload d_PR_compute_113 rfl ?_
          refine x_lload d_PR_compute_115 rfl ?_
          refine j_lmul d_PR_compute_117 ?_
          refine x_aload d_PR_compute_118 rfl (by first | rfl | assumption) ?_
          refine x_get 1 5 d_PR_compute_120 gf_PR_69 (by repeat (first | assumption | exact hs_self (by assumption) | exact hs_self (hs_ne (by omega) (by assumption)) | exact hs_self (hs_ne (by omega) (hs_ne (by omega) (by assumption))) | refine hs_ne (by omega) ?_)) (by rfl) ?_
          refine x_aload d_PR_compute_123 rfl (by first | rfl | assumption) ?_
          refine x_get 1 5 d_PR_compute_125 gf_PR_69 (by repeat (first | assumption | exact hs_self (by assumption) | exact hs_self (hs_ne (by omega) (by assumption)) | exact hs_self (hs_ne (by omega) (hs_ne (by omega) (by assumption))) | refine hs_ne (by omega) ?_)) (by rfl) ?_
          refine j_iadd d_PR_compute_128 ?_
          refine j_lconst 1 d_PR_compute_129 (by decide) ?_
          refine x_iload d_PR_compute_130 rfl ?_
          refine x_callVq (M' := M_PR_storeResult) d_PR_compute_132 lk_PR_111 (w_storeResult t.toNat (x * y) _ 1 md o hO hW2 hit (by omega) (by omega) (by decide) hmd2 (by rw [ho, show ((gS S a : Nat) : Int) + ((gS S b : Nat) : Int) = ((gS S a + gS S b : Nat) : Int) from rfl, cRes1 hnt.2, p10a]; unfold cO; rw [if_pos (by omega)])) mt_PR_storeResult im_PR_storeResult se_PR_storeResult (by repeat (first | assumption | exact hs_self (by assumption) | exact hs_self (hs_ne (by omega) (by assumption)) | exact hs_self (hs_ne (by omega) (hs_ne (by omega) (by assumption))) | refine hs_ne (by omega) ?_)) rfl (by decide) rfl (Nat.le_of_ble_eq_true rfl) (by decide) (by decide) ?_
          rintro v h3 ⟨rfl, hW3, hf3, -⟩
          refine x_istore d_PR_compute_135 (Nat.le_of_ble_eq_true rfl) ?_
          refine x_goto 221 d_PR_compute_137 (by decide) ?_
          exact fin _ _ hW3 (frC_trans hf hf3) rfl
      · exact dErr (Or.inr (hlb.2.mp (by rw [c96]; rfl))) _ rfl
  refine x_aload_n d_PR_compute_0 rfl rfl (by first | rfl | assumption) ?_
  refine x_iload_n d_PR_compute_1 rfl rfl ?_
  refine x_callV1 (M' := M_PR_fieldAt) d_PR_compute_2 lk_PR_59 (w_fieldAt a hO hW ha) mt_PR_fieldAt im_PR_fieldAt se_PR_fieldAt (by repeat (first | assumption | exact hs_self (by assumption) | exact hs_self (hs_ne (by omega) (by assumption)) | exact hs_self (hs_ne (by omega) (hs_ne (by omega) (by assumption))) | refine hs_ne (by omega) ?_)) rfl (by decide) rfl (Nat.le_of_ble_eq_true rfl) (by decide) (by decide) ?_
  refine x_astore d_PR_compute_5 (Nat.le_of_ble_eq_true rfl) (by first | rfl | assumption) ?_
  refine x_aload_n d_PR_compute_7 rfl rfl (by first | rfl | assumption) ?_
  refine x_iload_n d_PR_compute_8 rfl rfl ?_
  refine x_callV1 (M' := M_PR_fieldAt) d_PR_compute_9 lk_PR_59 (w_fieldAt b hO hW hb) mt_PR_fieldAt im_PR_fieldAt se_PR_fieldAt (by repeat (first | assumption | exact hs_self (by assumption) | exact hs_self (hs_ne (by omega) (by assumption)) | exact hs_self (hs_ne (by omega) (hs_ne (by omega) (by assumption))) | refine hs_ne (by omega) ?_)) rfl (by decide) rfl (Nat.le_of_ble_eq_true rfl) (by decide) (by decide) ?_
  refine x_astore d_PR_compute_12 (Nat.le_of_ble_eq_true rfl) (by first | rfl | assumption) ?_
  refine x_aload_n d_PR_compute_14 rfl rfl (by first | rfl | assumption) ?_
  refine x_iload d_PR_compute_15 rfl ?_
  refine x_callV1 (M' := M_PR_fieldAt) d_PR_compute_17 lk_PR_59 (w_fieldAt t hO hW ht) mt_PR_fieldAt im_PR_fieldAt se_PR_fieldAt (by repeat (first | assumption | exact hs_self (by assumption) | exact hs_self (hs_ne (by omega) (by assumption)) | exact hs_self (hs_ne (by omega) (hs_ne (by omega) (by assumption))) | refine hs_ne (by omega) ?_)) rfl (by decide) rfl (Nat.le_of_ble_eq_true rfl) (by decide) (by decide) ?_
  refine x_astore d_PR_compute_20 (Nat.le_of_ble_eq_true rfl) (by first | rfl | assumption) ?_
  refine x_loc (L' := [some (.ref po), some (vI op), some (vI a), some (vI b), some (vI t), some (vI md), some (gF S Y a), some (gF S Y b), some (gF S Y t), none, none, none, none, none, none, none]) (by unfold gF; split <;> split <;> split <;> rfl) ?_
  refine x_iload_n d_PR_compute_22 rfl rfl ?_
  refine x_callS1 (M' := M_PR_isOperation) d_PR_compute_23 lk_PR_101 (c_isOperation E h op hop) mt_PR_isOperation st_PR_isOperation (by decide) rfl (Nat.le_of_ble_eq_true rfl) (by decide) (by decide) ?_
  refine j_if_eq 58 d_PR_compute_26 (by decide) (by unfold iR; split <;> omega) (fun c26 => ?_) (fun c26 => ?_)
  · rw [ite10] at c26
    exact bad (fun x => c26 x.1) _
  · rw [ite10] at c26
    refine x_iload d_PR_compute_29 rfl ?_
    refine x_callS1 (M' := M_PR_isMode) d_PR_compute_31 lk_PR_104 (c_isMode E h md hmd) mt_PR_isMode st_PR_isMode (by decide) rfl (Nat.le_of_ble_eq_true rfl) (by decide) (by decide) ?_
    refine j_if_eq 58 d_PR_compute_34 (by decide) (by unfold iR; split <;> omega) (fun c34 => ?_) (fun c34 => ?_)
    · rw [ite10] at c34
      exact bad (fun x => c34 x.2.1) _
    · rw [ite10] at c34
      refine x_aload d_PR_compute_37 rfl (by first | rfl | assumption) ?_
      refine x_callS1 (M' := M_PR_isOperand) d_PR_compute_39 lk_PR_107 (w_isOperand a hO hW) mt_PR_isOperand st_PR_isOperand (by decide) rfl (Nat.le_of_ble_eq_true rfl) (by decide) (by decide) ?_
      refine j_if_eq 58 d_PR_compute_42 (by decide) (op01_i S a) (fun c42 => ?_) (fun c42 => ?_)
      · exact bad (fun x => op01_0.mp c42 x.2.2.1) _
      · refine x_aload d_PR_compute_45 rfl (by first | rfl | assumption) ?_
        refine x_callS1 (M' := M_PR_isOperand) d_PR_compute_47 lk_PR_107 (w_isOperand b hO hW) mt_PR_isOperand st_PR_isOperand (by decide) rfl (Nat.le_of_ble_eq_true rfl) (by decide) (by decide) ?_
        refine j_if_eq 58 d_PR_compute_50 (by decide) (op01_i S b) (fun c50 => ?_) (fun c50 => ?_)
        · exact bad (fun x => op01_0.mp c50 x.2.2.2.1) _
        · refine x_aload d_PR_compute_53 rfl (by first | rfl | assumption) ?_
          refine x_ifnonnull 60 d_PR_compute_55 (by first | rfl | assumption) (by decide) (fun c55 => ?_) (fun c55 => ?_)
          · have hoa := opd_of c42
            have hob := opd_of c50
            have hot := th_of c55
            rw [gF_pos hoa.1, gF_pos hob.1, gF_pos hot]
            exact main ⟨Classical.not_not.mp c26, Classical.not_not.mp c34, hoa, hob, hot⟩
          · exact bad (fun x => gF_null.mp c55 x.2.2.2.2) _
