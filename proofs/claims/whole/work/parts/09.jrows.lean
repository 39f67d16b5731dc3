theorem gw_abs : Cond.static Lib.MathLoose.abs_long.x ∈ GW ∧ Cond.initialized "java/lang/Math" ∈ GW ∧ Cond.code Lib.MathLoose.abs_long.x Lib.MathLoose.abs_long.code 2 (some .long) ∈ GW := ⟨gwT2 168 rfl rfl, gwT1 8 rfl rfl, gwT2 169 rfl rfl⟩
/-! the same rows with every number an Int -/
def iF (g : Nat → Int) : Nat → Int32 := fun j => iI (g j)
def lF (g : Nat → Int) : Nat → Int64 := fun j => lI (g j)
def gU (g : Nat → Int) (k : Nat) (x : Int) : Nat → Int := fun j => if j = k then x else g j
theorem iF_upd (g : Nat → Int) (k : Nat) (x : Int) : upd (iF g) k (iI x) = iF (gU g k x) := by
  funext j
  unfold iF gU upd
  split <;> rfl
theorem lF_upd (g : Nat → Int) (k : Nat) (x : Int) : vp_updL (lF g) k (lI x) = lF (gU g k x) := by
  funext j
  unfold lF gU vp_updL
  split <;> rfl
theorem gU_self (g : Nat → Int) (k : Nat) (x : Int) : gU g k x k = x := by simp [gU]
theorem gU_ne (g : Nat → Int) {k j : Nat} (x : Int) (h : j ≠ k) : gU g k x j = g j := by simp [gU, h]
abbrev aI (nn : Nat) (g : Nat → Int) : va_E := .inl (0, nn, .inl (iF g))
abbrev aL (nn : Nat) (g : Nat → Int) : va_E := .inl (1, nn, .inr (.inl (lF g)))
abbrev aC (nn : Nat) (g : Nat → Int) : va_E := .inl (2, nn, .inl (iF g))
abbrev aZ (nn : Nat) (g : Nat → Int) : va_E := .inl (3, nn, .inl (iF g))
abbrev aR (nn : Nat) (f : Nat → Option Nat) : va_E := .inl (4, nn, .inr (.inr (.inr (.inr f))))
abbrev ob (ci : Nat) (fs : List Value) : va_E := .inr (ci, fs)
abbrev vI (z : Int) : Value := .int (iI z)
abbrev vL (z : Int) : Value := .long (lI z)
theorem nar_c {z : Int} (h1 : 0 ≤ z) (h2 : z < 65536) : narrow .char (.int (iI z)) = .int (iI z) ∧ fits .char (.int (iI z)) = true ∧ vp_nar .char (iI z) = iI z := by
  obtain ⟨n, rfl⟩ := Int.eq_ofNat_of_zero_le h1
  rw [iI_nI]
  have := pk_charN (q := n) (by omega)
  refine ⟨this.1, this.2, ?_⟩
  unfold vp_nar
  rw [this.1]
theorem nar_z {z : Int} (h : z = 0 ∨ z = 1) : narrow .boolean (.int (iI z)) = .int (iI z) ∧ fits .boolean (.int (iI z)) = true ∧ vp_nar .boolean (iI z) = iI z := by
  rcases h with rfl | rfl <;> refine ⟨by decide, by decide, by decide⟩
theorem hs_self {h : xH} {b : Nat} {e e0 : va_E} (hb : h[b]? = some e0) : (h.set b e)[b]? = some e := List.getElem?_set_self (List.getElem?_eq_some_iff.mp hb).1
theorem hs_ne {h : xH} {b o : Nat} {e e1 : va_E} (hne : b ≠ o) (ho : h[o]? = some e1) : (h.set b e)[o]? = some e1 := by rw [List.getElem?_set_ne hne]; exact ho
theorem ha_old {h : xH} {o : Nat} {e e1 : va_E} (ho : h[o]? = some e1) : (h ++ [e])[o]? = some e1 := by
  rw [List.getElem?_append_left (List.getElem?_eq_some_iff.mp ho).1]; exact ho
theorem ha_new {h : xH} {o : Nat} {e : va_E} (ho : h.length = o) : (h ++ [e])[o]? = some e := by
  subst ho; simp
theorem cmp_v (a b : Int) : Value.int (if b < a then (1 : Int32) else if a = b then 0 else -1) = vI (if b < a then 1 else if a = b then 0 else -1) := by
  by_cases h1 : b < a
  · rw [if_pos h1, if_pos h1]; rfl
  · by_cases h2 : a = b
    · rw [if_neg h1, if_neg h1, if_pos h2, if_pos h2]; rfl
    · rw [if_neg h1, if_neg h1, if_neg h2, if_neg h2]; rfl
theorem cmp_r (a b : Int) : iR (if b < a then 1 else if a = b then 0 else -1) := by
  unfold iR
  by_cases h1 : b < a
  · rw [if_pos h1]; decide
  · by_cases h2 : a = b
    · rw [if_neg h1, if_pos h2]; decide
    · rw [if_neg h1, if_neg h2]; decide
section JR
variable {E : xEnv} {M : xM} {d K N : Nat} {Z : xEnd} {post : Option Value → xH → Prop} {pc : Nat} {L : List (Option Value)} {st : List Value} {h : xH} {k n : Nat}
theorem x_top {v w : Value} (e : v = w) (kk : X E M d K N Z pc L (w :: st) h k n) : X E M d K N Z pc L (v :: st) h k n := by rw [e]; exact kk
theorem j_iadd {a b : Int} (hd : decode M.2.1 pc = .ok (.iadd, 1)) (kk : X E M d K N Z (pc + 1) L (vI (a + b) :: st) h k n) : X E M d K N Z pc L (vI b :: vI a :: st) h k n := x_iadd hd (by rw [iI_add]; exact kk)
theorem j_isub {a b : Int} (hd : decode M.2.1 pc = .ok (.isub, 1)) (kk : X E M d K N Z (pc + 1) L (vI (a - b) :: st) h k n) : X E M d K N Z pc L (vI b :: vI a :: st) h k n := x_isub hd (by rw [iI_sub]; exact kk)
theorem j_imul {a b : Int} (hd : decode M.2.1 pc = .ok (.imul, 1)) (kk : X E M d K N Z (pc + 1) L (vI (a * b) :: st) h k n) : X E M d K N Z pc L (vI b :: vI a :: st) h k n := x_imul hd (by rw [iI_mul]; exact kk)
theorem j_ladd {a b : Int} (hd : decode M.2.1 pc = .ok (.ladd, 1)) (kk : X E M d K N Z (pc + 1) L (vL (a + b) :: st) h k n) : X E M d K N Z pc L (vL b :: vL a :: st) h k n := x_ladd hd (by rw [lI_add]; exact kk)
theorem j_lsub {a b : Int} (hd : decode M.2.1 pc = .ok (.lsub, 1)) (kk : X E M d K N Z (pc + 1) L (vL (a - b) :: st) h k n) : X E M d K N Z pc L (vL b :: vL a :: st) h k n := x_lsub hd (by rw [lI_sub]; exact kk)
theorem j_lmul {a b : Int} (hd : decode M.2.1 pc = .ok (.lmul, 1)) (kk : X E M d K N Z (pc + 1) L (vL (a * b) :: st) h k n) : X E M d K N Z pc L (vL b :: vL a :: st) h k n := x_lmul hd (by rw [lI_mul]; exact kk)
theorem j_ineg {a : Int} (hd : decode M.2.1 pc = .ok (.ineg, 1)) (kk : X E M d K N Z (pc + 1) L (vI (-a) :: st) h k n) : X E M d K N Z pc L (vI a :: st) h k n := x_ineg hd (by rw [iI_neg]; exact kk)
theorem j_lneg {a : Int} (hd : decode M.2.1 pc = .ok (.lneg, 1)) (kk : X E M d K N Z (pc + 1) L (vL (-a) :: st) h k n) : X E M d K N Z pc L (vL a :: st) h k n := x_lneg hd (by rw [lI_neg]; exact kk)
theorem j_idiv {a b : Int} (hd : decode M.2.1 pc = .ok (.idiv, 1)) (ha : iR a) (hb : iR b) (h0 : ¬ b = 0) (kk : X E M d K N Z (pc + 1) L (vI (a.tdiv b) :: st) h k n) : X E M d K N Z pc L (vI b :: vI a :: st) h k n := x_idiv hd (fun q => h0 (((iI_eq hb ⟨by decide, by decide⟩).mp (q : iI b = iI 0)))) (by rw [iI_div ha hb]; exact kk)
theorem j_irem {a b : Int} (hd : decode M.2.1 pc = .ok (.irem, 1)) (ha : iR a) (hb : iR b) (h0 : ¬ b = 0) (kk : X E M d K N Z (pc + 1) L (vI (a.tmod b) :: st) h k n) : X E M d K N Z pc L (vI b :: vI a :: st) h k n := x_irem hd (fun q => h0 (((iI_eq hb ⟨by decide, by decide⟩).mp (q : iI b = iI 0)))) (by rw [iI_rem ha hb]; exact kk)
theorem j_ldiv {a b : Int} (hd : decode M.2.1 pc = .ok (.ldiv, 1)) (ha : lR a) (hb : lR b) (h0 : ¬ b = 0) (kk : X E M d K N Z (pc + 1) L (vL (a.tdiv b) :: st) h k n) : X E M d K N Z pc L (vL b :: vL a :: st) h k n := x_ldiv hd (fun q => h0 (((lI_eq hb ⟨by decide, by decide⟩).mp (q : lI b = lI 0)))) (by rw [lI_div ha hb]; exact kk)
theorem j_lrem {a b : Int} (hd : decode M.2.1 pc = .ok (.lrem, 1)) (ha : lR a) (hb : lR b) (h0 : ¬ b = 0) (kk : X E M d K N Z (pc + 1) L (vL (a.tmod b) :: st) h k n) : X E M d K N Z pc L (vL b :: vL a :: st) h k n := x_lrem hd (fun q => h0 (((lI_eq hb ⟨by decide, by decide⟩).mp (q : lI b = lI 0)))) (by rw [lI_rem ha hb]; exact kk)
theorem j_i2l {a : Int} (hd : decode M.2.1 pc = .ok (.i2l, 1)) (ha : iR a) (kk : X E M d K N Z (pc + 1) L (vL a :: st) h k n) : X E M d K N Z pc L (vI a :: st) h k n := x_i2l hd (by rw [iI_l ha]; exact kk)
theorem j_l2i {a : Int} (hd : decode M.2.1 pc = .ok (.l2i, 1)) (kk : X E M d K N Z (pc + 1) L (vI a :: st) h k n) : X E M d K N Z pc L (vL a :: st) h k n := x_l2i hd (by rw [lI_i]; exact kk)
theorem j_iinc {i : Nat} {z a : Int} (hd : decode M.2.1 pc = .ok (.iinc i z, 3)) (hl : L[i]? = some (some (vI a))) (kk : X E M d K N Z (pc + 3) (xs1 L i (vI (a + z))) st h k n) : X E M d K N Z pc L st h k n := x_iinc hd hl (by rw [show Int32.ofInt z = iI z from rfl, iI_add]; exact kk)
theorem j_iconst {i : Int} (hd : decode M.2.1 pc = .ok (.iconst i, 1)) (kk : X E M d K N Z (pc + 1) L (vI i :: st) h k n) : X E M d K N Z pc L st h k n := x_iconst hd rfl kk
theorem j_bipush {i : Int} (hd : decode M.2.1 pc = .ok (.bipush i, 2)) (hv : (Int8.ofInt i).toInt32 = iI i) (kk : X E M d K N Z (pc + 2) L (vI i :: st) h k n) : X E M d K N Z pc L st h k n := x_bipush hd hv kk
theorem j_sipush {i : Int} (hd : decode M.2.1 pc = .ok (.sipush i, 3)) (hv : (Int16.ofInt i).toInt32 = iI i) (kk : X E M d K N Z (pc + 3) L (vI i :: st) h k n) : X E M d K N Z pc L st h k n := x_sipush hd hv kk
theorem j_lconst {i : Fin 2} (z : Int) (hd : decode M.2.1 pc = .ok (.lconst i, 1)) (hv : Int64.ofNat (i : Nat) = lI z) (kk : X E M d K N Z (pc + 1) L (vL z :: st) h k n) : X E M d K N Z pc L st h k n := x_lconst hd hv kk
theorem j_if_eq {a : Int} {off : Int} (tgt : Nat) (hd : decode M.2.1 pc = .ok (.ifCond .eq off, 3)) (ht : (pc : Int) + off = (tgt : Int)) (ha : iR a) (kt : a = 0 → X E M d K N Z tgt L st h k n) (kf : ¬ a = 0 → X E M d K N Z (pc + 3) L st h k n) : X E M d K N Z pc L (vI a :: st) h k n := x_if_eq tgt hd ht (fun q => kt ((iI_eq ha ⟨by decide, by decide⟩).mp q)) (fun q => kf (fun z => q ((iI_eq ha ⟨by decide, by decide⟩).mpr z)))
theorem j_lcmp_eq {a b : Int} {off : Int} (tgt : Nat) (hd1 : decode M.2.1 pc = .ok (.lcmp, 1)) (hd : decode M.2.1 (pc + 1) = .ok (.ifCond .eq off, 3)) (ht : ((pc + 1 : Nat) : Int) + off = (tgt : Int)) (ha : lR a) (hb : lR b) (kt : a = b → X E M d K N Z tgt L st h k n) (kf : ¬ a = b → X E M d K N Z (pc + 1 + 3) L st h k n) : X E M d K N Z pc L (vL b :: vL a :: st) h k n := by
  refine x_lcmp hd1 (x_top (w := vI (if b < a then 1 else if a = b then 0 else -1)) (by rw [lI_cmp ha hb]; exact cmp_v a b) (j_if_eq tgt hd ht (cmp_r a b) (fun q => kt ?_) (fun q => kf ?_)))
  · revert q; repeat' split <;> omega
  · revert q; repeat' split <;> omega
theorem j_icmp_eq {a b : Int} {off : Int} (tgt : Nat) (hd : decode M.2.1 pc = .ok (.if_icmp .eq off, 3)) (ht : (pc : Int) + off = (tgt : Int)) (ha : iR a) (hb : iR b) (kt : a = b → X E M d K N Z tgt L st h k n) (kf : ¬ a = b → X E M d K N Z (pc + 3) L st h k n) : X E M d K N Z pc L (vI b :: vI a :: st) h k n := x_icmp_eq tgt hd ht (fun q => kt ((iI_eq ha hb).mp q)) (fun q => kf (fun z => q ((iI_eq ha hb).mpr z)))
theorem j_if_ne {a : Int} {off : Int} (tgt : Nat) (hd : decode M.2.1 pc = .ok (.ifCond .ne off, 3)) (ht : (pc : Int) + off = (tgt : Int)) (ha : iR a) (kt : ¬ a = 0 → X E M d K N Z tgt L st h k n) (kf : a = 0 → X E M d K N Z (pc + 3) L st h k n) : X E M d K N Z pc L (vI a :: st) h k n := x_if_ne tgt hd ht (fun q => kt (fun z => q ((iI_eq ha ⟨by decide, by decide⟩).mpr z))) (fun q => kf ((iI_eq ha ⟨by decide, by decide⟩).mp q))
theorem j_lcmp_ne {a b : Int} {off : Int} (tgt : Nat) (hd1 : decode M.2.1 pc = .ok (.lcmp, 1)) (hd : decode M.2.1 (pc + 1) = .ok (.ifCond .ne off, 3)) (ht : ((pc + 1 : Nat) : Int) + off = (tgt : Int)) (ha : lR a) (hb : lR b) (kt : ¬ a = b → X E M d K N Z tgt L st h k n) (kf : a = b → X E M d K N Z (pc + 1 + 3) L st h k n) : X E M d K N Z pc L (vL b :: vL a :: st) h k n := by
  refine x_lcmp hd1 (x_top (w := vI (if b < a then 1 else if a = b then 0 else -1)) (by rw [lI_cmp ha hb]; exact cmp_v a b) (j_if_ne tgt hd ht (cmp_r a b) (fun q => kt ?_) (fun q => kf ?_)))
  · revert q; repeat' split <;> omega
  · revert q; repeat' split <;> omega
theorem j_icmp_ne {a b : Int} {off : Int} (tgt : Nat) (hd : decode M.2.1 pc = .ok (.if_icmp .ne off, 3)) (ht : (pc : Int) + off = (tgt : Int)) (ha : iR a) (hb : iR b) (kt : ¬ a = b → X E M d K N Z tgt L st h k n) (kf : a = b → X E M d K N Z (pc + 3) L st h k n) : X E M d K N Z pc L (vI b :: vI a :: st) h k n := x_icmp_ne tgt hd ht (fun q => kt (fun z => q ((iI_eq ha hb).mpr z))) (fun q => kf ((iI_eq ha hb).mp q))
theorem j_if_lt {a : Int} {off : Int} (tgt : Nat) (hd : decode M.2.1 pc = .ok (.ifCond .lt off, 3)) (ht : (pc : Int) + off = (tgt : Int)) (ha : iR a) (kt : a < 0 → X E M d K N Z tgt L st h k n) (kf : ¬ a < 0 → X E M d K N Z (pc + 3) L st h k n) : X E M d K N Z pc L (vI a :: st) h k n := x_if_lt tgt hd ht (fun q => kt ((iI_lt ha ⟨by decide, by decide⟩).mp q)) (fun q => kf (fun z => q ((iI_lt ha ⟨by decide, by decide⟩).mpr z)))
theorem j_lcmp_lt {a b : Int} {off : Int} (tgt : Nat) (hd1 : decode M.2.1 pc = .ok (.lcmp, 1)) (hd : decode M.2.1 (pc + 1) = .ok (.ifCond .lt off, 3)) (ht : ((pc + 1 : Nat) : Int) + off = (tgt : Int)) (ha : lR a) (hb : lR b) (kt : a < b → X E M d K N Z tgt L st h k n) (kf : ¬ a < b → X E M d K N Z (pc + 1 + 3) L st h k n) : X E M d K N Z pc L (vL b :: vL a :: st) h k n := by
  refine x_lcmp hd1 (x_top (w := vI (if b < a then 1 else if a = b then 0 else -1)) (by rw [lI_cmp ha hb]; exact cmp_v a b) (j_if_lt tgt hd ht (cmp_r a b) (fun q => kt ?_) (fun q => kf ?_)))
  · revert q; repeat' split <;> omega
  · revert q; repeat' split <;> omega
theorem j_icmp_lt {a b : Int} {off : Int} (tgt : Nat) (hd : decode M.2.1 pc = .ok (.if_icmp .lt off, 3)) (ht : (pc : Int) + off = (tgt : Int)) (ha : iR a) (hb : iR b) (kt : a < b → X E M d K N Z tgt L st h k n) (kf : ¬ a < b → X E M d K N Z (pc + 3) L st h k n) : X E M d K N Z pc L (vI b :: vI a :: st) h k n := x_icmp_lt tgt hd ht (fun q => kt ((iI_lt ha hb).mp q)) (fun q => kf (fun z => q ((iI_lt ha hb).mpr z)))
theorem j_if_ge {a : Int} {off : Int} (tgt : Nat) (hd : decode M.2.1 pc = .ok (.ifCond .ge off, 3)) (ht : (pc : Int) + off = (tgt : Int)) (ha : iR a) (kt : 0 ≤ a → X E M d K N Z tgt L st h k n) (kf : ¬ 0 ≤ a → X E M d K N Z (pc + 3) L st h k n) : X E M d K N Z pc L (vI a :: st) h k n := x_if_ge tgt hd ht (fun q => kt ((iI_le ⟨by decide, by decide⟩ ha).mp q)) (fun q => kf (fun z => q ((iI_le ⟨by decide, by decide⟩ ha).mpr z)))
theorem j_lcmp_ge {a b : Int} {off : Int} (tgt : Nat) (hd1 : decode M.2.1 pc = .ok (.lcmp, 1)) (hd : decode M.2.1 (pc + 1) = .ok (.ifCond .ge off, 3)) (ht : ((pc + 1 : Nat) : Int) + off = (tgt : Int)) (ha : lR a) (hb : lR b) (kt : b ≤ a → X E M d K N Z tgt L st h k n) (kf : ¬ b ≤ a → X E M d K N Z (pc + 1 + 3) L st h k n) : X E M d K N Z pc L (vL b :: vL a :: st) h k n := by
  refine x_lcmp hd1 (x_top (w := vI (if b < a then 1 else if a = b then 0 else -1)) (by rw [lI_cmp ha hb]; exact cmp_v a b) (j_if_ge tgt hd ht (cmp_r a b) (fun q => kt ?_) (fun q => kf ?_)))
  · revert q; repeat' split <;> omega
  · revert q; repeat' split <;> omega
theorem j_icmp_ge {a b : Int} {off : Int} (tgt : Nat) (hd : decode M.2.1 pc = .ok (.if_icmp .ge off, 3)) (ht : (pc : Int) + off = (tgt : Int)) (ha : iR a) (hb : iR b) (kt : b ≤ a → X E M d K N Z tgt L st h k n) (kf : ¬ b ≤ a → X E M d K N Z (pc + 3) L st h k n) : X E M d K N Z pc L (vI b :: vI a :: st) h k n := x_icmp_ge tgt hd ht (fun q => kt ((iI_le hb ha).mp q)) (fun q => kf (fun z => q ((iI_le hb ha).mpr z)))
theorem j_if_gt {a : Int} {off : Int} (tgt : Nat) (hd : decode M.2.1 pc = .ok (.ifCond .gt off, 3)) (ht : (pc : Int) + off = (tgt : Int)) (ha : iR a) (kt : 0 < a → X E M d K N Z tgt L st h k n) (kf : ¬ 0 < a → X E M d K N Z (pc + 3) L st h k n) : X E M d K N Z pc L (vI a :: st) h k n := x_if_gt tgt hd ht (fun q => kt ((iI_lt ⟨by decide, by decide⟩ ha).mp q)) (fun q => kf (fun z => q ((iI_lt ⟨by decide, by decide⟩ ha).mpr z)))
theorem j_lcmp_gt {a b : Int} {off : Int} (tgt : Nat) (hd1 : decode M.2.1 pc = .ok (.lcmp, 1)) (hd : decode M.2.1 (pc + 1) = .ok (.ifCond .gt off, 3)) (ht : ((pc + 1 : Nat) : Int) + off = (tgt : Int)) (ha : lR a) (hb : lR b) (kt : b < a → X E M d K N Z tgt L st h k n) (kf : ¬ b < a → X E M d K N Z (pc + 1 + 3) L st h k n) : X E M d K N Z pc L (vL b :: vL a :: st) h k n := by
  refine x_lcmp hd1 (x_top (w := vI (if b < a then 1 else if a = b then 0 else -1)) (by rw [lI_cmp ha hb]; exact cmp_v a b) (j_if_gt tgt hd ht (cmp_r a b) (fun q => kt ?_) (fun q => kf ?_)))
  · revert q; repeat' split <;> omega
  · revert q; repeat' split <;> omega
theorem j_icmp_gt {a b : Int} {off : Int} (tgt : Nat) (hd : decode M.2.1 pc = .ok (.if_icmp .gt off, 3)) (ht : (pc : Int) + off = (tgt : Int)) (ha : iR a) (hb : iR b) (kt : b < a → X E M d K N Z tgt L st h k n) (kf : ¬ b < a → X E M d K N Z (pc + 3) L st h k n) : X E M d K N Z pc L (vI b :: vI a :: st) h k n := x_icmp_gt tgt hd ht (fun q => kt ((iI_lt hb ha).mp q)) (fun q => kf (fun z => q ((iI_lt hb ha).mpr z)))
theorem j_if_le {a : Int} {off : Int} (tgt : Nat) (hd : decode M.2.1 pc = .ok (.ifCond .le off, 3)) (ht : (pc : Int) + off = (tgt : Int)) (ha : iR a) (kt : a ≤ 0 → X E M d K N Z tgt L st h k n) (kf : ¬ a ≤ 0 → X E M d K N Z (pc + 3) L st h k n) : X E M d K N Z pc L (vI a :: st) h k n := x_if_le tgt hd ht (fun q => kt ((iI_le ha ⟨by decide, by decide⟩).mp q)) (fun q => kf (fun z => q ((iI_le ha ⟨by decide, by decide⟩).mpr z)))
theorem j_lcmp_le {a b : Int} {off : Int} (tgt : Nat) (hd1 : decode M.2.1 pc = .ok (.lcmp, 1)) (hd : decode M.2.1 (pc + 1) = .ok (.ifCond .le off, 3)) (ht : ((pc + 1 : Nat) : Int) + off = (tgt : Int)) (ha : lR a) (hb : lR b) (kt : a ≤ b → X E M d K N Z tgt L st h k n) (kf : ¬ a ≤ b → X E M d K N Z (pc + 1 + 3) L st h k n) : X E M d K N Z pc L (vL b :: vL a :: st) h k n := by
  refine x_lcmp hd1 (x_top (w := vI (if b < a then 1 else if a = b then 0 else -1)) (by rw [lI_cmp ha hb]; exact cmp_v a b) (j_if_le tgt hd ht (cmp_r a b) (fun q => kt ?_) (fun q => kf ?_)))
  · revert q; repeat' split <;> omega
  · revert q; repeat' split <;> omega
theorem j_icmp_le {a b : Int} {off : Int} (tgt : Nat) (hd : decode M.2.1 pc = .ok (.if_icmp .le off, 3)) (ht : (pc : Int) + off = (tgt : Int)) (ha : iR a) (hb : iR b) (kt : a ≤ b → X E M d K N Z tgt L st h k n) (kf : ¬ a ≤ b → X E M d K N Z (pc + 3) L st h k n) : X E M d K N Z pc L (vI b :: vI a :: st) h k n := x_icmp_le tgt hd ht (fun q => kt ((iI_le ha hb).mp q)) (fun q => kf (fun z => q ((iI_le ha hb).mpr z)))
theorem j_iald {o nn : Nat} {g : Nat → Int} {z : Int} (hd : decode M.2.1 pc = .ok (.iaload, 1)) (ho : h[o]? = some (aI nn g)) (h1 : 0 ≤ z) (h2 : z < nn) (hn : nn < 2147483648) (kk : X E M d K N Z (pc + 1) L (vI (g z.toNat) :: st) h k n) : X E M d K N Z pc L (vI z :: .ref o :: st) h k n := x_iald hd ho (iI_in h1 h2 hn) (by rw [iI_clamp h1 (by omega)]; exact kk)
theorem j_lald {o nn : Nat} {g : Nat → Int} {z : Int} (hd : decode M.2.1 pc = .ok (.laload, 1)) (ho : h[o]? = some (aL nn g)) (h1 : 0 ≤ z) (h2 : z < nn) (hn : nn < 2147483648) (kk : X E M d K N Z (pc + 1) L (vL (g z.toNat) :: st) h k n) : X E M d K N Z pc L (vI z :: .ref o :: st) h k n := x_lald hd ho (iI_in h1 h2 hn) (by rw [iI_clamp h1 (by omega)]; exact kk)
theorem j_cald {o nn : Nat} {g : Nat → Int} {z : Int} (hd : decode M.2.1 pc = .ok (.caload, 1)) (ho : h[o]? = some (aC nn g)) (h1 : 0 ≤ z) (h2 : z < nn) (hn : nn < 2147483648) (kk : X E M d K N Z (pc + 1) L (vI (g z.toNat) :: st) h k n) : X E M d K N Z pc L (vI z :: .ref o :: st) h k n := x_cald hd ho (iI_in h1 h2 hn) (by rw [iI_clamp h1 (by omega)]; exact kk)
theorem j_zald {o nn : Nat} {g : Nat → Int} {z : Int} (hd : decode M.2.1 pc = .ok (.baload, 1)) (ho : h[o]? = some (aZ nn g)) (h1 : 0 ≤ z) (h2 : z < nn) (hn : nn < 2147483648) (kk : X E M d K N Z (pc + 1) L (vI (g z.toNat) :: st) h k n) : X E M d K N Z pc L (vI z :: .ref o :: st) h k n := x_zald hd ho (iI_in h1 h2 hn) (by rw [iI_clamp h1 (by omega)]; exact kk)
theorem j_aald {o nn : Nat} {f : Nat → Option Nat} {z : Int} (hd : decode M.2.1 pc = .ok (.aaload, 1)) (ho : h[o]? = some (aR nn f)) (h1 : 0 ≤ z) (h2 : z < nn) (hn : nn < 2147483648) (kk : X E M d K N Z (pc + 1) L (xrv (f z.toNat) :: st) h k n) : X E M d K N Z pc L (vI z :: .ref o :: st) h k n := x_aald hd ho (iI_in h1 h2 hn) (by rw [iI_clamp h1 (by omega)]; exact kk)
theorem j_iast {o nn : Nat} {g : Nat → Int} {z x : Int} (hd : decode M.2.1 pc = .ok (.iastore, 1)) (ho : h[o]? = some (aI nn g)) (h1 : 0 ≤ z) (h2 : z < nn) (hn : nn < 2147483648) (kk : X E M d K N Z (pc + 1) L st (h.set o (aI nn (gU g z.toNat x))) k n) : X E M d K N Z pc L (vI x :: vI z :: .ref o :: st) h k n := x_iast hd ho (iI_in h1 h2 hn) (by rw [iI_clamp h1 (by omega), iF_upd]; exact kk)
theorem j_last {o nn : Nat} {g : Nat → Int} {z x : Int} (hd : decode M.2.1 pc = .ok (.lastore, 1)) (ho : h[o]? = some (aL nn g)) (h1 : 0 ≤ z) (h2 : z < nn) (hn : nn < 2147483648) (kk : X E M d K N Z (pc + 1) L st (h.set o (aL nn (gU g z.toNat x))) k n) : X E M d K N Z pc L (vL x :: vI z :: .ref o :: st) h k n := x_last hd ho (iI_in h1 h2 hn) (by rw [iI_clamp h1 (by omega), lF_upd]; exact kk)
theorem j_cast {o nn : Nat} {g : Nat → Int} {z x : Int} (hd : decode M.2.1 pc = .ok (.castore, 1)) (ho : h[o]? = some (aC nn g)) (h1 : 0 ≤ z) (h2 : z < nn) (hn : nn < 2147483648) (hx1 : 0 ≤ x) (hx2 : x < 65536) (kk : X E M d K N Z (pc + 1) L st (h.set o (aC nn (gU g z.toNat x))) k n) : X E M d K N Z pc L (vI x :: vI z :: .ref o :: st) h k n := x_cast hd ho (iI_in h1 h2 hn) (by rw [iI_clamp h1 (by omega), (nar_c hx1 hx2).2.2, iF_upd]; exact kk)
theorem j_zast {o nn : Nat} {g : Nat → Int} {z x : Int} (hd : decode M.2.1 pc = .ok (.bastore, 1)) (ho : h[o]? = some (aZ nn g)) (h1 : 0 ≤ z) (h2 : z < nn) (hn : nn < 2147483648) (hx : x = 0 ∨ x = 1) (kk : X E M d K N Z (pc + 1) L st (h.set o (aZ nn (gU g z.toNat x))) k n) : X E M d K N Z pc L (vI x :: vI z :: .ref o :: st) h k n := x_zast hd ho (iI_in h1 h2 hn) (by rw [iI_clamp h1 (by omega), (nar_z hx).2.2, iF_upd]; exact kk)
theorem j_labs {index : Nat} {a : Int} (hd : decode M.2.1 pc = .ok (.invokestatic index, 3)) (h1 : Cond.methodLink M.1.cls index Lib.MathLoose.abs_long.x ∈ GW) (ha : lR a) (hdd : 1 ≤ d) (hw : (st.map fun v => v.category).sum ≤ 8) (kk : X E M d K N Z (pc + 3) L (vL (a.natAbs : Int) :: st) h k n) : X E M d K N Z pc L (vL a :: st) h k n := x_labs hd h1 gw_abs.1 gw_abs.2.1 gw_abs.2.2 hdd hw (by rw [lI_abs ha]; exact kk)
theorem j_zreturn {a : Int} (hd : decode M.2.1 pc = .ok (.ireturn, 1)) (hr : M.2.2.2 = some .boolean) (ha : a = 0 ∨ a = 1) (kk : post (some (vI a)) h) : X E M d K N (xZ E K N post) pc L [vI a] h k n := x_zreturn hd hr (nar_z ha).1 kk
end JR
