/-! the law's calls -/
def sI (E : xEnv) (z : Int) : Int := (eX E z.toNat).toInt
theorem i32_r (x : Int32) : iR x.toInt := by
  have h1 := Int32.le_toInt x
  have h2 := Int32.toInt_lt x
  unfold iR
  omega
theorem sI_r (E : xEnv) (z : Int) : iR (sI E z) := i32_r _
theorem iI_of (x : Int32) : iI x.toInt = x := Int32.ofInt_toInt x
theorem int_vI (x : Int32) : ∃ z : Int, Value.int x = vI z ∧ iR z := ⟨x.toInt, by rw [show vI x.toInt = Value.int (iI x.toInt) from rfl, iI_of], i32_r x⟩
def cI (z : Int) : Int := (((iI z).toUInt32 % 65536).toInt32).toInt
theorem cI_r (z : Int) : 0 ≤ cI z ∧ cI z < 65536 := by
  unfold cI
  have h : ((iI z).toUInt32 % 65536).toNat < 65536 := by
    rw [UInt32.toNat_mod]
    exact Nat.mod_lt _ (by decide)
  have e : (((iI z).toUInt32 % 65536).toInt32).toInt = (((iI z).toUInt32 % 65536).toNat : Int) := by
    show (((iI z).toUInt32 % 65536).toBitVec).toInt = _
    rw [BitVec.toInt_eq_toNat_of_lt (by show 2 * ((iI z).toUInt32 % 65536).toNat < 2 ^ 32; omega)]
    rfl
  rw [e]
  omega
section XSC
variable {E : xEnv} {M : xM} {d K N : Nat} {Z : xEnd} {pc : Nat} {L : List (Option Value)} {st : List Value} {h : xH} {k n : Nat} {z : Int}
theorem j_scr (hd : decode M.2.1 pc = .ok (.iaload, 1)) (h1 : 0 ≤ z) (h2 : z < eN E) (hn : eN E ≤ 3072) (kk : X E M d K N Z (pc + 1) L (vI (sI E z) :: st) h k n) : X E M d K N Z pc L (vI z :: .retAddr 0 :: st) h k n :=
  j_ti (x := eX E z.toNat) hd (List.mem_of_getElem? (i := 0) rfl) h1 h2 (by omega) rfl (by rw [← iI_of (eX E z.toNat)]; exact kk)
theorem j_scl (hd : decode M.2.1 pc = .ok (.arraylength, 1)) (kk : X E M d K N Z (pc + 1) L (vI (eN E) :: st) h k n) : X E M d K N Z pc L (.retAddr 0 :: st) h k n :=
  x_tlen hd (List.mem_of_getElem? (i := 0) rfl) (by rw [show Int32.ofNat (eN E) = iI ((eN E : Nat) : Int) from (iI_nI _).symm]; exact kk)
theorem j_i2c (hd : decode M.2.1 pc = .ok (.i2c, 1)) (kk : X E M d K N Z (pc + 1) L (vI (cI z) :: st) h k n) : X E M d K N Z pc L (vI z :: st) h k n :=
  x_i2c hd (by rw [← iI_of ((iI z).toUInt32 % 65536).toInt32]; exact kk)
theorem j_same {x : Int} {off : Int} (tgt : Nat) (hd : decode M.2.1 pc = .ok (.if_icmp .eq off, 3)) (ht : (pc : Int) + off = (tgt : Int)) (kk : X E M d K N Z tgt L st h k n) : X E M d K N Z pc L (vI x :: vI x :: st) h k n :=
  x_icmp_eq tgt hd ht (fun _ => kk) (fun q => absurd rfl q)
theorem j_sameL {x : Int} {off : Int} (tgt : Nat) (hd1 : decode M.2.1 pc = .ok (.lcmp, 1)) (hd : decode M.2.1 (pc + 1) = .ok (.ifCond .eq off, 3)) (ht : ((pc + 1 : Nat) : Int) + off = (tgt : Int)) (kk : X E M d K N Z tgt L st h k n) : X E M d K N Z pc L (vL x :: vL x :: st) h k n :=
  x_lcmp hd1 (x_if_eq tgt hd ht (fun _ => kk) (fun q => absurd (by unfold lg_cmp; simp) q))
end XSC
theorem MX_fr {h h' : xH} {S : ST} (hX : MX h 10 S) (hf : frC 0 h h') : MX h' 10 S := by
  obtain ⟨v, A, hW⟩ := hX
  exact ⟨v, A, MW_fr hW (fun i h1 h2 => hf i (by omega) (by omega))⟩
theorem CW_frM {h h' : xH} {Y : LY} {S : ST} (hW : CW h 0 Y S) (hf : frM 10 h h') : CW h' 0 Y S := CW_fr hW (fun i hi => hf i (by omega))
theorem MX_len {h : xH} {S : ST} (hX : MX h 10 S) : 0 + 26 ≤ h.length := by
  obtain ⟨v, A, hW⟩ := hX
  obtain ⟨H, m15⟩ := hW.2.2.2.2.2.2.2.2.1
  have := (List.getElem?_eq_some_iff.mp m15).1
  omega
section LWC
variable {E : xEnv} {Z : xEnd} {h : xH} {k n : Nat} {Y : LY} {S : ST} {i : Int}
/-- the law goes on behind a call -/
def nxt (E : xEnv) (Z : xEnd) (i : Int) (k n : Nat) : Prop := ∀ (h' : xH) (k' n' : Nat) (Y' : LY) (S' : ST), SO S' → CW h' 0 Y' S' → MX h' 10 S' → k' ≤ k + 3 → n' ≤ n + 35 → X E M_LW_law 14 600000 7302250 Z 658 [some (.retAddr 0), some (.ref 0), some (.ref 10), some (vI i)] [] h' k' n'

set_option maxHeartbeats 1000000 in
theorem lw_pic (hE : eN E ≤ 3072) (hi : 0 ≤ i ∧ i + 6 ≤ eN E) (hO : SO S) (hW : CW h 0 Y S) (hX : MX h 10 S) (hk : k + 3 ≤ 600000) (hn : n + 35 ≤ 7302250) (next : nxt E Z i k n) : X E M_LW_law 14 600000 7302250 Z 116 [some (.retAddr 0), some (.ref 0), some (.ref 10), some (vI i)] [] h k n := by
  have w0 := hW.1
  refine x_aload_n d_LW_law_116 rfl rfl (by first | rfl | assumption) ?_
  refine x_aload_n d_LW_law_117 rfl rfl (by first | rfl | assumption) ?_
  refine x_iload_n d_LW_law_118 rfl rfl ?_
  refine j_iconst d_LW_law_119 ?_
  refine j_iadd d_LW_law_120 ?_
  refine j_scr d_LW_law_121 (by omega) (by omega) hE ?_
  refine j_i2c d_LW_law_122 ?_
  refine x_callVq (M' := M_PR_pic) d_LW_law_123 lk_LW_13 (w_pic (cI (sI E (i + 1))) hO hW (cI_r _)) mt_PR_pic im_PR_pic se_PR_pic (by repeat (first | assumption | exact hs_self (by assumption) | exact hs_self (hs_ne (by omega) (by assumption)) | exact hs_self (hs_ne (by omega) (hs_ne (by omega) (by assumption))) | refine hs_ne (by omega) ?_)) rfl (by decide) rfl (Nat.le_of_ble_eq_true rfl) (by omega) (by omega) ?_
  rintro v h1 ⟨rfl, hW1, hf1⟩
  have hX1 := MX_fr hX hf1
  obtain ⟨v, A, ⟨so, m0⟩, -⟩ := id hX1
  refine x_aload_n d_LW_law_126 rfl rfl (by first | rfl | assumption) ?_
  refine x_aload_n d_LW_law_127 rfl rfl (by first | rfl | assumption) ?_
  refine x_iload_n d_LW_law_128 rfl rfl ?_
  refine j_iconst d_LW_law_129 ?_
  refine j_iadd d_LW_law_130 ?_
  refine j_scr d_LW_law_131 (by omega) (by omega) hE ?_
  refine j_i2c d_LW_law_132 ?_
  refine x_callVq (M' := M_MD_pic) d_LW_law_133 lk_LW_17 (m_pic (cI (sI E (i + 1))) hO hX1 (cI_r _)) mt_MD_pic im_MD_pic se_MD_pic (by repeat (first | assumption | exact hs_self (by assumption) | exact hs_self (hs_ne (by omega) (by assumption)) | exact hs_self (hs_ne (by omega) (hs_ne (by omega) (by assumption))) | refine hs_ne (by omega) ?_)) rfl (by decide) rfl (Nat.le_of_ble_eq_true rfl) (by omega) (by omega) ?_
  rintro v2 h2 ⟨rfl, hX2, hf2⟩
  have hW2 := CW_frM hW1 hf2
  refine j_same 658 d_LW_law_136 (by decide) ?_
  exact next _ _ _ _ _ (SO_pic (cI (sI E (i + 1))) hO) hW2 hX2 (by omega) (by omega)
set_option maxHeartbeats 1000000 in
theorem lw_scrap (hE : eN E ≤ 3072) (hi : 0 ≤ i ∧ i + 6 ≤ eN E) (hO : SO S) (hW : CW h 0 Y S) (hX : MX h 10 S) (hk : k + 3 ≤ 600000) (hn : n + 35 ≤ 7302250) (next : nxt E Z i k n) : X E M_LW_law 14 600000 7302250 Z 141 [some (.retAddr 0), some (.ref 0), some (.ref 10), some (vI i)] [] h k n := by
  have w0 := hW.1
  refine x_aload_n d_LW_law_141 rfl rfl (by first | rfl | assumption) ?_
  refine x_callVp (M' := M_PR_scrap) d_LW_law_142 lk_LW_18 (w_scrap hW) mt_PR_scrap im_PR_scrap se_PR_scrap (by repeat (first | assumption | exact hs_self (by assumption) | exact hs_self (hs_ne (by omega) (by assumption)) | exact hs_self (hs_ne (by omega) (hs_ne (by omega) (by assumption))) | refine hs_ne (by omega) ?_)) rfl (by decide) rfl (Nat.le_of_ble_eq_true rfl) (by omega) (by omega) ?_
  rintro h1 ⟨hW1, hf1⟩
  have hX1 := MX_fr hX hf1
  obtain ⟨v, A, ⟨so, m0⟩, -⟩ := id hX1
  refine x_aload_n d_LW_law_145 rfl rfl (by first | rfl | assumption) ?_
  refine x_callVp (M' := M_MD_scrap) d_LW_law_146 lk_LW_21 (m_scrap hX1) mt_MD_scrap im_MD_scrap se_MD_scrap (by repeat (first | assumption | exact hs_self (by assumption) | exact hs_self (hs_ne (by omega) (by assumption)) | exact hs_self (hs_ne (by omega) (hs_ne (by omega) (by assumption))) | refine hs_ne (by omega) ?_)) rfl (by decide) rfl (Nat.le_of_ble_eq_true rfl) (by omega) (by omega) ?_
  rintro h2 ⟨hX2, hf2⟩
  have hW2 := CW_frM hW1 hf2
  refine x_goto 658 d_LW_law_149 (by decide) ?_
  exact next _ _ _ _ _ (SO_scrap hO) hW2 hX2 (by omega) (by omega)
set_option maxHeartbeats 1000000 in
theorem lw_field (hE : eN E ≤ 3072) (hi : 0 ≤ i ∧ i + 6 ≤ eN E) (hO : SO S) (hW : CW h 0 Y S) (hX : MX h 10 S) (hk : k + 3 ≤ 600000) (hn : n + 35 ≤ 7302250) (next : nxt E Z i k n) : X E M_LW_law 14 600000 7302250 Z 152 [some (.retAddr 0), some (.ref 0), some (.ref 10), some (vI i)] [] h k n := by
  have w0 := hW.1
  have hlen := MX_len hX
  refine x_aload_n d_LW_law_152 rfl rfl (by first | rfl | assumption) ?_
  refine x_aload_n d_LW_law_153 rfl rfl (by first | rfl | assumption) ?_
  refine x_iload_n d_LW_law_154 rfl rfl ?_
  refine j_iconst d_LW_law_155 ?_
  refine j_iadd d_LW_law_156 ?_
  refine j_scr d_LW_law_157 (by omega) (by omega) hE ?_
  refine x_aload_n d_LW_law_158 rfl rfl (by first | rfl | assumption) ?_
  refine x_iload_n d_LW_law_159 rfl rfl ?_
  refine j_iconst d_LW_law_160 ?_
  refine j_iadd d_LW_law_161 ?_
  refine j_scr d_LW_law_162 (by omega) (by omega) hE ?_
  refine x_callVq (M' := M_PR_field) d_LW_law_163 lk_LW_22 (w_field (sI E (i + 1)) (sI E (i + 2)) hO hW hlen (sI_r E _) (sI_r E _)) mt_PR_field im_PR_field se_PR_field (by repeat (first | assumption | exact hs_self (by assumption) | exact hs_self (hs_ne (by omega) (by assumption)) | exact hs_self (hs_ne (by omega) (hs_ne (by omega) (by assumption))) | refine hs_ne (by omega) ?_)) rfl (by decide) rfl (Nat.le_of_ble_eq_true rfl) (by omega) (by omega) ?_
  rintro v h1 ⟨Y', G', hg, rfl, hW1, hf1⟩
  have hX1 := MX_fr hX hf1
  obtain ⟨v, A, ⟨so, m0⟩, -⟩ := id hX1
  refine x_aload_n d_LW_law_166 rfl rfl (by first | rfl | assumption) ?_
  refine x_aload_n d_LW_law_167 rfl rfl (by first | rfl | assumption) ?_
  refine x_iload_n d_LW_law_168 rfl rfl ?_
  refine j_iconst d_LW_law_169 ?_
  refine j_iadd d_LW_law_170 ?_
  refine j_scr d_LW_law_171 (by omega) (by omega) hE ?_
  refine x_aload_n d_LW_law_172 rfl rfl (by first | rfl | assumption) ?_
  refine x_iload_n d_LW_law_173 rfl rfl ?_
  refine j_iconst d_LW_law_174 ?_
  refine j_iadd d_LW_law_175 ?_
  refine j_scr d_LW_law_176 (by omega) (by omega) hE ?_
  refine x_callVq (M' := M_MD_field) d_LW_law_177 lk_LW_26 (m_field (sI E (i + 1)) (sI E (i + 2)) G' hg hO hX1 (sI_r E _) (sI_r E _)) mt_MD_field im_MD_field se_MD_field (by repeat (first | assumption | exact hs_self (by assumption) | exact hs_self (hs_ne (by omega) (by assumption)) | exact hs_self (hs_ne (by omega) (hs_ne (by omega) (by assumption))) | refine hs_ne (by omega) ?_)) rfl (by decide) rfl (Nat.le_of_ble_eq_true rfl) (by omega) (by omega) ?_
  rintro v2 h2 ⟨rfl, hX2, hf2⟩
  have hW2 := CW_frM hW1 hf2
  refine j_same 658 d_LW_law_180 (by decide) ?_
  exact next _ _ _ _ _ (SO_field hO hg) hW2 hX2 (by omega) (by omega)
set_option maxHeartbeats 1000000 in
theorem lw_fields (hE : eN E ≤ 3072) (hi : 0 ≤ i ∧ i + 6 ≤ eN E) (hO : SO S) (hW : CW h 0 Y S) (hX : MX h 10 S) (hk : k + 3 ≤ 600000) (hn : n + 35 ≤ 7302250) (next : nxt E Z i k n) : X E M_LW_law 14 600000 7302250 Z 185 [some (.retAddr 0), some (.ref 0), some (.ref 10), some (vI i)] [] h k n := by
  have w0 := hW.1
  have hX0 := hX
  obtain ⟨v, A, ⟨so, m0⟩, -⟩ := hX0
  refine x_aload_n d_LW_law_185 rfl rfl (by first | rfl | assumption) ?_
  refine x_callV1 (M' := M_PR_fields) d_LW_law_186 lk_LW_27 (w_fields  hW ) mt_PR_fields im_PR_fields se_PR_fields (by repeat (first | assumption | exact hs_self (by assumption) | exact hs_self (hs_ne (by omega) (by assumption)) | exact hs_self (hs_ne (by omega) (hs_ne (by omega) (by assumption))) | refine hs_ne (by omega) ?_)) rfl (by decide) rfl (Nat.le_of_ble_eq_true rfl) (by omega) (by omega) ?_
  refine x_aload_n d_LW_law_189 rfl rfl (by first | rfl | assumption) ?_
  refine x_callV1 (M' := M_MD_fields) d_LW_law_190 lk_LW_31 (m_fields  hX ) mt_MD_fields im_MD_fields se_MD_fields (by repeat (first | assumption | exact hs_self (by assumption) | exact hs_self (hs_ne (by omega) (by assumption)) | exact hs_self (hs_ne (by omega) (hs_ne (by omega) (by assumption))) | refine hs_ne (by omega) ?_)) rfl (by decide) rfl (Nat.le_of_ble_eq_true rfl) (by omega) (by omega) ?_
  refine j_same 658 d_LW_law_193 (by decide) ?_
  exact next _ _ _ _ _ hO hW hX (by omega) (by omega)
set_option maxHeartbeats 1000000 in
theorem lw_size (hE : eN E ≤ 3072) (hi : 0 ≤ i ∧ i + 6 ≤ eN E) (hO : SO S) (hW : CW h 0 Y S) (hX : MX h 10 S) (hk : k + 3 ≤ 600000) (hn : n + 35 ≤ 7302250) (next : nxt E Z i k n) : X E M_LW_law 14 600000 7302250 Z 198 [some (.retAddr 0), some (.ref 0), some (.ref 10), some (vI i)] [] h k n := by
  have w0 := hW.1
  have hX0 := hX
  obtain ⟨v, A, ⟨so, m0⟩, -⟩ := hX0
  refine x_aload_n d_LW_law_198 rfl rfl (by first | rfl | assumption) ?_
  refine x_aload_n d_LW_law_199 rfl rfl (by first | rfl | assumption) ?_
  refine x_iload_n d_LW_law_200 rfl rfl ?_
  refine j_iconst d_LW_law_201 ?_
  refine j_iadd d_LW_law_202 ?_
  refine j_scr d_LW_law_203 (by omega) (by omega) hE ?_
  refine x_callV1 (M' := M_PR_size) d_LW_law_204 lk_LW_32 (w_size (sI E (i + 1)) hO hW (sI_r E _)) mt_PR_size im_PR_size se_PR_size (by repeat (first | assumption | exact hs_self (by assumption) | exact hs_self (hs_ne (by omega) (by assumption)) | exact hs_self (hs_ne (by omega) (hs_ne (by omega) (by assumption))) | refine hs_ne (by omega) ?_)) rfl (by decide) rfl (Nat.le_of_ble_eq_true rfl) (by omega) (by omega) ?_
  refine x_aload_n d_LW_law_207 rfl rfl (by first | rfl | assumption) ?_
  refine x_aload_n d_LW_law_208 rfl rfl (by first | rfl | assumption) ?_
  refine x_iload_n d_LW_law_209 rfl rfl ?_
  refine j_iconst d_LW_law_210 ?_
  refine j_iadd d_LW_law_211 ?_
  refine j_scr d_LW_law_212 (by omega) (by omega) hE ?_
  refine x_callV1 (M' := M_MD_size) d_LW_law_213 lk_LW_36 (m_size (sI E (i + 1)) hO hX (sI_r E _)) mt_MD_size im_MD_size se_MD_size (by repeat (first | assumption | exact hs_self (by assumption) | exact hs_self (hs_ne (by omega) (by assumption)) | exact hs_self (hs_ne (by omega) (hs_ne (by omega) (by assumption))) | refine hs_ne (by omega) ?_)) rfl (by decide) rfl (Nat.le_of_ble_eq_true rfl) (by omega) (by omega) ?_
  refine j_same 658 d_LW_law_216 (by decide) ?_
  exact next _ _ _ _ _ hO hW hX (by omega) (by omega)
set_option maxHeartbeats 1000000 in
theorem lw_shape (hE : eN E ≤ 3072) (hi : 0 ≤ i ∧ i + 6 ≤ eN E) (hO : SO S) (hW : CW h 0 Y S) (hX : MX h 10 S) (hk : k + 3 ≤ 600000) (hn : n + 35 ≤ 7302250) (next : nxt E Z i k n) : X E M_LW_law 14 600000 7302250 Z 221 [some (.retAddr 0), some (.ref 0), some (.ref 10), some (vI i)] [] h k n := by
  have w0 := hW.1
  have hX0 := hX
  obtain ⟨v, A, ⟨so, m0⟩, -⟩ := hX0
  refine x_aload_n d_LW_law_221 rfl rfl (by first | rfl | assumption) ?_
  refine x_aload_n d_LW_law_222 rfl rfl (by first | rfl | assumption) ?_
  refine x_iload_n d_LW_law_223 rfl rfl ?_
  refine j_iconst d_LW_law_224 ?_
  refine j_iadd d_LW_law_225 ?_
  refine j_scr d_LW_law_226 (by omega) (by omega) hE ?_
  refine x_callV1 (M' := M_PR_shape) d_LW_law_227 lk_LW_37 (w_shape (sI E (i + 1)) hO hW (sI_r E _)) mt_PR_shape im_PR_shape se_PR_shape (by repeat (first | assumption | exact hs_self (by assumption) | exact hs_self (hs_ne (by omega) (by assumption)) | exact hs_self (hs_ne (by omega) (hs_ne (by omega) (by assumption))) | refine hs_ne (by omega) ?_)) rfl (by decide) rfl (Nat.le_of_ble_eq_true rfl) (by omega) (by omega) ?_
  refine x_aload_n d_LW_law_230 rfl rfl (by first | rfl | assumption) ?_
  refine x_aload_n d_LW_law_231 rfl rfl (by first | rfl | assumption) ?_
  refine x_iload_n d_LW_law_232 rfl rfl ?_
  refine j_iconst d_LW_law_233 ?_
  refine j_iadd d_LW_law_234 ?_
  refine j_scr d_LW_law_235 (by omega) (by omega) hE ?_
  refine x_callV1 (M' := M_MD_shape) d_LW_law_236 lk_LW_40 (m_shape (sI E (i + 1)) hO hX (sI_r E _)) mt_MD_shape im_MD_shape se_MD_shape (by repeat (first | assumption | exact hs_self (by assumption) | exact hs_self (hs_ne (by omega) (by assumption)) | exact hs_self (hs_ne (by omega) (hs_ne (by omega) (by assumption))) | refine hs_ne (by omega) ?_)) rfl (by decide) rfl (Nat.le_of_ble_eq_true rfl) (by omega) (by omega) ?_
  refine j_same 658 d_LW_law_239 (by decide) ?_
  exact next _ _ _ _ _ hO hW hX (by omega) (by omega)
set_option maxHeartbeats 1000000 in
theorem lw_peek (hE : eN E ≤ 3072) (hi : 0 ≤ i ∧ i + 6 ≤ eN E) (hO : SO S) (hW : CW h 0 Y S) (hX : MX h 10 S) (hk : k + 3 ≤ 600000) (hn : n + 35 ≤ 7302250) (next : nxt E Z i k n) : X E M_LW_law 14 600000 7302250 Z 244 [some (.retAddr 0), some (.ref 0), some (.ref 10), some (vI i)] [] h k n := by
  have w0 := hW.1
  have hX0 := hX
  obtain ⟨v, A, ⟨so, m0⟩, -⟩ := hX0
  refine x_aload_n d_LW_law_244 rfl rfl (by first | rfl | assumption) ?_
  refine x_aload_n d_LW_law_245 rfl rfl (by first | rfl | assumption) ?_
  refine x_iload_n d_LW_law_246 rfl rfl ?_
  refine j_iconst d_LW_law_247 ?_
  refine j_iadd d_LW_law_248 ?_
  refine j_scr d_LW_law_249 (by omega) (by omega) hE ?_
  refine x_callV1 (M' := M_PR_peek) d_LW_law_250 lk_LW_41 (w_peek (sI E (i + 1)) hW (sI_r E _)) mt_PR_peek im_PR_peek se_PR_peek (by repeat (first | assumption | exact hs_self (by assumption) | exact hs_self (hs_ne (by omega) (by assumption)) | exact hs_self (hs_ne (by omega) (hs_ne (by omega) (by assumption))) | refine hs_ne (by omega) ?_)) rfl (by decide) rfl (Nat.le_of_ble_eq_true rfl) (by omega) (by omega) ?_
  refine x_aload_n d_LW_law_253 rfl rfl (by first | rfl | assumption) ?_
  refine x_aload_n d_LW_law_254 rfl rfl (by first | rfl | assumption) ?_
  refine x_iload_n d_LW_law_255 rfl rfl ?_
  refine j_iconst d_LW_law_256 ?_
  refine j_iadd d_LW_law_257 ?_
  refine j_scr d_LW_law_258 (by omega) (by omega) hE ?_
  refine x_callV1 (M' := M_MD_peek) d_LW_law_259 lk_LW_44 (m_peek (sI E (i + 1)) hX (sI_r E _)) mt_MD_peek im_MD_peek se_MD_peek (by repeat (first | assumption | exact hs_self (by assumption) | exact hs_self (hs_ne (by omega) (by assumption)) | exact hs_self (hs_ne (by omega) (hs_ne (by omega) (by assumption))) | refine hs_ne (by omega) ?_)) rfl (by decide) rfl (Nat.le_of_ble_eq_true rfl) (by omega) (by omega) ?_
  refine j_same 658 d_LW_law_262 (by decide) ?_
  exact next _ _ _ _ _ hO hW hX (by omega) (by omega)
set_option maxHeartbeats 1000000 in
theorem lw_poke (hE : eN E ≤ 3072) (hi : 0 ≤ i ∧ i + 6 ≤ eN E) (hO : SO S) (hW : CW h 0 Y S) (hX : MX h 10 S) (hk : k + 3 ≤ 600000) (hn : n + 35 ≤ 7302250) (next : nxt E Z i k n) : X E M_LW_law 14 600000 7302250 Z 267 [some (.retAddr 0), some (.ref 0), some (.ref 10), some (vI i)] [] h k n := by
  have w0 := hW.1
  refine x_aload_n d_LW_law_267 rfl rfl (by first | rfl | assumption) ?_
  refine x_aload_n d_LW_law_268 rfl rfl (by first | rfl | assumption) ?_
  refine x_iload_n d_LW_law_269 rfl rfl ?_
  refine j_iconst d_LW_law_270 ?_
  refine j_iadd d_LW_law_271 ?_
  refine j_scr d_LW_law_272 (by omega) (by omega) hE ?_
  refine x_aload_n d_LW_law_273 rfl rfl (by first | rfl | assumption) ?_
  refine x_iload_n d_LW_law_274 rfl rfl ?_
  refine j_iconst d_LW_law_275 ?_
  refine j_iadd d_LW_law_276 ?_
  refine j_scr d_LW_law_277 (by omega) (by omega) hE ?_
  refine x_callVq (M' := M_PR_poke) d_LW_law_278 lk_LW_45 (w_poke (sI E (i + 1)) (sI E (i + 2)) hW (sI_r E _) (sI_r E _)) mt_PR_poke im_PR_poke se_PR_poke (by repeat (first | assumption | exact hs_self (by assumption) | exact hs_self (hs_ne (by omega) (by assumption)) | exact hs_self (hs_ne (by omega) (hs_ne (by omega) (by assumption))) | refine hs_ne (by omega) ?_)) rfl (by decide) rfl (Nat.le_of_ble_eq_true rfl) (by omega) (by omega) ?_
  rintro v h1 ⟨rfl, hW1, hf1⟩
  have hX1 := MX_fr hX hf1
  obtain ⟨v, A, ⟨so, m0⟩, -⟩ := id hX1
  refine x_aload_n d_LW_law_281 rfl rfl (by first | rfl | assumption) ?_
  refine x_aload_n d_LW_law_282 rfl rfl (by first | rfl | assumption) ?_
  refine x_iload_n d_LW_law_283 rfl rfl ?_
  refine j_iconst d_LW_law_284 ?_
  refine j_iadd d_LW_law_285 ?_
  refine j_scr d_LW_law_286 (by omega) (by omega) hE ?_
  refine x_aload_n d_LW_law_287 rfl rfl (by first | rfl | assumption) ?_
  refine x_iload_n d_LW_law_288 rfl rfl ?_
  refine j_iconst d_LW_law_289 ?_
  refine j_iadd d_LW_law_290 ?_
  refine j_scr d_LW_law_291 (by omega) (by omega) hE ?_
  refine x_callVq (M' := M_MD_poke) d_LW_law_292 lk_LW_49 (m_poke (sI E (i + 1)) (sI E (i + 2)) hX1 (sI_r E _) (sI_r E _)) mt_MD_poke im_MD_poke se_MD_poke (by repeat (first | assumption | exact hs_self (by assumption) | exact hs_self (hs_ne (by omega) (by assumption)) | exact hs_self (hs_ne (by omega) (hs_ne (by omega) (by assumption))) | refine hs_ne (by omega) ?_)) rfl (by decide) rfl (Nat.le_of_ble_eq_true rfl) (by omega) (by omega) ?_
  rintro v2 h2 ⟨rfl, hX2, hf2⟩
  have hW2 := CW_frM hW1 hf2
  refine j_same 658 d_LW_law_295 (by decide) ?_
  exact next _ _ _ _ _ (SO_poke (sI E (i + 1)) (sI E (i + 2)) hO) hW2 hX2 (by omega) (by omega)
set_option maxHeartbeats 1000000 in
theorem lw_value (hE : eN E ≤ 3072) (hi : 0 ≤ i ∧ i + 6 ≤ eN E) (hO : SO S) (hW : CW h 0 Y S) (hX : MX h 10 S) (hk : k + 3 ≤ 600000) (hn : n + 35 ≤ 7302250) (next : nxt E Z i k n) : X E M_LW_law 14 600000 7302250 Z 300 [some (.retAddr 0), some (.ref 0), some (.ref 10), some (vI i)] [] h k n := by
  have w0 := hW.1
  refine x_aload_n d_LW_law_300 rfl rfl (by first | rfl | assumption) ?_
  refine x_aload_n d_LW_law_301 rfl rfl (by first | rfl | assumption) ?_
  refine x_iload_n d_LW_law_302 rfl rfl ?_
  refine j_iconst d_LW_law_303 ?_
  refine j_iadd d_LW_law_304 ?_
  refine j_scr d_LW_law_305 (by omega) (by omega) hE ?_
  refine x_callVq (M' := M_PR_value) d_LW_law_306 lk_LW_50 (w_value (sI E (i + 1)) hO hW (sI_r E _)) mt_PR_value im_PR_value se_PR_value (by repeat (first | assumption | exact hs_self (by assumption) | exact hs_self (hs_ne (by omega) (by assumption)) | exact hs_self (hs_ne (by omega) (hs_ne (by omega) (by assumption))) | refine hs_ne (by omega) ?_)) rfl (by decide) rfl (Nat.le_of_ble_eq_true rfl) (by omega) (by omega) ?_
  rintro v h1 ⟨rfl, hW1, hf1⟩
  have hX1 := MX_fr hX hf1
  obtain ⟨v, A, ⟨so, m0⟩, -⟩ := id hX1
  refine x_aload_n d_LW_law_309 rfl rfl (by first | rfl | assumption) ?_
  refine x_aload_n d_LW_law_310 rfl rfl (by first | rfl | assumption) ?_
  refine x_iload_n d_LW_law_311 rfl rfl ?_
  refine j_iconst d_LW_law_312 ?_
  refine j_iadd d_LW_law_313 ?_
  refine j_scr d_LW_law_314 (by omega) (by omega) hE ?_
  refine x_callVq (M' := M_MD_value) d_LW_law_315 lk_LW_54 (m_value (sI E (i + 1)) hO hX1 (sI_r E _)) mt_MD_value im_MD_value se_MD_value (by repeat (first | assumption | exact hs_self (by assumption) | exact hs_self (hs_ne (by omega) (by assumption)) | exact hs_self (hs_ne (by omega) (hs_ne (by omega) (by assumption))) | refine hs_ne (by omega) ?_)) rfl (by decide) rfl (Nat.le_of_ble_eq_true rfl) (by omega) (by omega) ?_
  rintro v2 h2 ⟨rfl, hX2, hf2⟩
  have hW2 := CW_frM hW1 hf2
  refine j_sameL 658 d_LW_law_318 d_LW_law_319 (by decide) ?_
  exact next _ _ _ _ _ (hO) hW2 hX2 (by omega) (by omega)
set_option maxHeartbeats 1000000 in
theorem lw_put (hE : eN E ≤ 3072) (hi : 0 ≤ i ∧ i + 6 ≤ eN E) (hO : SO S) (hW : CW h 0 Y S) (hX : MX h 10 S) (hk : k + 3 ≤ 600000) (hn : n + 35 ≤ 7302250) (next : nxt E Z i k n) : X E M_LW_law 14 600000 7302250 Z 324 [some (.retAddr 0), some (.ref 0), some (.ref 10), some (vI i)] [] h k n := by
  have w0 := hW.1
  refine x_aload_n d_LW_law_324 rfl rfl (by first | rfl | assumption) ?_
  refine x_aload_n d_LW_law_325 rfl rfl (by first | rfl | assumption) ?_
  refine x_iload_n d_LW_law_326 rfl rfl ?_
  refine j_iconst d_LW_law_327 ?_
  refine j_iadd d_LW_law_328 ?_
  refine j_scr d_LW_law_329 (by omega) (by omega) hE ?_
  refine x_aload_n d_LW_law_330 rfl rfl (by first | rfl | assumption) ?_
  refine x_iload_n d_LW_law_331 rfl rfl ?_
  refine j_iconst d_LW_law_332 ?_
  refine j_iadd d_LW_law_333 ?_
  refine j_scr d_LW_law_334 (by omega) (by omega) hE ?_
  refine x_aload_n d_LW_law_335 rfl rfl (by first | rfl | assumption) ?_
  refine x_iload_n d_LW_law_336 rfl rfl ?_
  refine j_iconst d_LW_law_337 ?_
  refine j_iadd d_LW_law_338 ?_
  refine j_scr d_LW_law_339 (by omega) (by omega) hE ?_
  refine x_callVq (M' := M_PR_put) d_LW_law_340 lk_LW_55 (w_put (sI E (i + 1)) (sI E (i + 2)) (sI E (i + 3)) hO hW (sI_r E _) (sI_r E _) (sI_r E _)) mt_PR_put im_PR_put se_PR_put (by repeat (first | assumption | exact hs_self (by assumption) | exact hs_self (hs_ne (by omega) (by assumption)) | exact hs_self (hs_ne (by omega) (hs_ne (by omega) (by assumption))) | refine hs_ne (by omega) ?_)) rfl (by decide) rfl (Nat.le_of_ble_eq_true rfl) (by omega) (by omega) ?_
  rintro v h1 ⟨rfl, hW1, hf1⟩
  have hX1 := MX_fr hX hf1
  obtain ⟨v, A, ⟨so, m0⟩, -⟩ := id hX1
  refine x_aload_n d_LW_law_343 rfl rfl (by first | rfl | assumption) ?_
  refine x_aload_n d_LW_law_344 rfl rfl (by first | rfl | assumption) ?_
  refine x_iload_n d_LW_law_345 rfl rfl ?_
  refine j_iconst d_LW_law_346 ?_
  refine j_iadd d_LW_law_347 ?_
  refine j_scr d_LW_law_348 (by omega) (by omega) hE ?_
  refine x_aload_n d_LW_law_349 rfl rfl (by first | rfl | assumption) ?_
  refine x_iload_n d_LW_law_350 rfl rfl ?_
  refine j_iconst d_LW_law_351 ?_
  refine j_iadd d_LW_law_352 ?_
  refine j_scr d_LW_law_353 (by omega) (by omega) hE ?_
  refine x_aload_n d_LW_law_354 rfl rfl (by first | rfl | assumption) ?_
  refine x_iload_n d_LW_law_355 rfl rfl ?_
  refine j_iconst d_LW_law_356 ?_
  refine j_iadd d_LW_law_357 ?_
  refine j_scr d_LW_law_358 (by omega) (by omega) hE ?_
  refine x_callVq (M' := M_MD_put) d_LW_law_359 lk_LW_59 (m_put (sI E (i + 1)) (sI E (i + 2)) (sI E (i + 3)) hO hX1 (sI_r E _) (sI_r E _) (sI_r E _)) mt_MD_put im_MD_put se_MD_put (by repeat (first | assumption | exact hs_self (by assumption) | exact hs_self (hs_ne (by omega) (by assumption)) | exact hs_self (hs_ne (by omega) (hs_ne (by omega) (by assumption))) | refine hs_ne (by omega) ?_)) rfl (by decide) rfl (Nat.le_of_ble_eq_true rfl) (by omega) (by omega) ?_
  rintro v2 h2 ⟨rfl, hX2, hf2⟩
  have hW2 := CW_frM hW1 hf2
  refine j_same 658 d_LW_law_362 (by decide) ?_
  exact next _ _ _ _ _ (SO_put (sI E (i + 1)) (sI E (i + 2)) (sI E (i + 3)) hO) hW2 hX2 (by omega) (by omega)
set_option maxHeartbeats 1000000 in
theorem lw_move (hE : eN E ≤ 3072) (hi : 0 ≤ i ∧ i + 6 ≤ eN E) (hO : SO S) (hW : CW h 0 Y S) (hX : MX h 10 S) (hk : k + 3 ≤ 600000) (hn : n + 35 ≤ 7302250) (next : nxt E Z i k n) : X E M_LW_law 14 600000 7302250 Z 367 [some (.retAddr 0), some (.ref 0), some (.ref 10), some (vI i)] [] h k n := by
  have w0 := hW.1
  refine x_aload_n d_LW_law_367 rfl rfl (by first | rfl | assumption) ?_
  refine x_aload_n d_LW_law_368 rfl rfl (by first | rfl | assumption) ?_
  refine x_iload_n d_LW_law_369 rfl rfl ?_
  refine j_iconst d_LW_law_370 ?_
  refine j_iadd d_LW_law_371 ?_
  refine j_scr d_LW_law_372 (by omega) (by omega) hE ?_
  refine x_aload_n d_LW_law_373 rfl rfl (by first | rfl | assumption) ?_
  refine x_iload_n d_LW_law_374 rfl rfl ?_
  refine j_iconst d_LW_law_375 ?_
  refine j_iadd d_LW_law_376 ?_
  refine j_scr d_LW_law_377 (by omega) (by omega) hE ?_
  refine x_callVq (M' := M_PR_move) d_LW_law_378 lk_LW_60 (w_move (sI E (i + 1)) (sI E (i + 2)) hO hW (sI_r E _) (sI_r E _)) mt_PR_move im_PR_move se_PR_move (by repeat (first | assumption | exact hs_self (by assumption) | exact hs_self (hs_ne (by omega) (by assumption)) | exact hs_self (hs_ne (by omega) (hs_ne (by omega) (by assumption))) | refine hs_ne (by omega) ?_)) rfl (by decide) rfl (Nat.le_of_ble_eq_true rfl) (by omega) (by omega) ?_
  rintro v h1 ⟨rfl, hW1, hf1⟩
  have hX1 := MX_fr hX hf1
  obtain ⟨v, A, ⟨so, m0⟩, -⟩ := id hX1
  refine x_aload_n d_LW_law_381 rfl rfl (by first | rfl | assumption) ?_
  refine x_aload_n d_LW_law_382 rfl rfl (by first | rfl | assumption) ?_
  refine x_iload_n d_LW_law_383 rfl rfl ?_
  refine j_iconst d_LW_law_384 ?_
  refine j_iadd d_LW_law_385 ?_
  refine j_scr d_LW_law_386 (by omega) (by omega) hE ?_
  refine x_aload_n d_LW_law_387 rfl rfl (by first | rfl | assumption) ?_
  refine x_iload_n d_LW_law_388 rfl rfl ?_
  refine j_iconst d_LW_law_389 ?_
  refine j_iadd d_LW_law_390 ?_
  refine j_scr d_LW_law_391 (by omega) (by omega) hE ?_
  refine x_callVq (M' := M_MD_move) d_LW_law_392 lk_LW_63 (m_move (sI E (i + 1)) (sI E (i + 2)) hO hX1 (sI_r E _) (sI_r E _)) mt_MD_move im_MD_move se_MD_move (by repeat (first | assumption | exact hs_self (by assumption) | exact hs_self (hs_ne (by omega) (by assumption)) | exact hs_self (hs_ne (by omega) (hs_ne (by omega) (by assumption))) | refine hs_ne (by omega) ?_)) rfl (by decide) rfl (Nat.le_of_ble_eq_true rfl) (by omega) (by omega) ?_
  rintro v2 h2 ⟨rfl, hX2, hf2⟩
  have hW2 := CW_frM hW1 hf2
  refine j_same 658 d_LW_law_395 (by decide) ?_
  exact next _ _ _ _ _ (SO_move (sI E (i + 1)) (sI E (i + 2)) hO) hW2 hX2 (by omega) (by omega)
set_option maxHeartbeats 1000000 in
theorem lw_compute (hE : eN E ≤ 3072) (hi : 0 ≤ i ∧ i + 6 ≤ eN E) (hO : SO S) (hW : CW h 0 Y S) (hX : MX h 10 S) (hk : k + 3 ≤ 600000) (hn : n + 35 ≤ 7302250) (next : nxt E Z i k n) : X E M_LW_law 14 600000 7302250 Z 400 [some (.retAddr 0), some (.ref 0), some (.ref 10), some (vI i)] [] h k n := by
  have w0 := hW.1
  refine x_aload_n d_LW_law_400 rfl rfl (by first | rfl | assumption) ?_
  refine x_aload_n d_LW_law_401 rfl rfl (by first | rfl | assumption) ?_
  refine x_iload_n d_LW_law_402 rfl rfl ?_
  refine j_iconst d_LW_law_403 ?_
  refine j_iadd d_LW_law_404 ?_
  refine j_scr d_LW_law_405 (by omega) (by omega) hE ?_
  refine x_aload_n d_LW_law_406 rfl rfl (by first | rfl | assumption) ?_
  refine x_iload_n d_LW_law_407 rfl rfl ?_
  refine j_iconst d_LW_law_408 ?_
  refine j_iadd d_LW_law_409 ?_
  refine j_scr d_LW_law_410 (by omega) (by omega) hE ?_
  refine x_aload_n d_LW_law_411 rfl rfl (by first | rfl | assumption) ?_
  refine x_iload_n d_LW_law_412 rfl rfl ?_
  refine j_iconst d_LW_law_413 ?_
  refine j_iadd d_LW_law_414 ?_
  refine j_scr d_LW_law_415 (by omega) (by omega) hE ?_
  refine x_aload_n d_LW_law_416 rfl rfl (by first | rfl | assumption) ?_
  refine x_iload_n d_LW_law_417 rfl rfl ?_
  refine j_iconst d_LW_law_418 ?_
  refine j_iadd d_LW_law_419 ?_
  refine j_scr d_LW_law_420 (by omega) (by omega) hE ?_
  refine x_aload_n d_LW_law_421 rfl rfl (by first | rfl | assumption) ?_
  refine x_iload_n d_LW_law_422 rfl rfl ?_
  refine j_iconst d_LW_law_423 ?_
  refine j_iadd d_LW_law_424 ?_
  refine j_scr d_LW_law_425 (by omega) (by omega) hE ?_
  refine x_callVq (M' := M_PR_compute) d_LW_law_426 lk_LW_64 (w_compute (sI E (i + 1)) (sI E (i + 2)) (sI E (i + 3)) (sI E (i + 4)) (sI E (i + 5)) hO hW (sI_r E _) (sI_r E _) (sI_r E _) (sI_r E _) (sI_r E _)) mt_PR_compute im_PR_compute se_PR_compute (by repeat (first | assumption | exact hs_self (by assumption) | exact hs_self (hs_ne (by omega) (by assumption)) | exact hs_self (hs_ne (by omega) (hs_ne (by omega) (by assumption))) | refine hs_ne (by omega) ?_)) rfl (by decide) rfl (Nat.le_of_ble_eq_true rfl) (by omega) (by omega) ?_
  rintro v h1 ⟨rfl, hW1, hf1⟩
  have hX1 := MX_fr hX hf1
  obtain ⟨v, A, ⟨so, m0⟩, -⟩ := id hX1
  refine x_aload_n d_LW_law_429 rfl rfl (by first | rfl | assumption) ?_
  refine x_aload_n d_LW_law_430 rfl rfl (by first | rfl | assumption) ?_
  refine x_iload_n d_LW_law_431 rfl rfl ?_
  refine j_iconst d_LW_law_432 ?_
  refine j_iadd d_LW_law_433 ?_
  refine j_scr d_LW_law_434 (by omega) (by omega) hE ?_
  refine x_aload_n d_LW_law_435 rfl rfl (by first | rfl | assumption) ?_
  refine x_iload_n d_LW_law_436 rfl rfl ?_
  refine j_iconst d_LW_law_437 ?_
  refine j_iadd d_LW_law_438 ?_
  refine j_scr d_LW_law_439 (by omega) (by omega) hE ?_
  refine x_aload_n d_LW_law_440 rfl rfl (by first | rfl | assumption) ?_
  refine x_iload_n d_LW_law_441 rfl rfl ?_
  refine j_iconst d_LW_law_442 ?_
  refine j_iadd d_LW_law_443 ?_
  refine j_scr d_LW_law_444 (by omega) (by omega) hE ?_
  refine x_aload_n d_LW_law_445 rfl rfl (by first | rfl | assumption) ?_
  refine x_iload_n d_LW_law_446 rfl rfl ?_
  refine j_iconst d_LW_law_447 ?_
  refine j_iadd d_LW_law_448 ?_
  refine j_scr d_LW_law_449 (by omega) (by omega) hE ?_
  refine x_aload_n d_LW_law_450 rfl rfl (by first | rfl | assumption) ?_
  refine x_iload_n d_LW_law_451 rfl rfl ?_
  refine j_iconst d_LW_law_452 ?_
  refine j_iadd d_LW_law_453 ?_
  refine j_scr d_LW_law_454 (by omega) (by omega) hE ?_
  refine x_callVq (M' := M_MD_compute) d_LW_law_455 lk_LW_68 (m_compute (sI E (i + 1)) (sI E (i + 2)) (sI E (i + 3)) (sI E (i + 4)) (sI E (i + 5)) hO hX1 (sI_r E _) (sI_r E _) (sI_r E _) (sI_r E _) (sI_r E _)) mt_MD_compute im_MD_compute se_MD_compute (by repeat (first | assumption | exact hs_self (by assumption) | exact hs_self (hs_ne (by omega) (by assumption)) | exact hs_self (hs_ne (by omega) (hs_ne (by omega) (by assumption))) | refine hs_ne (by omega) ?_)) rfl (by decide) rfl (Nat.le_of_ble_eq_true rfl) (by omega) (by omega) ?_
  rintro v2 h2 ⟨rfl, hX2, hf2⟩
  have hW2 := CW_frM hW1 hf2
  refine j_same 658 d_LW_law_458 (by decide) ?_
  exact next _ _ _ _ _ (SO_compute (sI E (i + 1)) (sI E (i + 2)) (sI E (i + 3)) (sI E (i + 4)) (sI E (i + 5)) hO) hW2 hX2 (by omega) (by omega)
set_option maxHeartbeats 1000000 in
theorem lw_divide (hE : eN E ≤ 3072) (hi : 0 ≤ i ∧ i + 6 ≤ eN E) (hO : SO S) (hW : CW h 0 Y S) (hX : MX h 10 S) (hk : k + 3 ≤ 600000) (hn : n + 35 ≤ 7302250) (next : nxt E Z i k n) : X E M_LW_law 14 600000 7302250 Z 463 [some (.retAddr 0), some (.ref 0), some (.ref 10), some (vI i)] [] h k n := by
  have w0 := hW.1
  refine x_aload_n d_LW_law_463 rfl rfl (by first | rfl | assumption) ?_
  refine x_aload_n d_LW_law_464 rfl rfl (by first | rfl | assumption) ?_
  refine x_iload_n d_LW_law_465 rfl rfl ?_
  refine j_iconst d_LW_law_466 ?_
  refine j_iadd d_LW_law_467 ?_
  refine j_scr d_LW_law_468 (by omega) (by omega) hE ?_
  refine x_aload_n d_LW_law_469 rfl rfl (by first | rfl | assumption) ?_
  refine x_iload_n d_LW_law_470 rfl rfl ?_
  refine j_iconst d_LW_law_471 ?_
  refine j_iadd d_LW_law_472 ?_
  refine j_scr d_LW_law_473 (by omega) (by omega) hE ?_
  refine x_aload_n d_LW_law_474 rfl rfl (by first | rfl | assumption) ?_
  refine x_iload_n d_LW_law_475 rfl rfl ?_
  refine j_iconst d_LW_law_476 ?_
  refine j_iadd d_LW_law_477 ?_
  refine j_scr d_LW_law_478 (by omega) (by omega) hE ?_
  refine x_aload_n d_LW_law_479 rfl rfl (by first | rfl | assumption) ?_
  refine x_iload_n d_LW_law_480 rfl rfl ?_
  refine j_iconst d_LW_law_481 ?_
  refine j_iadd d_LW_law_482 ?_
  refine j_scr d_LW_law_483 (by omega) (by omega) hE ?_
  refine x_aload_n d_LW_law_484 rfl rfl (by first | rfl | assumption) ?_
  refine x_iload_n d_LW_law_485 rfl rfl ?_
  refine j_iconst d_LW_law_486 ?_
  refine j_iadd d_LW_law_487 ?_
  refine j_scr d_LW_law_488 (by omega) (by omega) hE ?_
  refine x_callVq (M' := M_PR_divide) d_LW_law_489 lk_LW_69 (w_divide (sI E (i + 1)) (sI E (i + 2)) (sI E (i + 3)) (sI E (i + 4)) (sI E (i + 5)) hO hW (sI_r E _) (sI_r E _) (sI_r E _) (sI_r E _) (sI_r E _)) mt_PR_divide im_PR_divide se_PR_divide (by repeat (first | assumption | exact hs_self (by assumption) | exact hs_self (hs_ne (by omega) (by assumption)) | exact hs_self (hs_ne (by omega) (hs_ne (by omega) (by assumption))) | refine hs_ne (by omega) ?_)) rfl (by decide) rfl (Nat.le_of_ble_eq_true rfl) (by omega) (by omega) ?_
  rintro v h1 ⟨rfl, hW1, hf1⟩
  have hX1 := MX_fr hX hf1
  obtain ⟨v, A, ⟨so, m0⟩, -⟩ := id hX1
  refine x_aload_n d_LW_law_492 rfl rfl (by first | rfl | assumption) ?_
  refine x_aload_n d_LW_law_493 rfl rfl (by first | rfl | assumption) ?_
  refine x_iload_n d_LW_law_494 rfl rfl ?_
  refine j_iconst d_LW_law_495 ?_
  refine j_iadd d_LW_law_496 ?_
  refine j_scr d_LW_law_497 (by omega) (by omega) hE ?_
  refine x_aload_n d_LW_law_498 rfl rfl (by first | rfl | assumption) ?_
  refine x_iload_n d_LW_law_499 rfl rfl ?_
  refine j_iconst d_LW_law_500 ?_
  refine j_iadd d_LW_law_501 ?_
  refine j_scr d_LW_law_502 (by omega) (by omega) hE ?_
  refine x_aload_n d_LW_law_503 rfl rfl (by first | rfl | assumption) ?_
  refine x_iload_n d_LW_law_504 rfl rfl ?_
  refine j_iconst d_LW_law_505 ?_
  refine j_iadd d_LW_law_506 ?_
  refine j_scr d_LW_law_507 (by omega) (by omega) hE ?_
  refine x_aload_n d_LW_law_508 rfl rfl (by first | rfl | assumption) ?_
  refine x_iload_n d_LW_law_509 rfl rfl ?_
  refine j_iconst d_LW_law_510 ?_
  refine j_iadd d_LW_law_511 ?_
  refine j_scr d_LW_law_512 (by omega) (by omega) hE ?_
  refine x_aload_n d_LW_law_513 rfl rfl (by first | rfl | assumption) ?_
  refine x_iload_n d_LW_law_514 rfl rfl ?_
  refine j_iconst d_LW_law_515 ?_
  refine j_iadd d_LW_law_516 ?_
  refine j_scr d_LW_law_517 (by omega) (by omega) hE ?_
  refine x_callVq (M' := M_MD_divide) d_LW_law_518 lk_LW_72 (m_divide (sI E (i + 1)) (sI E (i + 2)) (sI E (i + 3)) (sI E (i + 4)) (sI E (i + 5)) hO hX1 (sI_r E _) (sI_r E _) (sI_r E _) (sI_r E _) (sI_r E _)) mt_MD_divide im_MD_divide se_MD_divide (by repeat (first | assumption | exact hs_self (by assumption) | exact hs_self (hs_ne (by omega) (by assumption)) | exact hs_self (hs_ne (by omega) (hs_ne (by omega) (by assumption))) | refine hs_ne (by omega) ?_)) rfl (by decide) rfl (Nat.le_of_ble_eq_true rfl) (by omega) (by omega) ?_
  rintro v2 h2 ⟨rfl, hX2, hf2⟩
  have hW2 := CW_frM hW1 hf2
  refine j_same 658 d_LW_law_521 (by decide) ?_
  exact next _ _ _ _ _ (SO_divide (sI E (i + 1)) (sI E (i + 2)) (sI E (i + 3)) (sI E (i + 4)) (sI E (i + 5)) hO) hW2 hX2 (by omega) (by omega)
set_option maxHeartbeats 1000000 in
theorem lw_addTo (hE : eN E ≤ 3072) (hi : 0 ≤ i ∧ i + 6 ≤ eN E) (hO : SO S) (hW : CW h 0 Y S) (hX : MX h 10 S) (hk : k + 3 ≤ 600000) (hn : n + 35 ≤ 7302250) (next : nxt E Z i k n) : X E M_LW_law 14 600000 7302250 Z 526 [some (.retAddr 0), some (.ref 0), some (.ref 10), some (vI i)] [] h k n := by
  have w0 := hW.1
  refine x_aload_n d_LW_law_526 rfl rfl (by first | rfl | assumption) ?_
  refine x_aload_n d_LW_law_527 rfl rfl (by first | rfl | assumption) ?_
  refine x_iload_n d_LW_law_528 rfl rfl ?_
  refine j_iconst d_LW_law_529 ?_
  refine j_iadd d_LW_law_530 ?_
  refine j_scr d_LW_law_531 (by omega) (by omega) hE ?_
  refine x_aload_n d_LW_law_532 rfl rfl (by first | rfl | assumption) ?_
  refine x_iload_n d_LW_law_533 rfl rfl ?_
  refine j_iconst d_LW_law_534 ?_
  refine j_iadd d_LW_law_535 ?_
  refine j_scr d_LW_law_536 (by omega) (by omega) hE ?_
  refine x_aload_n d_LW_law_537 rfl rfl (by first | rfl | assumption) ?_
  refine x_iload_n d_LW_law_538 rfl rfl ?_
  refine j_iconst d_LW_law_539 ?_
  refine j_iadd d_LW_law_540 ?_
  refine j_scr d_LW_law_541 (by omega) (by omega) hE ?_
  refine x_aload_n d_LW_law_542 rfl rfl (by first | rfl | assumption) ?_
  refine x_iload_n d_LW_law_543 rfl rfl ?_
  refine j_iconst d_LW_law_544 ?_
  refine j_iadd d_LW_law_545 ?_
  refine j_scr d_LW_law_546 (by omega) (by omega) hE ?_
  refine x_callVq (M' := M_PR_addTo) d_LW_law_547 lk_LW_73 (w_addTo (sI E (i + 1)) (sI E (i + 2)) (sI E (i + 3)) (sI E (i + 4)) hO hW (sI_r E _) (sI_r E _) (sI_r E _) (sI_r E _)) mt_PR_addTo im_PR_addTo se_PR_addTo (by repeat (first | assumption | exact hs_self (by assumption) | exact hs_self (hs_ne (by omega) (by assumption)) | exact hs_self (hs_ne (by omega) (hs_ne (by omega) (by assumption))) | refine hs_ne (by omega) ?_)) rfl (by decide) rfl (Nat.le_of_ble_eq_true rfl) (by omega) (by omega) ?_
  rintro v h1 ⟨rfl, hW1, hf1⟩
  have hX1 := MX_fr hX hf1
  obtain ⟨v, A, ⟨so, m0⟩, -⟩ := id hX1
  refine x_aload_n d_LW_law_550 rfl rfl (by first | rfl | assumption) ?_
  refine x_aload_n d_LW_law_551 rfl rfl (by first | rfl | assumption) ?_
  refine x_iload_n d_LW_law_552 rfl rfl ?_
  refine j_iconst d_LW_law_553 ?_
  refine j_iadd d_LW_law_554 ?_
  refine j_scr d_LW_law_555 (by omega) (by omega) hE ?_
  refine x_aload_n d_LW_law_556 rfl rfl (by first | rfl | assumption) ?_
  refine x_iload_n d_LW_law_557 rfl rfl ?_
  refine j_iconst d_LW_law_558 ?_
  refine j_iadd d_LW_law_559 ?_
  refine j_scr d_LW_law_560 (by omega) (by omega) hE ?_
  refine x_aload_n d_LW_law_561 rfl rfl (by first | rfl | assumption) ?_
  refine x_iload_n d_LW_law_562 rfl rfl ?_
  refine j_iconst d_LW_law_563 ?_
  refine j_iadd d_LW_law_564 ?_
  refine j_scr d_LW_law_565 (by omega) (by omega) hE ?_
  refine x_aload_n d_LW_law_566 rfl rfl (by first | rfl | assumption) ?_
  refine x_iload_n d_LW_law_567 rfl rfl ?_
  refine j_iconst d_LW_law_568 ?_
  refine j_iadd d_LW_law_569 ?_
  refine j_scr d_LW_law_570 (by omega) (by omega) hE ?_
  refine x_callVq (M' := M_MD_addTo) d_LW_law_571 lk_LW_77 (m_addTo (sI E (i + 1)) (sI E (i + 2)) (sI E (i + 3)) (sI E (i + 4)) hO hX1 (sI_r E _) (sI_r E _) (sI_r E _) (sI_r E _)) mt_MD_addTo im_MD_addTo se_MD_addTo (by repeat (first | assumption | exact hs_self (by assumption) | exact hs_self (hs_ne (by omega) (by assumption)) | exact hs_self (hs_ne (by omega) (hs_ne (by omega) (by assumption))) | refine hs_ne (by omega) ?_)) rfl (by decide) rfl (Nat.le_of_ble_eq_true rfl) (by omega) (by omega) ?_
  rintro v2 h2 ⟨rfl, hX2, hf2⟩
  have hW2 := CW_frM hW1 hf2
  refine j_same 658 d_LW_law_574 (by decide) ?_
  exact next _ _ _ _ _ (SO_addTo (sI E (i + 1)) (sI E (i + 2)) (sI E (i + 3)) (sI E (i + 4)) hO) hW2 hX2 (by omega) (by omega)
set_option maxHeartbeats 1000000 in
theorem lw_total (hE : eN E ≤ 3072) (hi : 0 ≤ i ∧ i + 6 ≤ eN E) (hO : SO S) (hW : CW h 0 Y S) (hX : MX h 10 S) (hk : k + 3 ≤ 600000) (hn : n + 35 ≤ 7302250) (next : nxt E Z i k n) : X E M_LW_law 14 600000 7302250 Z 579 [some (.retAddr 0), some (.ref 0), some (.ref 10), some (vI i)] [] h k n := by
  have w0 := hW.1
  refine x_aload_n d_LW_law_579 rfl rfl (by first | rfl | assumption) ?_
  refine x_aload_n d_LW_law_580 rfl rfl (by first | rfl | assumption) ?_
  refine x_iload_n d_LW_law_581 rfl rfl ?_
  refine j_iconst d_LW_law_582 ?_
  refine j_iadd d_LW_law_583 ?_
  refine j_scr d_LW_law_584 (by omega) (by omega) hE ?_
  refine x_aload_n d_LW_law_585 rfl rfl (by first | rfl | assumption) ?_
  refine x_iload_n d_LW_law_586 rfl rfl ?_
  refine j_iconst d_LW_law_587 ?_
  refine j_iadd d_LW_law_588 ?_
  refine j_scr d_LW_law_589 (by omega) (by omega) hE ?_
  refine x_aload_n d_LW_law_590 rfl rfl (by first | rfl | assumption) ?_
  refine x_iload_n d_LW_law_591 rfl rfl ?_
  refine j_iconst d_LW_law_592 ?_
  refine j_iadd d_LW_law_593 ?_
  refine j_scr d_LW_law_594 (by omega) (by omega) hE ?_
  refine x_aload_n d_LW_law_595 rfl rfl (by first | rfl | assumption) ?_
  refine x_iload_n d_LW_law_596 rfl rfl ?_
  refine j_iconst d_LW_law_597 ?_
  refine j_iadd d_LW_law_598 ?_
  refine j_scr d_LW_law_599 (by omega) (by omega) hE ?_
  refine x_callVq (M' := M_PR_total) d_LW_law_600 lk_LW_78 (w_total (sI E (i + 1)) (sI E (i + 2)) (sI E (i + 3)) (sI E (i + 4)) hO hW (sI_r E _) (sI_r E _) (sI_r E _) (sI_r E _)) mt_PR_total im_PR_total se_PR_total (by repeat (first | assumption | exact hs_self (by assumption) | exact hs_self (hs_ne (by omega) (by assumption)) | exact hs_self (hs_ne (by omega) (hs_ne (by omega) (by assumption))) | refine hs_ne (by omega) ?_)) rfl (by decide) rfl (Nat.le_of_ble_eq_true rfl) (by omega) (by omega) ?_
  rintro v h1 ⟨rfl, hW1, hf1⟩
  have hX1 := MX_fr hX hf1
  obtain ⟨v, A, ⟨so, m0⟩, -⟩ := id hX1
  refine x_aload_n d_LW_law_603 rfl rfl (by first | rfl | assumption) ?_
  refine x_aload_n d_LW_law_604 rfl rfl (by first | rfl | assumption) ?_
  refine x_iload_n d_LW_law_605 rfl rfl ?_
  refine j_iconst d_LW_law_606 ?_
  refine j_iadd d_LW_law_607 ?_
  refine j_scr d_LW_law_608 (by omega) (by omega) hE ?_
  refine x_aload_n d_LW_law_609 rfl rfl (by first | rfl | assumption) ?_
  refine x_iload_n d_LW_law_610 rfl rfl ?_
  refine j_iconst d_LW_law_611 ?_
  refine j_iadd d_LW_law_612 ?_
  refine j_scr d_LW_law_613 (by omega) (by omega) hE ?_
  refine x_aload_n d_LW_law_614 rfl rfl (by first | rfl | assumption) ?_
  refine x_iload_n d_LW_law_615 rfl rfl ?_
  refine j_iconst d_LW_law_616 ?_
  refine j_iadd d_LW_law_617 ?_
  refine j_scr d_LW_law_618 (by omega) (by omega) hE ?_
  refine x_aload_n d_LW_law_619 rfl rfl (by first | rfl | assumption) ?_
  refine x_iload_n d_LW_law_620 rfl rfl ?_
  refine j_iconst d_LW_law_621 ?_
  refine j_iadd d_LW_law_622 ?_
  refine j_scr d_LW_law_623 (by omega) (by omega) hE ?_
  refine x_callVq (M' := M_MD_total) d_LW_law_624 lk_LW_81 (m_total (sI E (i + 1)) (sI E (i + 2)) (sI E (i + 3)) (sI E (i + 4)) hO hX1 (sI_r E _) (sI_r E _) (sI_r E _) (sI_r E _)) mt_MD_total im_MD_total se_MD_total (by repeat (first | assumption | exact hs_self (by assumption) | exact hs_self (hs_ne (by omega) (by assumption)) | exact hs_self (hs_ne (by omega) (hs_ne (by omega) (by assumption))) | refine hs_ne (by omega) ?_)) rfl (by decide) rfl (Nat.le_of_ble_eq_true rfl) (by omega) (by omega) ?_
  rintro v2 h2 ⟨rfl, hX2, hf2⟩
  have hW2 := CW_frM hW1 hf2
  refine j_same 658 d_LW_law_627 (by decide) ?_
  exact next _ _ _ _ _ (SO_total (sI E (i + 1)) (sI E (i + 2)) (sI E (i + 3)) (sI E (i + 4)) hO) hW2 hX2 (by omega) (by omega)
set_option maxHeartbeats 1000000 in
theorem lw_sizeErrors (hE : eN E ≤ 3072) (hi : 0 ≤ i ∧ i + 6 ≤ eN E) (hO : SO S) (hW : CW h 0 Y S) (hX : MX h 10 S) (hk : k + 3 ≤ 600000) (hn : n + 35 ≤ 7302250) (next : nxt E Z i k n) : X E M_LW_law 14 600000 7302250 Z 632 [some (.retAddr 0), some (.ref 0), some (.ref 10), some (vI i)] [] h k n := by
  have w0 := hW.1
  have hX0 := hX
  obtain ⟨v, A, ⟨so, m0⟩, -⟩ := hX0
  refine x_aload_n d_LW_law_632 rfl rfl (by first | rfl | assumption) ?_
  refine x_callV1 (M' := M_PR_sizeErrors) d_LW_law_633 lk_LW_82 (w_sizeErrors  hW ) mt_PR_sizeErrors im_PR_sizeErrors se_PR_sizeErrors (by repeat (first | assumption | exact hs_self (by assumption) | exact hs_self (hs_ne (by omega) (by assumption)) | exact hs_self (hs_ne (by omega) (hs_ne (by omega) (by assumption))) | refine hs_ne (by omega) ?_)) rfl (by decide) rfl (Nat.le_of_ble_eq_true rfl) (by omega) (by omega) ?_
  refine x_aload_n d_LW_law_636 rfl rfl (by first | rfl | assumption) ?_
  refine x_callV1 (M' := M_MD_sizeErrors) d_LW_law_637 lk_LW_85 (m_sizeErrors  hX ) mt_MD_sizeErrors im_MD_sizeErrors se_MD_sizeErrors (by repeat (first | assumption | exact hs_self (by assumption) | exact hs_self (hs_ne (by omega) (by assumption)) | exact hs_self (hs_ne (by omega) (hs_ne (by omega) (by assumption))) | refine hs_ne (by omega) ?_)) rfl (by decide) rfl (Nat.le_of_ble_eq_true rfl) (by omega) (by omega) ?_
  refine j_same 658 d_LW_law_640 (by decide) ?_
  exact next _ _ _ _ _ hO hW hX (by omega) (by omega)
set_option maxHeartbeats 1000000 in
theorem lw_dataErrors (hE : eN E ≤ 3072) (hi : 0 ≤ i ∧ i + 6 ≤ eN E) (hO : SO S) (hW : CW h 0 Y S) (hX : MX h 10 S) (hk : k + 3 ≤ 600000) (hn : n + 35 ≤ 7302250) (next : nxt E Z i k n) : X E M_LW_law 14 600000 7302250 Z 645 [some (.retAddr 0), some (.ref 0), some (.ref 10), some (vI i)] [] h k n := by
  have w0 := hW.1
  have hX0 := hX
  obtain ⟨v, A, ⟨so, m0⟩, -⟩ := hX0
  refine x_aload_n d_LW_law_645 rfl rfl (by first | rfl | assumption) ?_
  refine x_callV1 (M' := M_PR_dataErrors) d_LW_law_646 lk_LW_86 (w_dataErrors  hW ) mt_PR_dataErrors im_PR_dataErrors se_PR_dataErrors (by repeat (first | assumption | exact hs_self (by assumption) | exact hs_self (hs_ne (by omega) (by assumption)) | exact hs_self (hs_ne (by omega) (hs_ne (by omega) (by assumption))) | refine hs_ne (by omega) ?_)) rfl (by decide) rfl (Nat.le_of_ble_eq_true rfl) (by omega) (by omega) ?_
  refine x_aload_n d_LW_law_649 rfl rfl (by first | rfl | assumption) ?_
  refine x_callV1 (M' := M_MD_dataErrors) d_LW_law_650 lk_LW_89 (m_dataErrors  hX ) mt_MD_dataErrors im_MD_dataErrors se_MD_dataErrors (by repeat (first | assumption | exact hs_self (by assumption) | exact hs_self (hs_ne (by omega) (by assumption)) | exact hs_self (hs_ne (by omega) (hs_ne (by omega) (by assumption))) | refine hs_ne (by omega) ?_)) rfl (by decide) rfl (Nat.le_of_ble_eq_true rfl) (by omega) (by omega) ?_
  refine j_same 658 d_LW_law_653 (by decide) ?_
  exact next _ _ _ _ _ hO hW hX (by omega) (by omega)
end LWC
set_option maxHeartbeats 2000000 in
theorem lw_loop {E : xEnv} {Z : xEnd} (hE : eN E ≤ 3072) (hend : ∀ (L : List (Option Value)) (h : xH) (k n : Nat), X E M_LW_law 14 600000 7302250 Z 664 L [] h k n) : ∀ (r t : Nat) (i : Int) (h : xH) (k n : Nat) (Y : LY) (S : ST), eN E ≤ 6 * (t + r) + 5 → t + r ≤ 600 → i = 6 * (t : Int) → SO S → CW h 0 Y S → MX h 10 S → k ≤ 100 + 3 * t → n ≤ 1000 + 35 * t → X E M_LW_law 14 600000 7302250 Z 18 [some (.retAddr 0), some (.ref 0), some (.ref 10), some (vI i)] [] h k n := by
  intro r
  induction r with
  | zero =>
    intro t i h k n Y S h1 h2 hi hO hW hX hk hn
    refine x_iload_n d_LW_law_18 rfl rfl ?_
    refine x_aload_n d_LW_law_19 rfl rfl (by first | rfl | assumption) ?_
    refine j_scl d_LW_law_20 ?_
    refine j_bipush d_LW_law_21 (by decide) ?_
    refine j_isub d_LW_law_23 ?_
    refine j_icmp_gt 664 d_LW_law_24 (by decide) (by unfold iR; omega) (by unfold iR; omega) (fun c24 => ?_) (fun c24 => ?_)
    · exact hend _ _ _ _
    · exfalso; omega
  | succ r ih =>
    intro t i h k n Y S h1 h2 hi hO hW hX hk hn
    refine x_iload_n d_LW_law_18 rfl rfl ?_
    refine x_aload_n d_LW_law_19 rfl rfl (by first | rfl | assumption) ?_
    refine j_scl d_LW_law_20 ?_
    refine j_bipush d_LW_law_21 (by decide) ?_
    refine j_isub d_LW_law_23 ?_
    refine j_icmp_gt 664 d_LW_law_24 (by decide) (by unfold iR; omega) (by unfold iR; omega) (fun c24 => ?_) (fun c24 => ?_)
    · exact hend _ _ _ _
    have hi2 : 0 ≤ i ∧ i + 6 ≤ eN E := by omega
    have next : nxt E Z i k n := by
      intro h' k' n' Y' S' hO' hW' hX' hk' hn'
      refine j_iinc d_LW_law_658 rfl ?_
      refine x_goto 18 d_LW_law_661 (by decide) ?_
      exact ih (t + 1) _ h' k' n' Y' S' (by omega) (by omega) (by omega) hO' hW' hX' (by omega) (by omega)
    refine x_aload_n d_LW_law_27 rfl rfl (by first | rfl | assumption) ?_
    refine x_iload_n d_LW_law_28 rfl rfl ?_
    refine j_scr d_LW_law_29 (by omega) (by omega) hE ?_
    refine j_bipush d_LW_law_30 (by decide) ?_
    refine x_iand d_LW_law_32 ?_
    obtain ⟨z, hz, hzR⟩ := int_vI (iI (sI E i) &&& iI 31)
    refine x_top (w := vI z) hz ?_
    by_cases hz0 : z < 0 ∨ 16 < z
    · refine j_table_out 658 d_LW_law_33 hzR hz0 (by decide) ?_
      exact next _ _ _ _ _ hO hW hX (by omega) (by omega)
    have hz1 : z = 0 ∨ z = 1 ∨ z = 2 ∨ z = 3 ∨ z = 4 ∨ z = 5 ∨ z = 6 ∨ z = 7 ∨ z = 8 ∨ z = 9 ∨ z = 10 ∨ z = 11 ∨ z = 12 ∨ z = 13 ∨ z = 14 ∨ z = 15 ∨ z = 16 := by omega
    clear hz hz0
    rcases hz1 with rfl | rfl | rfl | rfl | rfl | rfl | rfl | rfl | rfl | rfl | rfl | rfl | rfl | rfl | rfl | rfl | rfl
    · refine j_table_in 116 d_LW_law_33 hzR (by decide) (by decide) rfl (by decide) ?_
      exact lw_pic hE hi2 hO hW hX (by omega) (by omega) next
    · refine j_table_in 141 d_LW_law_33 hzR (by decide) (by decide) rfl (by decide) ?_
      exact lw_scrap hE hi2 hO hW hX (by omega) (by omega) next
    · refine j_table_in 152 d_LW_law_33 hzR (by decide) (by decide) rfl (by decide) ?_
      exact lw_field hE hi2 hO hW hX (by omega) (by omega) next
    · refine j_table_in 185 d_LW_law_33 hzR (by decide) (by decide) rfl (by decide) ?_
      exact lw_fields hE hi2 hO hW hX (by omega) (by omega) next
    · refine j_table_in 198 d_LW_law_33 hzR (by decide) (by decide) rfl (by decide) ?_
      exact lw_size hE hi2 hO hW hX (by omega) (by omega) next
    · refine j_table_in 221 d_LW_law_33 hzR (by decide) (by decide) rfl (by decide) ?_
      exact lw_shape hE hi2 hO hW hX (by omega) (by omega) next
    · refine j_table_in 244 d_LW_law_33 hzR (by decide) (by decide) rfl (by decide) ?_
      exact lw_peek hE hi2 hO hW hX (by omega) (by omega) next
    · refine j_table_in 267 d_LW_law_33 hzR (by decide) (by decide) rfl (by decide) ?_
      exact lw_poke hE hi2 hO hW hX (by omega) (by omega) next
    · refine j_table_in 300 d_LW_law_33 hzR (by decide) (by decide) rfl (by decide) ?_
      exact lw_value hE hi2 hO hW hX (by omega) (by omega) next
    · refine j_table_in 324 d_LW_law_33 hzR (by decide) (by decide) rfl (by decide) ?_
      exact lw_put hE hi2 hO hW hX (by omega) (by omega) next
    · refine j_table_in 367 d_LW_law_33 hzR (by decide) (by decide) rfl (by decide) ?_
      exact lw_move hE hi2 hO hW hX (by omega) (by omega) next
    · refine j_table_in 400 d_LW_law_33 hzR (by decide) (by decide) rfl (by decide) ?_
      exact lw_compute hE hi2 hO hW hX (by omega) (by omega) next
    · refine j_table_in 463 d_LW_law_33 hzR (by decide) (by decide) rfl (by decide) ?_
      exact lw_divide hE hi2 hO hW hX (by omega) (by omega) next
    · refine j_table_in 526 d_LW_law_33 hzR (by decide) (by decide) rfl (by decide) ?_
      exact lw_addTo hE hi2 hO hW hX (by omega) (by omega) next
    · refine j_table_in 579 d_LW_law_33 hzR (by decide) (by decide) rfl (by decide) ?_
      exact lw_total hE hi2 hO hW hX (by omega) (by omega) next
    · refine j_table_in 632 d_LW_law_33 hzR (by decide) (by decide) rfl (by decide) ?_
      exact lw_sizeErrors hE hi2 hO hW hX (by omega) (by omega) next
    · refine j_table_in 645 d_LW_law_33 hzR (by decide) (by decide) rfl (by decide) ?_
      exact lw_dataErrors hE hi2 hO hW hX (by omega) (by omega) next
