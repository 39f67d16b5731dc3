set_option maxHeartbeats 4000000 in
theorem c_step (E : xEnv) (h : xH) (y r q mode : Int) (hy : lR y) (hr : r.natAbs < 4000000000000000000) (hq : lR q) (hm : 0 ≤ mode ∧ mode ≤ 7) : xCt E 0 0 0 M_MD_step [vL y, vL r, vL q, vI mode] h (rV (vI (stp y r q mode)) h) := by
  refine x_met rfl rfl (Nat.le_of_ble_eq_true rfl) ?_
  have h2 : ((y.tmod 2).natAbs : Int) < 2 := tmod_abs (by decide)
  unfold lR at hy hq
  have last1 : ∀ (tw aw : Int), aw = (if r < 0 then -1 else if 0 < r then 1 else 0) → (sC1 y r q mode ∨ sC2 r mode) → ∀ x, X E M_MD_step 0 0 0 (xZ E 0 0 (rV (vI (stp y r q mode)) h)) 147 [some (vL y), none, some (vL r), none, some (vL q), none, some (vI mode), some (vL tw), none, some (vI aw), x] [] h 0 0 := by
    intro tw aw haw hc x
    refine j_iconst d_MD_step_147 ?_
    refine x_goto 152 d_MD_step_148 (by decide) ?_
    refine x_istore d_MD_step_152 (Nat.le_of_ble_eq_true rfl) ?_
    refine x_iload d_MD_step_154 rfl ?_
    refine j_if_eq 164 d_MD_step_156 (by decide) (by unfold iR; omega) (fun c156 => ?_) (fun c156 => ?_)
    · exfalso; omega
    · refine x_iload d_MD_step_159 rfl ?_
      refine x_goto 165 d_MD_step_161 (by decide) ?_
      refine x_ireturn d_MD_step_165 rfl ?_
      exact rV_i (by rw [stp_pos hc]; exact haw) rfl
  have last0 : ∀ (tw aw : Int), ¬ (sC1 y r q mode ∨ sC2 r mode) → ∀ x, X E M_MD_step 0 0 0 (xZ E 0 0 (rV (vI (stp y r q mode)) h)) 151 [some (vL y), none, some (vL r), none, some (vL q), none, some (vI mode), some (vL tw), none, some (vI aw), x] [] h 0 0 := by
    intro tw aw hc x
    refine j_iconst d_MD_step_151 ?_
    refine x_istore d_MD_step_152 (Nat.le_of_ble_eq_true rfl) ?_
    refine x_iload d_MD_step_154 rfl ?_
    refine j_if_eq 164 d_MD_step_156 (by decide) (by unfold iR; omega) (fun c156 => ?_) (fun c156 => ?_)
    · refine j_iconst d_MD_step_164 ?_
      refine x_ireturn d_MD_step_165 rfl ?_
      exact rV_i (by rw [stp_neg hc]) rfl
    · exfalso; omega
  have mid1 : ∀ (tw aw : Int), aw = (if r < 0 then -1 else if 0 < r then 1 else 0) → sC1 y r q mode → X E M_MD_step 0 0 0 (xZ E 0 0 (rV (vI (stp y r q mode)) h)) 104 [some (vL y), none, some (vL r), none, some (vL q), none, some (vI mode), some (vL tw), none, some (vI aw), none] [] h 0 0 := by
    intro tw aw haw hc
    refine j_iconst d_MD_step_104 ?_
    refine x_goto 109 d_MD_step_105 (by decide) ?_
    refine x_istore d_MD_step_109 (Nat.le_of_ble_eq_true rfl) ?_
    refine x_iload d_MD_step_111 rfl ?_
    refine j_if_ne 147 d_MD_step_113 (by decide) (by unfold iR; omega) (fun c113 => ?_) (fun c113 => ?_)
    · exact last1 _ _ haw (Or.inl hc) _
    · exfalso; omega
  have mid0 : ∀ (tw aw : Int), aw = (if r < 0 then -1 else if 0 < r then 1 else 0) → ¬ sC1 y r q mode → X E M_MD_step 0 0 0 (xZ E 0 0 (rV (vI (stp y r q mode)) h)) 108 [some (vL y), none, some (vL r), none, some (vL q), none, some (vI mode), some (vL tw), none, some (vI aw), none] [] h 0 0 := by
    intro tw aw haw hc
    have n2 : ∀ x, ¬ sC2 r mode → X E M_MD_step 0 0 0 (xZ E 0 0 (rV (vI (stp y r q mode)) h)) 151 [some (vL y), none, some (vL r), none, some (vL q), none, some (vI mode), some (vL tw), none, some (vI aw), x] [] h 0 0 := fun x h2 => last0 tw aw (fun z => z.elim hc h2) x
    have y2 : ∀ x, sC2 r mode → X E M_MD_step 0 0 0 (xZ E 0 0 (rV (vI (stp y r q mode)) h)) 147 [some (vL y), none, some (vL r), none, some (vL q), none, some (vI mode), some (vL tw), none, some (vI aw), x] [] h 0 0 := fun x h2 => last1 tw aw haw (Or.inr h2) x
    refine j_iconst d_MD_step_108 ?_
    refine x_istore d_MD_step_109 (Nat.le_of_ble_eq_true rfl) ?_
    refine x_iload d_MD_step_111 rfl ?_
    refine j_if_ne 147 d_MD_step_113 (by decide) (by unfold iR; omega) (fun c113 => ?_) (fun c113 => ?_)
    · exfalso; omega
    · refine x_iload d_MD_step_116 rfl ?_
      refine j_iconst d_MD_step_118 ?_
      refine j_icmp_eq 147 d_MD_step_119 (by decide) (by unfold iR; omega) (by unfold iR; omega) (fun c119 => ?_) (fun c119 => ?_)
      · exact y2 _ (Or.inl c119)
      · refine x_iload d_MD_step_122 rfl ?_
        refine j_iconst d_MD_step_124 ?_
        refine j_icmp_ne 134 d_MD_step_125 (by decide) (by unfold iR; omega) (by unfold iR; omega) (fun c125 => ?_) (fun c125 => ?_)
        · refine x_iload d_MD_step_134 rfl ?_
          refine j_bipush d_MD_step_136 (by decide) ?_
          refine j_icmp_ne 151 d_MD_step_138 (by decide) (by unfold iR; omega) (by unfold iR; omega) (fun c138 => ?_) (fun c138 => ?_)
          · exact n2 _ (by unfold sC2; rintro (a | a | a) <;> omega)
          · refine x_lload_n d_MD_step_141 rfl rfl ?_
            refine j_lconst 0 d_MD_step_142 (by decide) ?_
            refine j_lcmp_ge 151 d_MD_step_143 d_MD_step_144 (by decide) (by unfold lR; omega) (by unfold lR; omega) (fun c143 => ?_) (fun c143 => ?_)
            · exact n2 _ (by unfold sC2; rintro (a | a | a) <;> omega)
            · exact y2 _ (Or.inr (Or.inr ⟨by omega, by omega⟩))
        · refine x_lload_n d_MD_step_128 rfl rfl ?_
          refine j_lconst 0 d_MD_step_129 (by decide) ?_
          refine j_lcmp_gt 147 d_MD_step_130 d_MD_step_131 (by decide) (by unfold lR; omega) (by unfold lR; omega) (fun c130 => ?_) (fun c130 => ?_)
          · exact y2 _ (Or.inr (Or.inl ⟨by omega, by omega⟩))
          · refine x_iload d_MD_step_134 rfl ?_
            refine j_bipush d_MD_step_136 (by decide) ?_
            refine j_icmp_ne 151 d_MD_step_138 (by decide) (by unfold iR; omega) (by unfold iR; omega) (fun c138 => ?_) (fun c138 => ?_)
            · exact n2 _ (by unfold sC2; rintro (a | a | a) <;> omega)
            · exfalso; omega
  have main : ∀ (tw aw : Int), tw = 2 * (r.natAbs : Int) → aw = (if r < 0 then -1 else if 0 < r then 1 else 0) → X E M_MD_step 0 0 0 (xZ E 0 0 (rV (vI (stp y r q mode)) h)) 44 [some (vL y), none, some (vL r), none, some (vL q), none, some (vI mode), some (vL tw), none, some (vI aw), none] [] h 0 0 := by
    intro tw aw htw haw
    have m1 := mid1 tw aw haw
    have m0 := mid0 tw aw haw
    generalize hra : (r.natAbs : Int) = ra at htw
    clear haw
    have at90 : (mode = 1 → ¬ q ≤ tw) → (mode = 2 → ¬ q < tw ∧ (tw = q → y.tmod 2 = 0)) → X E M_MD_step 0 0 0 (xZ E 0 0 (rV (vI (stp y r q mode)) h)) 90 [some (vL y), none, some (vL r), none, some (vL q), none, some (vI mode), some (vL tw), none, some (vI aw), none] [] h 0 0 := by
      intro g1 g2
      refine x_iload d_MD_step_90 rfl ?_
      refine j_iconst d_MD_step_92 ?_
      refine j_icmp_ne 108 d_MD_step_93 (by decide) (by unfold iR; omega) (by unfold iR; omega) (fun c93 => ?_) (fun c93 => ?_)
      · refine m0 ?_
        unfold sC1
        rw [hra, ← htw]
        rintro (⟨a, b⟩ | ⟨a, b | b⟩ | ⟨a, b⟩)
        · exact g1 a b
        · exact (g2 a).1 b
        · exact b.2 ((g2 a).2 b.1)
        · exact c93 a
      · refine x_lload d_MD_step_96 rfl ?_
        refine x_lload d_MD_step_98 rfl ?_
        refine j_lcmp_le 108 d_MD_step_100 d_MD_step_101 (by decide) (by unfold lR; omega) (by unfold lR; omega) (fun c100 => ?_) (fun c100 => ?_)
        · refine m0 ?_
          unfold sC1
          rw [hra, ← htw]
          rintro (⟨a, b⟩ | ⟨a, b | b⟩ | ⟨a, b⟩)
          · exact g1 a b
          · exact (g2 a).1 b
          · exact b.2 ((g2 a).2 b.1)
          · omega
        · exact m1 (by unfold sC1; rw [hra, ← htw]; exact Or.inr (Or.inr ⟨c93, by omega⟩))
    have at58 : (mode = 1 → ¬ q ≤ tw) → X E M_MD_step 0 0 0 (xZ E 0 0 (rV (vI (stp y r q mode)) h)) 58 [some (vL y), none, some (vL r), none, some (vL q), none, some (vI mode), some (vL tw), none, some (vI aw), none] [] h 0 0 := by
      intro g1
      refine x_iload d_MD_step_58 rfl ?_
      refine j_iconst d_MD_step_60 ?_
      refine j_icmp_ne 90 d_MD_step_61 (by decide) (by unfold iR; omega) (by unfold iR; omega) (fun c61 => ?_) (fun c61 => ?_)
      · exact at90 g1 (fun z => absurd z c61)
      · refine x_lload d_MD_step_64 rfl ?_
        refine x_lload d_MD_step_66 rfl ?_
        refine j_lcmp_gt 104 d_MD_step_68 d_MD_step_69 (by decide) (by unfold lR; omega) (by unfold lR; omega) (fun c68 => ?_) (fun c68 => ?_)
        · exact m1 (by unfold sC1; rw [hra, ← htw]; exact Or.inr (Or.inl ⟨c61, Or.inl c68⟩))
        · refine x_lload d_MD_step_72 rfl ?_
          refine x_lload d_MD_step_74 rfl ?_
          refine j_lcmp_ne 90 d_MD_step_76 d_MD_step_77 (by decide) (by unfold lR; omega) (by unfold lR; omega) (fun c76 => ?_) (fun c76 => ?_)
          · exact at90 g1 (fun _ => ⟨c68, fun z => absurd z c76⟩)
          · refine x_lload_n d_MD_step_80 rfl rfl ?_
            refine x_ldc2 d_MD_step_81 kl_MD_166 ?_
            refine j_lrem d_MD_step_84 (by unfold lR; omega) (by unfold lR; omega) (by decide) ?_
            refine j_lconst 0 d_MD_step_85 (by decide) ?_
            refine j_lcmp_ne 104 d_MD_step_86 d_MD_step_87 (by decide) (by unfold lR; omega) (by unfold lR; omega) (fun c86 => ?_) (fun c86 => ?_)
            · exact m1 (by unfold sC1; rw [hra, ← htw]; exact Or.inr (Or.inl ⟨c61, Or.inr ⟨c76, c86⟩⟩))
            · exact at90 g1 (fun _ => ⟨c68, fun _ => c86⟩)
    refine x_iload d_MD_step_44 rfl ?_
    refine j_iconst d_MD_step_46 ?_
    refine j_icmp_ne 58 d_MD_step_47 (by decide) (by unfold iR; omega) (by unfold iR; omega) (fun c47 => ?_) (fun c47 => ?_)
    · exact at58 (fun z => absurd z c47)
    · refine x_lload d_MD_step_50 rfl ?_
      refine x_lload d_MD_step_52 rfl ?_
      refine j_lcmp_ge 104 d_MD_step_54 d_MD_step_55 (by decide) (by unfold lR; omega) (by unfold lR; omega) (fun c54 => ?_) (fun c54 => ?_)
      · exact m1 (by unfold sC1; rw [hra, ← htw]; exact Or.inl ⟨c47, c54⟩)
      · exact at58 (fun _ => c54)
  have away : ∀ tw : Int, tw = 2 * (r.natAbs : Int) → X E M_MD_step 0 0 0 (xZ E 0 0 (rV (vI (stp y r q mode)) h)) 19 [some (vL y), none, some (vL r), none, some (vL q), none, some (vI mode), none, none, none, none] [vL tw] h 0 0 := by
    intro tw htw
    refine x_lstore d_MD_step_19 (Nat.le_of_ble_eq_true rfl) ?_
    refine x_lload_n d_MD_step_21 rfl rfl ?_
    refine j_lconst 0 d_MD_step_22 (by decide) ?_
    refine j_lcmp_ge 31 d_MD_step_23 d_MD_step_24 (by decide) (by unfold lR; omega) (by unfold lR; omega) (fun c23 => ?_) (fun c23 => ?_)
    · refine x_lload_n d_MD_step_31 rfl rfl ?_
      refine j_lconst 0 d_MD_step_32 (by decide) ?_
      refine j_lcmp_le 41 d_MD_step_33 d_MD_step_34 (by decide) (by unfold lR; omega) (by unfold lR; omega) (fun c33 => ?_) (fun c33 => ?_)
      · refine j_iconst d_MD_step_41 ?_
        refine x_istore d_MD_step_42 (Nat.le_of_ble_eq_true rfl) ?_
        exact main _ _ htw (by rw [if_neg (by omega), if_neg (by omega)])
      · refine j_iconst d_MD_step_37 ?_
        refine x_goto 42 d_MD_step_38 (by decide) ?_
        refine x_istore d_MD_step_42 (Nat.le_of_ble_eq_true rfl) ?_
        exact main _ _ htw (by rw [if_neg (by omega), if_pos (by omega)])
    · refine j_iconst d_MD_step_27 ?_
      refine x_goto 42 d_MD_step_28 (by decide) ?_
      refine x_istore d_MD_step_42 (Nat.le_of_ble_eq_true rfl) ?_
      exact main _ _ htw (by rw [if_pos (by omega)])
  refine x_lload_n d_MD_step_0 rfl rfl ?_
  refine j_lconst 0 d_MD_step_1 (by decide) ?_
  refine j_lcmp_ge 14 d_MD_step_2 d_MD_step_3 (by decide) (by unfold lR; omega) (by unfold lR; omega) (fun c2 => ?_) (fun c2 => ?_)
  · refine x_ldc2 d_MD_step_14 kl_MD_166 ?_
    refine x_lload_n d_MD_step_17 rfl rfl ?_
    refine j_lmul d_MD_step_18 ?_
    exact away _ (by omega)
  · refine x_ldc2 d_MD_step_6 kl_MD_188 ?_
    refine x_lload_n d_MD_step_9 rfl rfl ?_
    refine j_lmul d_MD_step_10 ?_
    refine x_goto 19 d_MD_step_11 (by decide) ?_
    exact away _ (by omega)
