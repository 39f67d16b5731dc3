/-! the law from its first row on -/
abbrev S0 : ST := (z0, z0, 0, 0, fun _ => (0, 0, 0, 0, 0, z0, 0, 0, 0, 0, 0), 0, 0)
abbrev Y0 : LY := (2, 3, fun _ => 0, fun _ => 0, fun _ => 0)
abbrev A0 : MA := (z0, z0, z0, z0, z0, z0, z0, z0, z0, z0)
abbrev hh0 : xH := [oR 0 2 0 0 0 0, aC 24 z0, oP 3 0 0 0 0 0 0 0 32 0, aC 18 z0, aR 12 (fun _ => none), oS 6 7, aI 64 z0, oE 8, aI 18 z0, aL 12 z0, oM 10 z0 0 0 0, aI 64 z0, aI 24 z0, aI 18 z0, aI 12 z0, aI 12 z0, aI 12 z0, aI 12 z0, aZ 12 z0, aZ 12 z0, aI 216 z0, aI 12 z0, aI 12 z0, aI 12 z0, aI 18 z0, aL 12 z0]
theorem iR_0 : iR 0 := by unfold iR; decide
theorem SO_0 : SO S0 := ⟨Nat.zero_le _, Nat.zero_le _, fun _ _ => ⟨Int.le_refl 0, (by decide : (0 : Int) ≤ 126)⟩, fun _ _ => ⟨Int.le_refl 0, (by decide : (0 : Int) ≤ 255)⟩, fun i hi => absurd hi (Nat.not_lt_zero i)⟩
theorem CW_0 : CW hh0 0 Y0 S0 := ⟨rfl, rfl, ⟨fun _ => none, rfl, fun i hi => absurd hi (Nat.not_lt_zero i)⟩, ⟨z0, rfl, rfl, rfl, rfl, fun _ _ => iR_0, fun _ _ => ⟨Int.le_refl 0, (by decide : (0 : Int) ≤ 255)⟩⟩, ⟨z0, rfl⟩, ⟨Or.inl rfl, Or.inl rfl, (by decide : (2 : Nat) ≠ 3), ⟨0, 0, 0, 0, 0, 0, 0, 32, 0, rfl⟩, z0, rfl, fun _ _ => ⟨Int.le_refl 0, (by decide : (0 : Int) ≤ 126)⟩⟩, fun i hi => absurd hi (Nat.not_lt_zero i)⟩
theorem MX_0 : MX hh0 10 S0 := ⟨z0, A0, ⟨0, rfl⟩, rfl, rfl, rfl, rfl, ⟨z0, rfl⟩, ⟨rfl, rfl, rfl, rfl, rfl, rfl, rfl, rfl, rfl, rfl⟩, ⟨z0, rfl, fun _ _ => iR_0⟩, ⟨z0, rfl⟩, fun i hi => absurd hi (Nat.not_lt_zero i)⟩
set_option maxHeartbeats 1000000 in
theorem lw_body {E : xEnv} {Z : xEnd} (hE : eN E ≤ 3072) (hend : ∀ (L : List (Option Value)) (h : xH) (k n : Nat), X E M_LW_law 14 600000 7302250 Z 664 L [] h k n) : X E M_LW_law 14 600000 7302250 Z 0 [some (.retAddr 0), none, none, none] [] [] 0 0 := by
  refine x_new d_LW_law_0 nw_LW_7 (by decide) (by decide) ?_
  refine x_heap (h' := [ob 4 [.null, vI 0, .null, .null, vI 0, .null, .null, vI 0, vI 0]]) rfl ?_
  refine x_top (w := .ref 0) rfl ?_
  refine x_dup d_LW_law_3 rfl ?_
  refine x_callI0 (M' := M_PR_init) d_LW_law_4 lk_LW_9 c_initPR mt_PR_init rfl rfl im_PR_init (by decide) rfl (Nat.le_of_ble_eq_true rfl) (by decide) (by decide) ?_
  refine x_astore_n d_LW_law_7 rfl (Nat.le_of_ble_eq_true rfl) (by first | rfl | assumption) ?_
  refine x_new d_LW_law_8 nw_LW_10 (by decide) (by decide) ?_
  refine x_heap (h' := [oR 0 2 0 0 0 0, aC 24 z0, oP 3 0 0 0 0 0 0 0 32 0, aC 18 z0, aR 12 (fun _ => none), oS 6 7, aI 64 z0, oE 8, aI 18 z0, aL 12 z0, ob 5 [.null, .null, vI 0, .null, vI 0, vI 0, vI 0, vI 0, vI 0, vI 0, vI 0, vI 0, .null, .null, .null, .null, .null, .null, .null, .null, .null, .null, .null, .null, vI 0, vI 0, vI 0]]) rfl ?_
  refine x_top (w := .ref 10) rfl ?_
  refine x_dup d_LW_law_11 rfl ?_
  refine x_callI0 (M' := M_MD_init) d_LW_law_12 lk_LW_12 c_initMD mt_MD_init rfl rfl im_MD_init (by decide) rfl (Nat.le_of_ble_eq_true rfl) (by decide) (by decide) ?_
  refine x_astore_n d_LW_law_15 rfl (Nat.le_of_ble_eq_true rfl) (by first | rfl | assumption) ?_
  refine j_iconst d_LW_law_16 ?_
  refine x_istore_n d_LW_law_17 rfl (Nat.le_of_ble_eq_true rfl) ?_
  exact lw_loop hE hend 512 0 0 hh0 _ _ Y0 S0 (by omega) (by omega) rfl SO_0 CW_0 MX_0 (by decide) (by decide)
