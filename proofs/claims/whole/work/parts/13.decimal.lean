/-! Decimal: exact arithmetic -/
set_option maxHeartbeats 1000000 in
theorem c_tenTo (E : xEnv) (h : xH) (e : Nat) (he : e ≤ 9) : xCt E 0 0 0 M_DC_tenTo [vI e] h (rV (vL (10 ^ e)) h) := by
  refine x_met rfl rfl (Nat.le_of_ble_eq_true rfl) ?_
  refine x_iload_n d_DC_tenTo_0 rfl rfl ?_
  refine j_if_lt 20 d_DC_tenTo_1 (by decide) (by unfold iR; omega) (fun c1 => ?_) (fun c1 => ?_)
  · exfalso; omega
  refine x_iload_n d_DC_tenTo_4 rfl rfl ?_
  refine x_gets d_DC_tenTo_5 sg_DC_9 (List.mem_of_getElem? (i := 0) rfl) ?_
  refine x_tlen d_DC_tenTo_8 (List.mem_of_getElem? (i := 1) rfl) ?_
  refine x_top (w := vI 10) rfl ?_
  refine j_icmp_ge 20 d_DC_tenTo_9 (by decide) (by unfold iR; omega) (by unfold iR; omega) (fun c9 => ?_) (fun c9 => ?_)
  · exfalso; omega
  refine x_gets d_DC_tenTo_12 sg_DC_9 (List.mem_of_getElem? (i := 0) rfl) ?_
  refine x_iload_n d_DC_tenTo_15 rfl rfl ?_
  refine j_tl d_DC_tenTo_16 (List.mem_of_getElem? (i := 1) rfl) (x := 10 ^ e) (by omega) (by omega) (by decide) (by simp) ?_
  refine x_goto 21 d_DC_tenTo_17 (by decide) ?_
  refine x_lreturn d_DC_tenTo_21 rfl ?_
  exact ⟨rfl, rfl⟩
set_option maxHeartbeats 1000000 in
theorem c_atFull (E : xEnv) (h : xH) (z : Int) (s : Nat) (hs : s ≤ 4) : xCt E 1 0 0 M_DC_atFullScale [vL z, vI s] h (rV (vL (z * 10 ^ (4 - s))) h) := by
  refine x_met rfl rfl (Nat.le_of_ble_eq_true rfl) ?_
  refine x_lload_n d_DC_atFullScale_0 rfl rfl ?_
  refine j_iconst d_DC_atFullScale_1 ?_
  refine x_iload_n d_DC_atFullScale_2 rfl rfl ?_
  refine j_isub d_DC_atFullScale_3 ?_
  refine x_top (w := vI ((4 - s : Nat) : Int)) (by rw [show ((4 - s : Nat) : Int) = 4 - (s : Int) by omega]) ?_
  refine x_callS1 (M' := M_DC_tenTo) d_DC_atFullScale_4 lk_DC_15 (c_tenTo E h (4 - s) (by omega)) mt_DC_tenTo st_DC_tenTo (by decide) rfl (Nat.le_of_ble_eq_true rfl) (by decide) (by decide) ?_
  refine j_lmul d_DC_atFullScale_7 ?_
  refine x_lreturn d_DC_atFullScale_8 rfl ?_
  exact ⟨rfl, rfl⟩
set_option maxHeartbeats 1000000 in
theorem c_lcompare (E : xEnv) (h : xH) (a b : Int) (ha : lR a) (hb : lR b) : xCt E 0 0 0 M_LO_compare [vL a, vL b] h (rV (vI (if a < b then -1 else if a = b then 0 else 1)) h) := by
  refine x_met rfl rfl (Nat.le_of_ble_eq_true rfl) ?_
  refine x_lload_n d_LO_compare_0 rfl rfl ?_
  refine x_lload_n d_LO_compare_1 rfl rfl ?_
  refine j_lcmp_ge 10 d_LO_compare_2 d_LO_compare_3 (by decide) ha hb (fun c2 => ?_) (fun c2 => ?_)
  · refine x_lload_n d_LO_compare_10 rfl rfl ?_
    refine x_lload_n d_LO_compare_11 rfl rfl ?_
    refine j_lcmp_ne 20 d_LO_compare_12 d_LO_compare_13 (by decide) ha hb (fun c12 => ?_) (fun c12 => ?_)
    · refine j_iconst d_LO_compare_20 ?_
      refine x_ireturn d_LO_compare_21 rfl ?_
      exact rV_i (by (repeat' split) <;> omega) rfl
    · refine j_iconst d_LO_compare_16 ?_
      refine x_goto 21 d_LO_compare_17 (by decide) ?_
      refine x_ireturn d_LO_compare_21 rfl ?_
      exact rV_i (by (repeat' split) <;> omega) rfl
  · refine j_iconst d_LO_compare_6 ?_
    refine x_goto 21 d_LO_compare_7 (by decide) ?_
    refine x_ireturn d_LO_compare_21 rfl ?_
    exact rV_i (by (repeat' split) <;> omega) rfl
def gA (mode ng hf od : Int) : Int := if mode = 1 then (if hf < 0 then 0 else 1) else if mode = 2 then (if 0 < hf then 1 else if hf = 0 ∧ ¬ od = 0 then 1 else 0) else if mode = 3 then (if 0 < hf then 1 else 0) else if mode = 4 then 1 else if mode = 5 then (if ng = 0 then 1 else 0) else if mode = 6 then ng else 0
set_option maxHeartbeats 1000000 in
theorem c_goesAway (E : xEnv) (h : xH) (mode ng hf od : Int) (hm : iR mode) (hng : ng = 0 ∨ ng = 1) (hhf : iR hf) (hod : od = 0 ∨ od = 1) : xCt E 0 0 0 M_DC_goesAway [vI mode, vI ng, vI hf, vI od] h (rV (vI (gA mode ng hf od)) h) := by
  refine x_met rfl rfl (Nat.le_of_ble_eq_true rfl) ?_
  unfold iR at hm hhf
  refine x_iload_n d_DC_goesAway_0 rfl rfl ?_
  by_cases ho : mode < 1 ∨ 6 < mode
  · refine j_table_out 92 d_DC_goesAway_1 hm ho (by decide) ?_
    refine j_iconst d_DC_goesAway_92 ?_
    refine j_zreturn d_DC_goesAway_93 rfl (by omega) ?_
    exact rV_i (by unfold gA; (repeat' split) <;> omega) rfl
  have hh : mode = 1 ∨ mode = 2 ∨ mode = 3 ∨ mode = 4 ∨ mode = 5 ∨ mode = 6 := by omega
  rcases hh with rfl | rfl | rfl | rfl | rfl | rfl
  · refine j_table_in 40 d_DC_goesAway_1 hm (by decide) (by decide) rfl (by decide) ?_
    refine x_iload_n d_DC_goesAway_40 rfl rfl ?_
    refine j_if_lt 48 d_DC_goesAway_41 (by decide) (by unfold iR; omega) (fun c41 => ?_) (fun c41 => ?_)
    · refine j_iconst d_DC_goesAway_48 ?_
      refine j_zreturn d_DC_goesAway_49 rfl (by omega) ?_
      exact rV_i (by unfold gA; (repeat' split) <;> omega) rfl
    · refine j_iconst d_DC_goesAway_44 ?_
      refine x_goto 49 d_DC_goesAway_45 (by decide) ?_
      refine j_zreturn d_DC_goesAway_49 rfl (by omega) ?_
      exact rV_i (by unfold gA; (repeat' split) <;> omega) rfl
  · refine j_table_in 50 d_DC_goesAway_1 hm (by decide) (by decide) rfl (by decide) ?_
    refine x_iload_n d_DC_goesAway_50 rfl rfl ?_
    refine j_if_gt 62 d_DC_goesAway_51 (by decide) (by unfold iR; omega) (fun c51 => ?_) (fun c51 => ?_)
    · refine j_iconst d_DC_goesAway_62 ?_
      refine x_goto 67 d_DC_goesAway_63 (by decide) ?_
      refine j_zreturn d_DC_goesAway_67 rfl (by omega) ?_
      exact rV_i (by unfold gA; (repeat' split) <;> omega) rfl
    · refine x_iload_n d_DC_goesAway_54 rfl rfl ?_
      refine j_if_ne 66 d_DC_goesAway_55 (by decide) (by unfold iR; omega) (fun c55 => ?_) (fun c55 => ?_)
      · refine j_iconst d_DC_goesAway_66 ?_
        refine j_zreturn d_DC_goesAway_67 rfl (by omega) ?_
        exact rV_i (by unfold gA; (repeat' split) <;> omega) rfl
      · refine x_iload_n d_DC_goesAway_58 rfl rfl ?_
        refine j_if_eq 66 d_DC_goesAway_59 (by decide) (by unfold iR; omega) (fun c59 => ?_) (fun c59 => ?_)
        · refine j_iconst d_DC_goesAway_66 ?_
          refine j_zreturn d_DC_goesAway_67 rfl (by omega) ?_
          exact rV_i (by unfold gA; (repeat' split) <;> omega) rfl
        · refine j_iconst d_DC_goesAway_62 ?_
          refine x_goto 67 d_DC_goesAway_63 (by decide) ?_
          refine j_zreturn d_DC_goesAway_67 rfl (by omega) ?_
          exact rV_i (by unfold gA; (repeat' split) <;> omega) rfl
  · refine j_table_in 68 d_DC_goesAway_1 hm (by decide) (by decide) rfl (by decide) ?_
    refine x_iload_n d_DC_goesAway_68 rfl rfl ?_
    refine j_if_le 76 d_DC_goesAway_69 (by decide) (by unfold iR; omega) (fun c69 => ?_) (fun c69 => ?_)
    · refine j_iconst d_DC_goesAway_76 ?_
      refine j_zreturn d_DC_goesAway_77 rfl (by omega) ?_
      exact rV_i (by unfold gA; (repeat' split) <;> omega) rfl
    · refine j_iconst d_DC_goesAway_72 ?_
      refine x_goto 77 d_DC_goesAway_73 (by decide) ?_
      refine j_zreturn d_DC_goesAway_77 rfl (by omega) ?_
      exact rV_i (by unfold gA; (repeat' split) <;> omega) rfl
  · refine j_table_in 78 d_DC_goesAway_1 hm (by decide) (by decide) rfl (by decide) ?_
    refine j_iconst d_DC_goesAway_78 ?_
    refine j_zreturn d_DC_goesAway_79 rfl (by omega) ?_
    exact rV_i (by unfold gA; (repeat' split) <;> omega) rfl
  · refine j_table_in 80 d_DC_goesAway_1 hm (by decide) (by decide) rfl (by decide) ?_
    refine x_iload_n d_DC_goesAway_80 rfl rfl ?_
    refine j_if_ne 88 d_DC_goesAway_81 (by decide) (by unfold iR; omega) (fun c81 => ?_) (fun c81 => ?_)
    · refine j_iconst d_DC_goesAway_88 ?_
      refine j_zreturn d_DC_goesAway_89 rfl (by omega) ?_
      exact rV_i (by unfold gA; (repeat' split) <;> omega) rfl
    · refine j_iconst d_DC_goesAway_84 ?_
      refine x_goto 89 d_DC_goesAway_85 (by decide) ?_
      refine j_zreturn d_DC_goesAway_89 rfl (by omega) ?_
      exact rV_i (by unfold gA; (repeat' split) <;> omega) rfl
  · refine j_table_in 90 d_DC_goesAway_1 hm (by decide) (by decide) rfl (by decide) ?_
    refine x_iload_n d_DC_goesAway_90 rfl rfl ?_
    refine j_zreturn d_DC_goesAway_91 rfl (by omega) ?_
    exact rV_i (by unfold gA; (repeat' split) <;> omega) rfl
