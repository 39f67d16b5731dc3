/-! the objects as they begin -/
abbrev z0 : Nat → Int := fun _ => 0
set_option maxHeartbeats 1000000 in
theorem c_initED {E : xEnv} {h : xH} {p : Nat} (hp : h[p]? = some (ob 0 [.null])) : xCt E 1 1 18 M_ED_init [.ref p] h (rN ((h ++ [aI 18 z0]).set p (oE h.length))) := by
  refine x_met rfl rfl (Nat.le_of_ble_eq_true rfl) ?_
  refine x_aload_n d_ED_init_0 rfl rfl (by first | rfl | assumption) ?_
  refine x_objInit d_ED_init_1 lk_ED_3w oi_i oi_c (by decide) (by decide) ?_
  refine x_aload_n d_ED_init_4 rfl rfl (by first | rfl | assumption) ?_
  refine j_bipush d_ED_init_5 (by decide) ?_
  refine n_int d_ED_init_7 rfl (by decide) (by decide) (by decide) ?_
  refine x_put 0 0 d_ED_init_9 pf_ED_init_9 (ha_old hp) (Nat.le_of_ble_eq_true rfl) rfl rfl ?_
  refine x_return d_ED_init_12 rfl ?_
  exact ⟨rfl, rfl⟩
set_option maxHeartbeats 1000000 in
theorem c_initSG {E : xEnv} {c0 c1 c2 c3 c4 : va_E} : xCt E 2 3 83 M_SG_init [.ref 5] [c0, c1, c2, c3, c4, ob 3 [.null, .null]] (rN [c0, c1, c2, c3, c4, oS 6 7, aI 64 z0, oE 8, aI 18 z0]) := by
  refine x_met rfl rfl (Nat.le_of_ble_eq_true rfl) ?_
  refine x_aload_n d_SG_init_0 rfl rfl (by first | rfl | assumption) ?_
  refine x_objInit d_SG_init_1 lk_SG_3w oi_i oi_c (by decide) (by decide) ?_
  refine x_aload_n d_SG_init_4 rfl rfl (by first | rfl | assumption) ?_
  refine j_bipush d_SG_init_5 (by decide) ?_
  refine n_int d_SG_init_7 rfl (by decide) (by decide) (by decide) ?_
  refine x_put 3 0 d_SG_init_9 pf_SG_init_9 (o := 5) rfl (Nat.le_of_ble_eq_true rfl) rfl rfl ?_
  refine x_heap (h' := [c0, c1, c2, c3, c4, ob 3 [.ref 6, .null], aI 64 z0]) rfl ?_
  refine x_aload_n d_SG_init_12 rfl rfl (by first | rfl | assumption) ?_
  refine x_new d_SG_init_13 nw_SG_15 (by decide) (by decide) ?_
  refine x_heap (h' := [c0, c1, c2, c3, c4, ob 3 [.ref 6, .null], aI 64 z0, ob 0 [.null]]) rfl ?_
  refine x_top (w := .ref 7) rfl ?_
  refine x_dup d_SG_init_16 rfl ?_
  refine x_callI0 (M' := M_ED_init) d_SG_init_17 lk_SG_17 (c_initED (p := 7) rfl) mt_ED_init rfl rfl im_ED_init (by decide) rfl (Nat.le_of_ble_eq_true rfl) (by decide) (by decide) ?_
  refine x_heap (h' := [c0, c1, c2, c3, c4, ob 3 [.ref 6, .null], aI 64 z0, oE 8, aI 18 z0]) rfl ?_
  refine x_put 3 1 d_SG_init_20 pf_SG_init_18 (o := 5) rfl (Nat.le_of_ble_eq_true rfl) rfl rfl ?_
  refine x_return d_SG_init_23 rfl ?_
  exact ⟨rfl, rfl⟩
set_option maxHeartbeats 1000000 in
theorem c_initPR {E : xEnv} : xCt E 3 9 161 M_PR_init [.ref 0] [ob 4 [.null, vI 0, .null, .null, vI 0, .null, .null, vI 0, vI 0]] (rN [oR 0 2 0 0 0 0, aC 24 z0, oP 3 0 0 0 0 0 0 0 32 0, aC 18 z0, aR 12 (fun _ => none), oS 6 7, aI 64 z0, oE 8, aI 18 z0, aL 12 z0]) := by
  refine x_met rfl rfl (Nat.le_of_ble_eq_true rfl) ?_
  refine x_aload_n d_PR_init_0 rfl rfl (by first | rfl | assumption) ?_
  refine x_objInit d_PR_init_1 lk_PR_1w oi_i oi_c (by decide) (by decide) ?_
  refine x_aload_n d_PR_init_4 rfl rfl (by first | rfl | assumption) ?_
  refine j_bipush d_PR_init_5 (by decide) ?_
  refine n_char d_PR_init_7 rfl (by decide) (by decide) (by decide) ?_
  refine x_put 4 0 d_PR_init_9 pf_PR_init_9 (o := 0) rfl (Nat.le_of_ble_eq_true rfl) rfl rfl ?_
  refine x_heap (h' := [ob 4 [.ref 1, vI 0, .null, .null, vI 0, .null, .null, vI 0, vI 0], aC 24 z0]) rfl ?_
  refine x_aload_n d_PR_init_12 rfl rfl (by first | rfl | assumption) ?_
  refine x_new d_PR_init_13 nw_PR_13 (by decide) (by decide) ?_
  refine x_heap (h' := [ob 4 [.ref 1, vI 0, .null, .null, vI 0, .null, .null, vI 0, vI 0], aC 24 z0, ob 2 [.null, vI 0, vI 0, vI 0, vI 0, vI 0, vI 0, vI 0, vI 0, vI 0]]) rfl ?_
  refine x_top (w := .ref 2) rfl ?_
  refine x_dup d_PR_init_16 rfl ?_
  refine x_callI0 (M' := M_PC_init) d_PR_init_17 lk_PR_15 (c_initPC (p := 2) rfl) mt_PC_init rfl rfl im_PC_init (by decide) rfl (Nat.le_of_ble_eq_true rfl) (by decide) (by decide) ?_
  refine x_heap (h' := [ob 4 [.ref 1, vI 0, .null, .null, vI 0, .null, .null, vI 0, vI 0], aC 24 z0, oP 3 0 0 0 0 0 0 0 32 0, aC 18 z0]) rfl ?_
  refine x_put 4 2 d_PR_init_20 pf_PR_init_16 (o := 0) rfl (Nat.le_of_ble_eq_true rfl) rfl rfl ?_
  refine x_heap (h' := [ob 4 [.ref 1, vI 0, .ref 2, .null, vI 0, .null, .null, vI 0, vI 0], aC 24 z0, oP 3 0 0 0 0 0 0 0 32 0, aC 18 z0]) rfl ?_
  refine x_aload_n d_PR_init_23 rfl rfl (by first | rfl | assumption) ?_
  refine j_bipush d_PR_init_24 (by decide) ?_
  refine n_ref d_PR_init_26 cl_PR_20 rfl (by decide) (by decide) (by decide) ?_
  refine x_put 4 3 d_PR_init_29 pf_PR_init_22 (o := 0) rfl (Nat.le_of_ble_eq_true rfl) rfl rfl ?_
  refine x_heap (h' := [ob 4 [.ref 1, vI 0, .ref 2, .ref 4, vI 0, .null, .null, vI 0, vI 0], aC 24 z0, oP 3 0 0 0 0 0 0 0 32 0, aC 18 z0, aR 12 (fun _ => none)]) rfl ?_
  refine x_aload_n d_PR_init_32 rfl rfl (by first | rfl | assumption) ?_
  refine x_new d_PR_init_33 nw_PR_26 (by decide) (by decide) ?_
  refine x_heap (h' := [ob 4 [.ref 1, vI 0, .ref 2, .ref 4, vI 0, .null, .null, vI 0, vI 0], aC 24 z0, oP 3 0 0 0 0 0 0 0 32 0, aC 18 z0, aR 12 (fun _ => none), ob 3 [.null, .null]]) rfl ?_
  refine x_top (w := .ref 5) rfl ?_
  refine x_dup d_PR_init_36 rfl ?_
  refine x_callI0 (M' := M_SG_init) d_PR_init_37 lk_PR_28 c_initSG mt_SG_init rfl rfl im_SG_init (by decide) rfl (Nat.le_of_ble_eq_true rfl) (by decide) (by decide) ?_
  refine x_put 4 5 d_PR_init_40 pf_PR_init_29 (o := 0) rfl (Nat.le_of_ble_eq_true rfl) rfl rfl ?_
  refine x_heap (h' := [ob 4 [.ref 1, vI 0, .ref 2, .ref 4, vI 0, .ref 5, .null, vI 0, vI 0], aC 24 z0, oP 3 0 0 0 0 0 0 0 32 0, aC 18 z0, aR 12 (fun _ => none), oS 6 7, aI 64 z0, oE 8, aI 18 z0]) rfl ?_
  refine x_aload_n d_PR_init_43 rfl rfl (by first | rfl | assumption) ?_
  refine j_bipush d_PR_init_44 (by decide) ?_
  refine n_long d_PR_init_46 rfl (by decide) (by decide) (by decide) ?_
  refine x_put 4 6 d_PR_init_48 pf_PR_init_33 (o := 0) rfl (Nat.le_of_ble_eq_true rfl) rfl rfl ?_
  refine x_return d_PR_init_51 rfl ?_
  exact ⟨rfl, rfl⟩
set_option maxHeartbeats 2000000 in
theorem c_initMD {E : xEnv} {c0 c1 c2 c3 c4 c5 c6 c7 c8 c9 : va_E} : xCt E 1 15 460 M_MD_init [.ref 10] [c0, c1, c2, c3, c4, c5, c6, c7, c8, c9, ob 5 [.null, .null, vI 0, .null, vI 0, vI 0, vI 0, vI 0, vI 0, vI 0, vI 0, vI 0, .null, .null, .null, .null, .null, .null, .null, .null, .null, .null, .null, .null, vI 0, vI 0, vI 0]] (rN [c0, c1, c2, c3, c4, c5, c6, c7, c8, c9, oM 10 z0 0 0 0, aI 64 z0, aI 24 z0, aI 18 z0, aI 12 z0, aI 12 z0, aI 12 z0, aI 12 z0, aZ 12 z0, aZ 12 z0, aI 216 z0, aI 12 z0, aI 12 z0, aI 12 z0, aI 18 z0, aL 12 z0]) := by
  refine x_met rfl rfl (Nat.le_of_ble_eq_true rfl) ?_
  refine x_aload_n d_MD_init_0 rfl rfl (by first | rfl | assumption) ?_
  refine x_objInit d_MD_init_1 lk_MD_1w oi_i oi_c (by decide) (by decide) ?_
  refine x_aload_n d_MD_init_4 rfl rfl (by first | rfl | assumption) ?_
  refine j_bipush d_MD_init_5 (by decide) ?_
  refine n_int d_MD_init_7 rfl (by decide) (by decide) (by decide) ?_
  refine x_put 5 0 d_MD_init_9 pf_MD_init_7 (o := 10) rfl (Nat.le_of_ble_eq_true rfl) rfl rfl ?_
  refine x_heap (h' := [c0, c1, c2, c3, c4, c5, c6, c7, c8, c9, ob 5 [.ref 11, .null, vI 0, .null, vI 0, vI 0, vI 0, vI 0, vI 0, vI 0, vI 0, vI 0, .null, .null, .null, .null, .null, .null, .null, .null, .null, .null, .null, .null, vI 0, vI 0, vI 0], aI 64 z0]) rfl ?_
  refine x_aload_n d_MD_init_12 rfl rfl (by first | rfl | assumption) ?_
  refine j_bipush d_MD_init_13 (by decide) ?_
  refine n_int d_MD_init_15 rfl (by decide) (by decide) (by decide) ?_
  refine x_put 5 1 d_MD_init_17 pf_MD_init_13 (o := 10) rfl (Nat.le_of_ble_eq_true rfl) rfl rfl ?_
  refine x_heap (h' := [c0, c1, c2, c3, c4, c5, c6, c7, c8, c9, ob 5 [.ref 11, .ref 12, vI 0, .null, vI 0, vI 0, vI 0, vI 0, vI 0, vI 0, vI 0, vI 0, .null, .null, .null, .null, .null, .null, .null, .null, .null, .null, .null, .null, vI 0, vI 0, vI 0], aI 64 z0, aI 24 z0]) rfl ?_
  refine x_aload_n d_MD_init_20 rfl rfl (by first | rfl | assumption) ?_
  refine j_bipush d_MD_init_21 (by decide) ?_
  refine n_int d_MD_init_23 rfl (by decide) (by decide) (by decide) ?_
  refine x_put 5 3 d_MD_init_25 pf_MD_init_16 (o := 10) rfl (Nat.le_of_ble_eq_true rfl) rfl rfl ?_
  refine x_heap (h' := [c0, c1, c2, c3, c4, c5, c6, c7, c8, c9, ob 5 [.ref 11, .ref 12, vI 0, .ref 13, vI 0, vI 0, vI 0, vI 0, vI 0, vI 0, vI 0, vI 0, .null, .null, .null, .null, .null, .null, .null, .null, .null, .null, .null, .null, vI 0, vI 0, vI 0], aI 64 z0, aI 24 z0, aI 18 z0]) rfl ?_
  refine x_aload_n d_MD_init_28 rfl rfl (by first | rfl | assumption) ?_
  refine j_bipush d_MD_init_29 (by decide) ?_
  refine n_int d_MD_init_31 rfl (by decide) (by decide) (by decide) ?_
  refine x_put 5 12 d_MD_init_33 pf_MD_init_19 (o := 10) rfl (Nat.le_of_ble_eq_true rfl) rfl rfl ?_
  refine x_heap (h' := [c0, c1, c2, c3, c4, c5, c6, c7, c8, c9, ob 5 [.ref 11, .ref 12, vI 0, .ref 13, vI 0, vI 0, vI 0, vI 0, vI 0, vI 0, vI 0, vI 0, .ref 14, .null, .null, .null, .null, .null, .null, .null, .null, .null, .null, .null, vI 0, vI 0, vI 0], aI 64 z0, aI 24 z0, aI 18 z0, aI 12 z0]) rfl ?_
  refine x_aload_n d_MD_init_36 rfl rfl (by first | rfl | assumption) ?_
  refine j_bipush d_MD_init_37 (by decide) ?_
  refine n_int d_MD_init_39 rfl (by decide) (by decide) (by decide) ?_
  refine x_put 5 13 d_MD_init_41 pf_MD_init_22 (o := 10) rfl (Nat.le_of_ble_eq_true rfl) rfl rfl ?_
  refine x_heap (h' := [c0, c1, c2, c3, c4, c5, c6, c7, c8, c9, ob 5 [.ref 11, .ref 12, vI 0, .ref 13, vI 0, vI 0, vI 0, vI 0, vI 0, vI 0, vI 0, vI 0, .ref 14, .ref 15, .null, .null, .null, .null, .null, .null, .null, .null, .null, .null, vI 0, vI 0, vI 0], aI 64 z0, aI 24 z0, aI 18 z0, aI 12 z0, aI 12 z0]) rfl ?_
  refine x_aload_n d_MD_init_44 rfl rfl (by first | rfl | assumption) ?_
  refine j_bipush d_MD_init_45 (by decide) ?_
  refine n_int d_MD_init_47 rfl (by decide) (by decide) (by decide) ?_
  refine x_put 5 14 d_MD_init_49 pf_MD_init_25 (o := 10) rfl (Nat.le_of_ble_eq_true rfl) rfl rfl ?_
  refine x_heap (h' := [c0, c1, c2, c3, c4, c5, c6, c7, c8, c9, ob 5 [.ref 11, .ref 12, vI 0, .ref 13, vI 0, vI 0, vI 0, vI 0, vI 0, vI 0, vI 0, vI 0, .ref 14, .ref 15, .ref 16, .null, .null, .null, .null, .null, .null, .null, .null, .null, vI 0, vI 0, vI 0], aI 64 z0, aI 24 z0, aI 18 z0, aI 12 z0, aI 12 z0, aI 12 z0]) rfl ?_
  refine x_aload_n d_MD_init_52 rfl rfl (by first | rfl | assumption) ?_
  refine j_bipush d_MD_init_53 (by decide) ?_
  refine n_int d_MD_init_55 rfl (by decide) (by decide) (by decide) ?_
  refine x_put 5 15 d_MD_init_57 pf_MD_init_28 (o := 10) rfl (Nat.le_of_ble_eq_true rfl) rfl rfl ?_
  refine x_heap (h' := [c0, c1, c2, c3, c4, c5, c6, c7, c8, c9, ob 5 [.ref 11, .ref 12, vI 0, .ref 13, vI 0, vI 0, vI 0, vI 0, vI 0, vI 0, vI 0, vI 0, .ref 14, .ref 15, .ref 16, .ref 17, .null, .null, .null, .null, .null, .null, .null, .null, vI 0, vI 0, vI 0], aI 64 z0, aI 24 z0, aI 18 z0, aI 12 z0, aI 12 z0, aI 12 z0, aI 12 z0]) rfl ?_
  refine x_aload_n d_MD_init_60 rfl rfl (by first | rfl | assumption) ?_
  refine j_bipush d_MD_init_61 (by decide) ?_
  refine n_bool d_MD_init_63 rfl (by decide) (by decide) (by decide) ?_
  refine x_put 5 16 d_MD_init_65 pf_MD_init_31 (o := 10) rfl (Nat.le_of_ble_eq_true rfl) rfl rfl ?_
  refine x_heap (h' := [c0, c1, c2, c3, c4, c5, c6, c7, c8, c9, ob 5 [.ref 11, .ref 12, vI 0, .ref 13, vI 0, vI 0, vI 0, vI 0, vI 0, vI 0, vI 0, vI 0, .ref 14, .ref 15, .ref 16, .ref 17, .ref 18, .null, .null, .null, .null, .null, .null, .null, vI 0, vI 0, vI 0], aI 64 z0, aI 24 z0, aI 18 z0, aI 12 z0, aI 12 z0, aI 12 z0, aI 12 z0, aZ 12 z0]) rfl ?_
  refine x_aload_n d_MD_init_68 rfl rfl (by first | rfl | assumption) ?_
  refine j_bipush d_MD_init_69 (by decide) ?_
  refine n_bool d_MD_init_71 rfl (by decide) (by decide) (by decide) ?_
  refine x_put 5 17 d_MD_init_73 pf_MD_init_35 (o := 10) rfl (Nat.le_of_ble_eq_true rfl) rfl rfl ?_
  refine x_heap (h' := [c0, c1, c2, c3, c4, c5, c6, c7, c8, c9, ob 5 [.ref 11, .ref 12, vI 0, .ref 13, vI 0, vI 0, vI 0, vI 0, vI 0, vI 0, vI 0, vI 0, .ref 14, .ref 15, .ref 16, .ref 17, .ref 18, .ref 19, .null, .null, .null, .null, .null, .null, vI 0, vI 0, vI 0], aI 64 z0, aI 24 z0, aI 18 z0, aI 12 z0, aI 12 z0, aI 12 z0, aI 12 z0, aZ 12 z0, aZ 12 z0]) rfl ?_
  refine x_aload_n d_MD_init_76 rfl rfl (by first | rfl | assumption) ?_
  refine j_sipush d_MD_init_77 (by decide) ?_
  refine n_int d_MD_init_80 rfl (by decide) (by decide) (by decide) ?_
  refine x_put 5 18 d_MD_init_82 pf_MD_init_38 (o := 10) rfl (Nat.le_of_ble_eq_true rfl) rfl rfl ?_
  refine x_heap (h' := [c0, c1, c2, c3, c4, c5, c6, c7, c8, c9, ob 5 [.ref 11, .ref 12, vI 0, .ref 13, vI 0, vI 0, vI 0, vI 0, vI 0, vI 0, vI 0, vI 0, .ref 14, .ref 15, .ref 16, .ref 17, .ref 18, .ref 19, .ref 20, .null, .null, .null, .null, .null, vI 0, vI 0, vI 0], aI 64 z0, aI 24 z0, aI 18 z0, aI 12 z0, aI 12 z0, aI 12 z0, aI 12 z0, aZ 12 z0, aZ 12 z0, aI 216 z0]) rfl ?_
  refine x_aload_n d_MD_init_85 rfl rfl (by first | rfl | assumption) ?_
  refine j_bipush d_MD_init_86 (by decide) ?_
  refine n_int d_MD_init_88 rfl (by decide) (by decide) (by decide) ?_
  refine x_put 5 19 d_MD_init_90 pf_MD_init_41 (o := 10) rfl (Nat.le_of_ble_eq_true rfl) rfl rfl ?_
  refine x_heap (h' := [c0, c1, c2, c3, c4, c5, c6, c7, c8, c9, ob 5 [.ref 11, .ref 12, vI 0, .ref 13, vI 0, vI 0, vI 0, vI 0, vI 0, vI 0, vI 0, vI 0, .ref 14, .ref 15, .ref 16, .ref 17, .ref 18, .ref 19, .ref 20, .ref 21, .null, .null, .null, .null, vI 0, vI 0, vI 0], aI 64 z0, aI 24 z0, aI 18 z0, aI 12 z0, aI 12 z0, aI 12 z0, aI 12 z0, aZ 12 z0, aZ 12 z0, aI 216 z0, aI 12 z0]) rfl ?_
  refine x_aload_n d_MD_init_93 rfl rfl (by first | rfl | assumption) ?_
  refine j_bipush d_MD_init_94 (by decide) ?_
  refine n_int d_MD_init_96 rfl (by decide) (by decide) (by decide) ?_
  refine x_put 5 20 d_MD_init_98 pf_MD_init_44 (o := 10) rfl (Nat.le_of_ble_eq_true rfl) rfl rfl ?_
  refine x_heap (h' := [c0, c1, c2, c3, c4, c5, c6, c7, c8, c9, ob 5 [.ref 11, .ref 12, vI 0, .ref 13, vI 0, vI 0, vI 0, vI 0, vI 0, vI 0, vI 0, vI 0, .ref 14, .ref 15, .ref 16, .ref 17, .ref 18, .ref 19, .ref 20, .ref 21, .ref 22, .null, .null, .null, vI 0, vI 0, vI 0], aI 64 z0, aI 24 z0, aI 18 z0, aI 12 z0, aI 12 z0, aI 12 z0, aI 12 z0, aZ 12 z0, aZ 12 z0, aI 216 z0, aI 12 z0, aI 12 z0]) rfl ?_
  refine x_aload_n d_MD_init_101 rfl rfl (by first | rfl | assumption) ?_
  refine j_bipush d_MD_init_102 (by decide) ?_
  refine n_int d_MD_init_104 rfl (by decide) (by decide) (by decide) ?_
  refine x_put 5 21 d_MD_init_106 pf_MD_init_47 (o := 10) rfl (Nat.le_of_ble_eq_true rfl) rfl rfl ?_
  refine x_heap (h' := [c0, c1, c2, c3, c4, c5, c6, c7, c8, c9, ob 5 [.ref 11, .ref 12, vI 0, .ref 13, vI 0, vI 0, vI 0, vI 0, vI 0, vI 0, vI 0, vI 0, .ref 14, .ref 15, .ref 16, .ref 17, .ref 18, .ref 19, .ref 20, .ref 21, .ref 22, .ref 23, .null, .null, vI 0, vI 0, vI 0], aI 64 z0, aI 24 z0, aI 18 z0, aI 12 z0, aI 12 z0, aI 12 z0, aI 12 z0, aZ 12 z0, aZ 12 z0, aI 216 z0, aI 12 z0, aI 12 z0, aI 12 z0]) rfl ?_
  refine x_aload_n d_MD_init_109 rfl rfl (by first | rfl | assumption) ?_
  refine j_bipush d_MD_init_110 (by decide) ?_
  refine n_int d_MD_init_112 rfl (by decide) (by decide) (by decide) ?_
  refine x_put 5 22 d_MD_init_114 pf_MD_init_50 (o := 10) rfl (Nat.le_of_ble_eq_true rfl) rfl rfl ?_
  refine x_heap (h' := [c0, c1, c2, c3, c4, c5, c6, c7, c8, c9, ob 5 [.ref 11, .ref 12, vI 0, .ref 13, vI 0, vI 0, vI 0, vI 0, vI 0, vI 0, vI 0, vI 0, .ref 14, .ref 15, .ref 16, .ref 17, .ref 18, .ref 19, .ref 20, .ref 21, .ref 22, .ref 23, .ref 24, .null, vI 0, vI 0, vI 0], aI 64 z0, aI 24 z0, aI 18 z0, aI 12 z0, aI 12 z0, aI 12 z0, aI 12 z0, aZ 12 z0, aZ 12 z0, aI 216 z0, aI 12 z0, aI 12 z0, aI 12 z0, aI 18 z0]) rfl ?_
  refine x_aload_n d_MD_init_117 rfl rfl (by first | rfl | assumption) ?_
  refine j_bipush d_MD_init_118 (by decide) ?_
  refine n_long d_MD_init_120 rfl (by decide) (by decide) (by decide) ?_
  refine x_put 5 23 d_MD_init_122 pf_MD_init_53 (o := 10) rfl (Nat.le_of_ble_eq_true rfl) rfl rfl ?_
  refine x_heap (h' := [c0, c1, c2, c3, c4, c5, c6, c7, c8, c9, ob 5 [.ref 11, .ref 12, vI 0, .ref 13, vI 0, vI 0, vI 0, vI 0, vI 0, vI 0, vI 0, vI 0, .ref 14, .ref 15, .ref 16, .ref 17, .ref 18, .ref 19, .ref 20, .ref 21, .ref 22, .ref 23, .ref 24, .ref 25, vI 0, vI 0, vI 0], aI 64 z0, aI 24 z0, aI 18 z0, aI 12 z0, aI 12 z0, aI 12 z0, aI 12 z0, aZ 12 z0, aZ 12 z0, aI 216 z0, aI 12 z0, aI 12 z0, aI 12 z0, aI 18 z0, aL 12 z0]) rfl ?_
  refine x_return d_MD_init_125 rfl ?_
  exact ⟨rfl, rfl⟩
