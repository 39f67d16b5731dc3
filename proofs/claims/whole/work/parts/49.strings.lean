/-! String.indexOf over the class's own literals -/
section XMN
variable {E : xEnv} {M : xM} {d K N : Nat} {Z : xEnd} {pc : Nat} {L : List (Option Value)} {st : List Value} {h : xH} {k n : Nat} {post : Option Value → xH → Prop}
theorem gw_min : Cond.static Lib.Math.min.name ∈ GW ∧ Cond.initialized "java/lang/Math" ∈ GW ∧ Cond.code Lib.Math.min.name Lib.Math.min.code 2 (some .int) ∈ GW := ⟨gwT1 190 rfl rfl, gwT1 8 rfl rfl, gwT1 191 rfl rfl⟩
theorem x_imin1 {index : Nat} {x : Int32} (hd : decode M.2.1 pc = .ok (.invokestatic index, 3)) (h1 : Cond.methodLink M.1.cls index Lib.Math.min.name ∈ GW) (hdd : 1 ≤ d) (hw : (st.map fun v => v.category).sum ≤ 8) (kk : X E M d K N Z (pc + 3) L (.int x :: st) h k n) : X E M d K N Z pc L (.int x :: .int x :: st) h k n := by
  intro p e R s m args below meth c H locs ls C hP hL hS hk hn
  have hr := C.room
  have hsum : ((st.map (xv E)).map fun v => v.category).sum ≤ 8 := by
    have : (st.map (xv E)).map (fun v => v.category) = st.map (fun v => v.category) := by simp [xv_cat]
    rw [this]; exact hw
  have kk := kk p e R s m args below meth c H locs ls C hP hL hS hk hn
  refine va_mmin C.1 C.2.1 (by rw [C.max]; exact hL.1.1.symm) C.own (C.words _ h1) (C.words _ gw_min.1) (C.words _ gw_min.2.1) (C.words _ gw_min.2.2) (by omega) (by omega) (by omega) (by omega) hd ?_
  rw [ite_self]
  exact kk
theorem x_breturn {x : Int32} (hd : decode M.2.1 pc = .ok (.ireturn, 1)) (hr : M.2.2.2 = some .byte) (hx : narrow .byte (.int x) = .int x) (kk : post (some (.int x)) h) : X E M d K N (xZ E K N post) pc L [.int x] h k n := by
  intro p e R s m args below meth c H locs ls C hP hL hS hk hn
  refine W.widen hk hn ?_
  exact W.zret C.1 C.2.1 (C.ret.trans hr) hx (fun t ht _ => ⟨⟨_, h, rfl, kk, by rw [ht]; exact hP⟩, hS.F ht⟩) hS.2.2 hd C.locks
end XMN
theorem i2b_id {c : Int} (h1 : 0 ≤ c) (h2 : c ≤ 127) : (iI c).toInt8.toInt32 = iI c := by
  obtain ⟨n, rfl⟩ : ∃ n : Nat, c = (n : Int) := ⟨c.toNat, by omega⟩
  have hn : n < 128 := by omega
  have : ∀ k : Fin 128, (iI ((k : Nat) : Int)).toInt8.toInt32 = iI ((k : Nat) : Int) := by decide
  exact this ⟨n, hn⟩
set_option maxHeartbeats 1000000 in
theorem c_indexOfChar (E : xEnv) (h : xH) (b n : Nat) (g : Nat → Int) (c : Int) (ht : (b, FieldType.byte, n, fun j => Value.int (iI (g j))) ∈ xTb E) (hn : n ≤ 10) (hg : ∀ j, j < n → 0 ≤ g j ∧ g j ≤ 127) (hc : 0 ≤ c ∧ c ≤ 127) : xCt E 0 0 0 M_L1_indexOfChar [.retAddr b, vI c, vI 0, vI n] h (rQ (fun w h' => h' = h ∧ ∃ z, w = vI z ∧ iR z ∧ (0 ≤ z ↔ ∃ j, j < n ∧ g j = c))) := by
  refine x_met rfl rfl (Nat.le_of_ble_eq_true rfl) ?_
  obtain ⟨Z, hZ⟩ : ∃ Z, Z = (xZ E 0 0 (rQ (fun w h' => h' = h ∧ ∃ z, w = vI z ∧ iR z ∧ (0 ≤ z ↔ ∃ j, j < n ∧ g j = c)))) := ⟨_, rfl⟩
  rw [← hZ]
  have loop : ∀ (r k : Nat) (z : Int), k + r = n → z = (k : Int) → (∀ j, j < k → ¬ g j = c) → X E M_L1_indexOfChar 0 0 0 Z 7 [some (.retAddr b), some (vI c), some (vI 0), some (vI n), some (vI c), some (vI z)] [] h 0 0 := by
    intro r
    induction r with
    | zero =>
      intro k z hk hz hno
      subst hz
      refine x_iload d_L1_indexOfChar_7 rfl ?_
      refine x_iload_n d_L1_indexOfChar_9 rfl rfl ?_
      refine j_icmp_ge 31 d_L1_indexOfChar_10 (by decide) (by unfold iR; omega) (by unfold iR; omega) (fun c10 => ?_) (fun c10 => ?_)
      · rw [hZ]
        refine j_iconst d_L1_indexOfChar_31 ?_
        refine x_ireturn d_L1_indexOfChar_32 rfl ?_
        exact ⟨_, rfl, rfl, -1, rfl, by unfold iR; omega, by
          constructor
          · intro q; omega
          · rintro ⟨j, hj, hjc⟩; exact absurd hjc (hno j (by omega))⟩
      · exfalso; omega
    | succ r ih =>
      intro k z hk hz hno
      subst hz
      have hgk := hg k (by omega)
      refine x_iload d_L1_indexOfChar_7 rfl ?_
      refine x_iload_n d_L1_indexOfChar_9 rfl rfl ?_
      refine j_icmp_ge 31 d_L1_indexOfChar_10 (by decide) (by unfold iR; omega) (by unfold iR; omega) (fun c10 => ?_) (fun c10 => ?_)
      · exfalso; omega
      · refine x_aload_n d_L1_indexOfChar_13 rfl rfl (by first | rfl | assumption) ?_
        refine x_iload d_L1_indexOfChar_14 rfl ?_
        refine j_tb d_L1_indexOfChar_16 ht (by omega) (by omega) (by omega) (x := g k) (by rw [Int.toNat_natCast]) ?_
        refine x_iload d_L1_indexOfChar_17 rfl ?_
        refine j_icmp_ne 25 d_L1_indexOfChar_19 (by decide) (by unfold iR; omega) (by unfold iR; omega) (fun c19 => ?_) (fun c19 => ?_)
        · refine j_iinc d_L1_indexOfChar_25 rfl ?_
          refine x_goto 7 d_L1_indexOfChar_28 (by decide) ?_
          exact ih (k + 1) _ (by omega) (by omega) (fun j hj => by
            by_cases hjk : j = k
            · subst hjk; exact c19
            · exact hno j (by omega))
        · rw [hZ]
          refine x_iload d_L1_indexOfChar_22 rfl ?_
          refine x_ireturn d_L1_indexOfChar_24 rfl ?_
          exact ⟨_, rfl, rfl, k, rfl, by unfold iR; omega, by
            constructor
            · intro _; exact ⟨k, by omega, c19⟩
            · intro _; omega⟩
  refine x_iload_n d_L1_indexOfChar_0 rfl rfl ?_
  refine x_i2b d_L1_indexOfChar_1 ?_
  rw [i2b_id hc.1 hc.2]
  refine x_istore d_L1_indexOfChar_2 (Nat.le_of_ble_eq_true rfl) ?_
  refine x_iload_n d_L1_indexOfChar_4 rfl rfl ?_
  refine x_istore d_L1_indexOfChar_5 (Nat.le_of_ble_eq_true rfl) ?_
  exact loop n 0 _ (by omega) rfl (fun j hj => by omega)
theorem c_canEncode (E : xEnv) (h : xH) (c : Int) (hc : 0 ≤ c ∧ c ≤ 127) : xCt E 0 0 0 M_L1_canEncode [vI c] h (rV (vI 1) h) := by
  refine x_met rfl rfl (Nat.le_of_ble_eq_true rfl) ?_
  refine x_iload_n d_L1_canEncode_0 rfl rfl ?_
  refine j_if_lt 15 d_L1_canEncode_1 (by decide) (by unfold iR; omega) (fun c1 => ?_) (fun c1 => ?_)
  · exfalso; omega
  · refine x_iload_n d_L1_canEncode_4 rfl rfl ?_
    refine j_sipush d_L1_canEncode_5 (by decide) ?_
    refine j_icmp_gt 15 d_L1_canEncode_8 (by decide) (by unfold iR; omega) (by unfold iR; omega) (fun c8 => ?_) (fun c8 => ?_)
    · exfalso; omega
    · refine j_iconst d_L1_canEncode_11 ?_
      refine x_goto 16 d_L1_canEncode_12 (by decide) ?_
      refine j_zreturn d_L1_canEncode_16 rfl (by omega) ?_
      exact ⟨rfl, rfl⟩
section CS
variable {E : xEnv} {M M' : xM} {d K N dd mc ms : Nat} {Z : xEnd} {pc : Nat} {L : List (Option Value)} {st st' : List Value} {h : xH} {k n : Nat} {av : List Value}
theorem x_callSq {index : Nat} {P : Value → xH → Prop} (hd : decode M.2.1 pc = .ok (.invokestatic index, 3)) (hlk : xLk M.1.cls index M'.1) (hC : xCt E dd mc ms M' av h (rQ P)) (hm : xMt M' av.length) (hst : Cond.static M'.1 ∈ GW) (hdd : dd + 1 ≤ d) (hs : av.reverse ++ st' = st) (hw : (st'.map fun v => v.category).sum ≤ 8) (hk1 : k + mc ≤ K) (hn1 : n + ms ≤ N)
    (kk : ∀ v h', P v h' → X E M d K N Z (pc + 3) L (v :: st') h' (k + mc) (n + ms)) : X E M d K N Z pc L st h k n :=
  x_callS hd hlk hm hst hC hdd hs hw hk1 hn1 (fun _ h' hp => by obtain ⟨v, rfl, hp⟩ := hp; exact kk v h' hp)
theorem x_callFq {index o : Nat} {P : Value → xH → Prop} (hd : decode M.2.1 pc = .ok (.invokevirtual index, 3)) (hlk : Cond.methodLink M.1.cls index M'.1 ∈ GW) (hC : xCt E dd mc ms M' (.retAddr o :: av) h (rQ P)) (hm : xMt M' av.length) (hin : Cond.instanceMethod M'.1 ∈ GW) (hsel : Cond.selects M'.1.cls M'.1 M'.1 ∈ GW) (hq : (o, M'.1.cls) ∈ xOs) (hdd : dd + 1 ≤ d) (hs : av.reverse ++ .retAddr o :: st' = st) (hw : (st'.map fun v => v.category).sum ≤ 8) (hk1 : k + mc ≤ K) (hn1 : n + ms ≤ N)
    (kk : ∀ v h', P v h' → X E M d K N Z (pc + 3) L (v :: st') h' (k + mc) (n + ms)) : X E M d K N Z pc L st h k n :=
  x_callF hd hlk hm hin hsel hq hC hdd hs hw hk1 hn1 (fun _ h' hp => by obtain ⟨v, rfl, hp⟩ := hp; exact kk v h' hp)
end CS
set_option maxHeartbeats 1000000 in
theorem c_l1indexOf (E : xEnv) (h : xH) (b n : Nat) (g : Nat → Int) (c : Int) (ht : (b, FieldType.byte, n, fun j => Value.int (iI (g j))) ∈ xTb E) (hn0 : 0 < n) (hn : n ≤ 10) (hg : ∀ j, j < n → 0 ≤ g j ∧ g j ≤ 127) (hc : 0 ≤ c ∧ c ≤ 127) : xCt E 1 0 0 M_L1_indexOf [.retAddr b, vI c, vI 0, vI n] h (rQ (fun w h' => h' = h ∧ ∃ z, w = vI z ∧ iR z ∧ (0 ≤ z ↔ ∃ j, j < n ∧ g j = c))) := by
  refine x_met rfl rfl (Nat.le_of_ble_eq_true rfl) ?_
  refine x_iload_n d_L1_indexOf_0 rfl rfl ?_
  refine x_callS1 (M' := M_L1_canEncode) d_L1_indexOf_1 lk_L1_88 (c_canEncode E h c hc) mt_L1_canEncode st_L1_canEncode (by decide) rfl (Nat.le_of_ble_eq_true rfl) (by decide) (by decide) ?_
  refine j_if_ne 9 d_L1_indexOf_4 (by decide) (by unfold iR; omega) (fun c4 => ?_) (fun c4 => ?_)
  rotate_left
  · exact absurd c4 (by decide)
  refine x_iload_n d_L1_indexOf_9 rfl rfl ?_
  refine j_iconst d_L1_indexOf_10 ?_
  refine j_imax d_L1_indexOf_11 lk_L1_92w (by unfold iR; omega) (by unfold iR; omega) (by decide) (Nat.le_of_ble_eq_true rfl) ?_
  refine x_istore_n d_L1_indexOf_14 rfl (Nat.le_of_ble_eq_true rfl) ?_
  refine x_iload_n d_L1_indexOf_15 rfl rfl ?_
  refine x_aload_n d_L1_indexOf_16 rfl rfl (by first | rfl | assumption) ?_
  refine x_tlen d_L1_indexOf_17 ht ?_
  refine x_top (w := vI n) (congrArg Value.int (iI_nI n)).symm ?_
  refine x_imin1 d_L1_indexOf_18 lk_L1_38w (by decide) (Nat.le_of_ble_eq_true rfl) ?_
  refine x_istore_n d_L1_indexOf_21 rfl (Nat.le_of_ble_eq_true rfl) ?_
  rw [show max (0 : Int) 0 = 0 by decide]
  refine x_iload_n d_L1_indexOf_22 rfl rfl ?_
  refine x_iload_n d_L1_indexOf_23 rfl rfl ?_
  refine j_icmp_lt 29 d_L1_indexOf_24 (by decide) (by unfold iR; omega) (by unfold iR; omega) (fun c24 => ?_) (fun c24 => ?_)
  rotate_left
  · exfalso; omega
  refine x_aload_n d_L1_indexOf_29 rfl rfl (by first | rfl | assumption) ?_
  refine x_iload_n d_L1_indexOf_30 rfl rfl ?_
  refine x_iload_n d_L1_indexOf_31 rfl rfl ?_
  refine x_iload_n d_L1_indexOf_32 rfl rfl ?_
  refine x_callSq (M' := M_L1_indexOfChar) d_L1_indexOf_33 lk_L1_95 (c_indexOfChar E h b n g c ht hn hg hc) mt_L1_indexOfChar st_L1_indexOfChar (by decide) rfl (Nat.le_of_ble_eq_true rfl) (by decide) (by decide) ?_
  rintro v h' ⟨rfl, z, rfl, hz, hzz⟩
  refine x_ireturn d_L1_indexOf_36 rfl ?_
  exact ⟨_, rfl, rfl, z, rfl, hz, hzz⟩
set_option maxHeartbeats 1000000 in
theorem c_isLatin1 (E : xEnv) (h : xH) (s : Nat) (hq : (s, "java/lang/String", "coder", "B", Value.int (iI 0)) ∈ xOf) : xCt E 0 0 0 M_ST_isLatin1 [.retAddr s] h (rV (vI 1) h) := by
  refine x_met rfl rfl (Nat.le_of_ble_eq_true rfl) ?_
  refine x_gets d_ST_isLatin1_0 sg_ST_38 (List.mem_of_getElem? (i := 1) rfl) ?_
  refine j_if_eq 17 d_ST_isLatin1_3 (by decide) (by unfold iR; omega) (fun c3 => ?_) (fun c3 => ?_)
  · exact absurd c3 (by decide)
  · refine x_aload_n d_ST_isLatin1_6 rfl rfl (by first | rfl | assumption) ?_
    refine x_fget d_ST_isLatin1_7 gs_ST_15 hq ?_
    refine j_if_ne 17 d_ST_isLatin1_10 (by decide) (by unfold iR; omega) (fun c10 => ?_) (fun c10 => ?_)
    · exact absurd rfl c10
    · refine j_iconst d_ST_isLatin1_13 ?_
      refine x_goto 18 d_ST_isLatin1_14 (by decide) ?_
      refine j_zreturn d_ST_isLatin1_18 rfl (by omega) ?_
      exact ⟨rfl, rfl⟩
set_option maxHeartbeats 1000000 in
theorem c_coder (E : xEnv) (h : xH) (s : Nat) (hq : (s, "java/lang/String", "coder", "B", Value.int (iI 0)) ∈ xOf) : xCt E 0 0 0 M_ST_coder [.retAddr s] h (rV (vI 0) h) := by
  refine x_met rfl rfl (Nat.le_of_ble_eq_true rfl) ?_
  refine x_gets d_ST_coder_0 sg_ST_38 (List.mem_of_getElem? (i := 1) rfl) ?_
  refine j_if_eq 13 d_ST_coder_3 (by decide) (by unfold iR; omega) (fun c3 => ?_) (fun c3 => ?_)
  · exact absurd c3 (by decide)
  · refine x_aload_n d_ST_coder_6 rfl rfl (by first | rfl | assumption) ?_
    refine x_fget d_ST_coder_7 gs_ST_15 hq ?_
    refine x_goto 14 d_ST_coder_10 (by decide) ?_
    refine x_breturn d_ST_coder_14 rfl rfl ?_
    exact ⟨rfl, rfl⟩
set_option maxHeartbeats 1000000 in
theorem c_slength (E : xEnv) (h : xH) (s b n : Nat) (f : Nat → Value) (hs : (s, "java/lang/String") ∈ xOs) (hq : (s, "java/lang/String", "coder", "B", Value.int (iI 0)) ∈ xOf) (hv : (s, "java/lang/String", "value", "[B", Value.retAddr b) ∈ xOf) (ht : (b, FieldType.byte, n, f) ∈ xTb E) : xCt E 1 0 0 M_ST_length [.retAddr s] h (rV (vI n) h) := by
  refine x_met rfl rfl (Nat.le_of_ble_eq_true rfl) ?_
  refine x_aload_n d_ST_length_0 rfl rfl (by first | rfl | assumption) ?_
  refine x_fget d_ST_length_1 gs_ST_9 hv ?_
  refine x_tlen d_ST_length_4 ht ?_
  refine x_aload_n d_ST_length_5 rfl rfl (by first | rfl | assumption) ?_
  refine x_callF1 (M' := M_ST_coder) d_ST_length_6 lk_ST_335w (c_coder E h s hq) mt_ST_coder im_ST_coder se_ST_coder hs (by decide) rfl (Nat.le_of_ble_eq_true rfl) (by decide) (by decide) ?_
  refine x_ishr d_ST_length_9 ?_
  refine x_top (w := vI n) ?_ ?_
  · rw [show (Int32.ofNat n) = iI (n : Int) from (iI_nI n).symm]
    show Value.int (iI (n : Int) >>> (iI 0 &&& 31)) = _
    rw [show (iI 0 &&& 31) = 0 by decide]
    simp
  refine x_ireturn d_ST_length_10 rfl ?_
  exact ⟨rfl, rfl⟩
set_option maxHeartbeats 1000000 in
theorem c_indexOfII (E : xEnv) (h : xH) (s b n : Nat) (g : Nat → Int) (c : Int) (hs : (s, "java/lang/String") ∈ xOs) (hq : (s, "java/lang/String", "coder", "B", Value.int (iI 0)) ∈ xOf) (hv : (s, "java/lang/String", "value", "[B", Value.retAddr b) ∈ xOf) (ht : (b, FieldType.byte, n, fun j => Value.int (iI (g j))) ∈ xTb E) (hn0 : 0 < n) (hn : n ≤ 10) (hg : ∀ j, j < n → 0 ≤ g j ∧ g j ≤ 127) (hc : 0 ≤ c ∧ c ≤ 127) : xCt E 2 0 0 M_ST_indexOf_II [.retAddr s, vI c, vI 0] h (rQ (fun w h' => h' = h ∧ ∃ z, w = vI z ∧ iR z ∧ (0 ≤ z ↔ ∃ j, j < n ∧ g j = c))) := by
  refine x_met rfl rfl (Nat.le_of_ble_eq_true rfl) ?_
  refine x_aload_n d_ST_indexOf_II_0 rfl rfl (by first | rfl | assumption) ?_
  refine x_callF1 (M' := M_ST_isLatin1) d_ST_indexOf_II_1 lk_ST_492w (c_isLatin1 E h s hq) mt_ST_isLatin1 im_ST_isLatin1 se_ST_isLatin1 hs (by decide) rfl (Nat.le_of_ble_eq_true rfl) (by decide) (by decide) ?_
  refine j_if_eq 23 d_ST_indexOf_II_4 (by decide) (by unfold iR; omega) (fun c4 => ?_) (fun c4 => ?_)
  · exact absurd c4 (by decide)
  refine x_aload_n d_ST_indexOf_II_7 rfl rfl (by first | rfl | assumption) ?_
  refine x_fget d_ST_indexOf_II_8 gs_ST_9 hv ?_
  refine x_iload_n d_ST_indexOf_II_11 rfl rfl ?_
  refine x_iload_n d_ST_indexOf_II_12 rfl rfl ?_
  refine x_aload_n d_ST_indexOf_II_13 rfl rfl (by first | rfl | assumption) ?_
  refine x_callF1 (M' := M_ST_length) d_ST_indexOf_II_14 lk_ST_505w (c_slength E h s b n _ hs hq hv ht) mt_ST_length im_ST_length se_ST_length hs (by decide) rfl (Nat.le_of_ble_eq_true rfl) (by decide) (by decide) ?_
  refine x_callSq (M' := M_L1_indexOf) d_ST_indexOf_II_17 lk_ST_637 (c_l1indexOf E h b n g c ht hn0 hn hg hc) mt_L1_indexOf st_L1_indexOf (by decide) rfl (Nat.le_of_ble_eq_true rfl) (by decide) (by decide) ?_
  rintro v h' ⟨rfl, z, rfl, hz, hzz⟩
  refine x_goto 36 d_ST_indexOf_II_20 (by decide) ?_
  refine x_ireturn d_ST_indexOf_II_36 rfl ?_
  exact ⟨_, rfl, rfl, z, rfl, hz, hzz⟩
set_option maxHeartbeats 1000000 in
theorem c_indexOfI (E : xEnv) (h : xH) (s b n : Nat) (g : Nat → Int) (c : Int) (hs : (s, "java/lang/String") ∈ xOs) (hq : (s, "java/lang/String", "coder", "B", Value.int (iI 0)) ∈ xOf) (hv : (s, "java/lang/String", "value", "[B", Value.retAddr b) ∈ xOf) (ht : (b, FieldType.byte, n, fun j => Value.int (iI (g j))) ∈ xTb E) (hn0 : 0 < n) (hn : n ≤ 10) (hg : ∀ j, j < n → 0 ≤ g j ∧ g j ≤ 127) (hc : 0 ≤ c ∧ c ≤ 127) : xCt E 3 0 0 M_ST_indexOf_I [.retAddr s, vI c] h (rQ (fun w h' => h' = h ∧ ∃ z, w = vI z ∧ iR z ∧ (0 ≤ z ↔ ∃ j, j < n ∧ g j = c))) := by
  refine x_met rfl rfl (Nat.le_of_ble_eq_true rfl) ?_
  refine x_aload_n d_ST_indexOf_I_0 rfl rfl (by first | rfl | assumption) ?_
  refine x_iload_n d_ST_indexOf_I_1 rfl rfl ?_
  refine j_iconst d_ST_indexOf_I_2 ?_
  refine x_callFq (M' := M_ST_indexOf_II) d_ST_indexOf_I_3 lk_ST_633w (c_indexOfII E h s b n g c hs hq hv ht hn0 hn hg hc) mt_ST_indexOf_II im_ST_indexOf_II se_ST_indexOf_II hs (by decide) rfl (Nat.le_of_ble_eq_true rfl) (by decide) (by decide) ?_
  rintro v h' ⟨rfl, z, rfl, hz, hzz⟩
  refine x_ireturn d_ST_indexOf_I_6 rfl ?_
  exact ⟨_, rfl, rfl, z, rfl, hz, hzz⟩
