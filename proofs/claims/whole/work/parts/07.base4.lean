/-! calls -/
theorem xF_pre {E : xEnv} {s U : State} {H : Heap} {locs : List Loc} {h : xH} (hK : va_K (eD E) vwCl (eT E) s) (hF : xF E s s.heap) (hB : eS E ≤ s.heap.size) (hT : (eT E).map (fun q => q.2) = xTy) (hP : xP E h H) (hS : va_S (xA E) s.heap H locs) (hU : U.heap = H) (hW : s.WarmedH U.vm) : xPre E h U := by
  refine ⟨by rw [hU]; exact hP, va_K.moved hW.alike hK, ?_, by rw [hU]; exact Nat.le_trans hB hS.1, hT⟩
  rw [hU]
  exact xF_go hW hS.2.1 hF
theorem xPre_blind (E : xEnv) (h : xH) (args : List Value) : FrameBlind (va_Pc (args.map (xv E)) (xPre E h)) := by
  intro a U g mk q
  obtain ⟨q0, qP, qK, qF, qB, qT⟩ := q
  exact ⟨q0, qP, va_K.moved (u := U) (U := U.calling g mk a) (Vm.Alike.refl U.vm) qK, xF_same (u := U) (U := U.calling g mk a) rfl qF, qB, qT⟩
theorem GW_code {M : xM} (hc : Cond.code M.1 M.2.1 M.2.2.1 M.2.2.2 ∈ GW) : GoodIn GW (Cond.code M.1 M.2.1 M.2.2.1 M.2.2.2 :: GW) := by
  intro w hw
  rcases List.mem_cons.mp hw with rfl | hw
  · exact ⟨hc, GW_good _ hc⟩
  · exact ⟨hw, GW_good _ hw⟩
def xLk (own : String) (index : Nat) (y : MethodName) : Prop := Cond.methodLink own index y ∈ GW ∨ ∃ host, Cond.methodLinkNest own index y host ∈ NW
/-- a method of ours: its code is among the words, its class can be used, so many parameters, few locals -/
def xMt (M : xM) (na : Nat) : Prop := Cond.code M.1 M.2.1 M.2.2.1 M.2.2.2 ∈ GW ∧ Cond.initialized M.1.cls ∈ GW ∧ (M.1.cls ≠ "java/lang/invoke/MethodHandle" ∧ M.1.cls ≠ "java/lang/invoke/VarHandle" ∧ (parseMethodDescriptor M.1.desc).map (fun d => d.parameters.length) = some na) ∧ M.2.2.1 ≤ 21
section XRUN
variable {p : Program} {l : Launch} {e : Env} {R : Room} {s : State} {m : MethodId} {args : Array Value} {below : List Frame} {meth : Method} {c : Code} {H : Heap} {locs : List Loc} {cells slots : Nat} {Q : State → Prop}
theorem x_run {E : xEnv} {mc ms pc : Nat} {ls : Array Slot} {st0 rest : List Value} {a : Array Value} {postc : Option Value → xH → Prop} (hr : va_Run p l e R s m args below meth c H locs cells slots mc ms (F0 m pc ls st0) rest (xQ E postc a) (xA E)) (hS : va_S (xA E) s.heap H locs)
    (kk : ∀ (r : Option Value) (h' : xH) (H1 : Heap) (locs1 : List Loc), postc r h' → xP E h' H1 → va_S (xA E) s.heap H1 locs1 → W p l e R s m args below meth c H1 locs1 (cells + mc) (slots + ms) Q (F0 m (pc + 3) ls ((r.map (xv E)).toList ++ rest))) : W p l e R s m args below meth c H locs cells slots Q (F0 m pc ls st0) := by
  intro T hT X
  obtain ⟨v, st₀, t, T', L, h0, X', hL, e1, e2, ⟨⟨r, h', hv, hp, hb⟩, hz, hk⟩, st⟩ := hr T hT X
  cases hv
  rw [h0] at hz hk
  obtain ⟨t2, a1, b1⟩ := kk r h' T'.heap (locs ++ L) hp (by rw [e1]; exact hb)
    ⟨Nat.le_trans hS.1 (by rw [e1]; exact hz), fun q h1 h2 => by rw [e1, hk q (Nat.lt_of_lt_of_le h1 hS.1) h2]; exact hS.2.1 q h1 h2, fun q hq => by
      rcases List.mem_append.mp hq with h | h
      · exact hS.2.2 q h
      · exact hL q h⟩ T' rfl X'
  exact ⟨t2, st t2 a1, b1⟩
end XRUN
theorem x_room {E : xEnv} {M : xM} {d K N : Nat} {p : Program} {R : Room} {s : State} {m : MethodId} {args : Array Value} {meth : Method} {c : Code} (C : xC E M d K N p R s m args meth c) {dd mx : Nat} (hdd : dd + 1 ≤ d) (hmx : mx ≤ 21) : dd + 1 ≤ R.frames ∧ 8 + (mx + 11) + 40 * dd ≤ R.locals := by
  obtain ⟨h1, h2, -, -⟩ := C.room
  constructor <;> omega
theorem x_stk (E : xEnv) {m : MethodId} {pc : Nat} {ls : Array Slot} {g : List Value} {st : List Value} (h : (st.map fun v => v.category).sum ≤ 8) : 2 * (F0 m pc ls g).monitorRoom + ((st.map (xv E)).map fun v => v.category).sum ≤ 8 := by
  have : (st.map (xv E)).map (fun v => v.category) = st.map (fun v => v.category) := by simp [xv_cat]
  exact lv_room (by rw [this]; exact h)
section XCALL
variable {E : xEnv} {M M' : xM} {d K N dd mc ms : Nat} {Z : xEnd} {pc : Nat} {L : List (Option Value)} {st st' : List Value} {h : xH} {k n : Nat} {av : List Value} {postc : Option Value → xH → Prop}
set_option maxHeartbeats 1000000 in
theorem x_callS {index : Nat} (hd : decode M.2.1 pc = .ok (.invokestatic index, 3)) (hlk : xLk M.1.cls index M'.1) (hm : xMt M' av.length) (hst : Cond.static M'.1 ∈ GW) (hC : xCt E dd mc ms M' av h postc) (hdd : dd + 1 ≤ d) (hs : av.reverse ++ st' = st) (hw : (st'.map fun v => v.category).sum ≤ 8) (hk1 : k + mc ≤ K) (hn1 : n + ms ≤ N)
    (kk : ∀ (r : Option Value) (h' : xH), postc r h' → X E M d K N Z (pc + 3) L (r.toList ++ st') h' (k + mc) (n + ms)) : X E M d K N Z pc L st h k n := by
  intro p e R s m args below meth c H locs ls C hP hL hS hk hn
  obtain ⟨hcode, hini, hy, hmx⟩ := hm
  have hR := x_room C hdd hmx
  have hpre : PreS s H (va_Pc (av.map (xv E)) (xPre E h)) (av.map (xv E)) := ⟨xPre_blind E h av, fun U hU hW => ⟨rfl, xF_pre C.kn C.fo C.base C.tys hP hS hU hW⟩⟩
  have hstk : st.map (xv E) = (av.map (xv E)).reverse ++ st'.map (xv E) := by rw [← hs]; simp
  have S : CallFix p m c M.2.1 M.2.2.1 s args GW M.1.cls := ⟨C.1, C.2.1, C.max, C.own, C.words⟩
  rw [hstk]
  have go := fun (r : Option Value) (h' : xH) (H1 : Heap) (locs1 : List Loc) (hp : postc r h') (hP1 : xP E h' H1) (hS1 : va_S (xA E) s.heap H1 locs1) => kk r h' hp p e R s m args below meth c H1 locs1 ls C hP1 hL hS1 hk1 hn1
  have go2 : ∀ (r : Option Value) (h' : xH) (H1 : Heap) (locs1 : List Loc), postc r h' → xP E h' H1 → va_S (xA E) s.heap H1 locs1 → W p E.1 e R s m args below meth c H1 locs1 (k + mc) (n + ms) (Z below args s) (F0 m (pc + 3) ls ((r.map (xv E)).toList ++ st'.map (xv E))) := by
    intro r h' H1 locs1 hp hP1 hS1
    have := go r h' H1 locs1 hp hP1 hS1
    cases r <;> exact this
  rcases hlk with hl | ⟨host, hl⟩
  · exact x_run (va_runS S hC ⟨callB_of av.length C.words (GW_code hcode) rfl rfl rfl (C.words _ hini) (C.words _ hl) hy hR, C.words _ hst⟩ hpre rfl (by simp) hL.1.1 rfl (x_stk E hw) hd ⟨Nat.le_trans hk1 C.room.2.2.1, Nat.le_trans hn1 C.room.2.2.2⟩) hS go2
  · exact x_run (va_runSN S hC ⟨va_cnB av.length C.words (GW_code hcode) rfl rfl rfl (xF_nw C.fo hl) (C.words _ hini) hy hR, C.words _ hst, trivial⟩ hpre rfl (by simp) hL.1.1 rfl (x_stk E hw) hd ⟨Nat.le_trans hk1 C.room.2.2.1, Nat.le_trans hn1 C.room.2.2.2⟩) hS go2
set_option maxHeartbeats 1000000 in
theorem x_callV {index o ci : Nat} {fs : List Value} {T : u_T} {Nf : Nat} (hd : decode M.2.1 pc = .ok (.invokevirtual index, 3)) (hlk : xLk M.1.cls index M'.1) (hm : xMt M' av.length) (hin : Cond.instanceMethod M'.1 ∈ GW) (hsel : Cond.selects M'.1.cls M'.1 M'.1 ∈ GW) (ho : h[o]? = some (.inr (ci, fs))) (hci : vwCl[ci]? = some (M'.1.cls, T, Nf)) (hC : xCt E dd mc ms M' (.ref o :: av) h postc) (hdd : dd + 1 ≤ d) (hs : av.reverse ++ .ref o :: st' = st) (hw : (st'.map fun v => v.category).sum ≤ 8) (hk1 : k + mc ≤ K) (hn1 : n + ms ≤ N)
    (kk : ∀ (r : Option Value) (h' : xH), postc r h' → X E M d K N Z (pc + 3) L (r.toList ++ st') h' (k + mc) (n + ms)) : X E M d K N Z pc L st h k n := by
  intro p e R s m args below meth c H locs ls C hP hL hS hk hn
  obtain ⟨hcode, hini, hy, hmx⟩ := hm
  have hR := x_room C hdd hmx
  have hpre : PreV s H M'.1.cls (eS E + o) (va_Pc ((.ref o :: av).map (xv E)) (xPre E h)) (av.map (xv E)) := ⟨xPre_blind E h (.ref o :: av), va_recv C.kn hP.1 hci (xw_get ho), fun U hU hW => ⟨rfl, xF_pre C.kn C.fo C.base C.tys hP hS hU hW⟩⟩
  have hstk : st.map (xv E) = (av.map (xv E)).reverse ++ .ref (eS E + o) :: st'.map (xv E) := by rw [← hs]; simp [xv]
  have S : CallFix p m c M.2.1 M.2.2.1 s args GW M.1.cls := ⟨C.1, C.2.1, C.max, C.own, C.words⟩
  rw [hstk]
  have go2 : ∀ (r : Option Value) (h' : xH) (H1 : Heap) (locs1 : List Loc), postc r h' → xP E h' H1 → va_S (xA E) s.heap H1 locs1 → W p E.1 e R s m args below meth c H1 locs1 (k + mc) (n + ms) (Z below args s) (F0 m (pc + 3) ls ((r.map (xv E)).toList ++ st'.map (xv E))) := by
    intro r h' H1 locs1 hp hP1 hS1
    have := kk r h' hp p e R s m args below meth c H1 locs1 ls C hP1 hL hS1 hk1 hn1
    cases r <;> exact this
  rcases hlk with hl | ⟨host, hl⟩
  · exact x_run (va_runV S hC ⟨callB_of av.length C.words (GW_code hcode) rfl rfl rfl (C.words _ hini) (C.words _ hl) hy hR, C.words _ hin, C.words _ hsel⟩ hpre rfl (by simp) hL.1.1 rfl (x_stk E hw) hd ⟨Nat.le_trans hk1 C.room.2.2.1, Nat.le_trans hn1 C.room.2.2.2⟩) hS go2
  · exact x_run (va_runVN S hC ⟨va_cnB av.length C.words (GW_code hcode) rfl rfl rfl (xF_nw C.fo hl) (C.words _ hini) hy hR, C.words _ hin, C.words _ hsel⟩ hpre rfl (by simp) hL.1.1 rfl (x_stk E hw) hd ⟨Nat.le_trans hk1 C.room.2.2.1, Nat.le_trans hn1 C.room.2.2.2⟩) hS go2
set_option maxHeartbeats 1000000 in
theorem x_callI {index o : Nat} (hd : decode M.2.1 pc = .ok (.invokespecial index, 3)) (hlk : xLk M.1.cls index M'.1) (hm : xMt M' av.length) (hret : M'.2.2.2 = none) (hnm : M'.1.name = "<init>") (hin : Cond.instanceMethod M'.1 ∈ GW) (hC : xCt E dd mc ms M' (.ref o :: av) h postc) (hdd : dd + 1 ≤ d) (hs : av.reverse ++ .ref o :: st' = st) (hw : (st'.map fun v => v.category).sum ≤ 8) (hk1 : k + mc ≤ K) (hn1 : n + ms ≤ N)
    (kk : ∀ (r : Option Value) (h' : xH), postc r h' → X E M d K N Z (pc + 3) L (r.toList ++ st') h' (k + mc) (n + ms)) : X E M d K N Z pc L st h k n := by
  intro p e R s m args below meth c H locs ls C hP hL hS hk hn
  obtain ⟨hcode, hini, hy, hmx⟩ := hm
  have hR := x_room C hdd hmx
  have hpre : PreS s H (va_Pc ((.ref o :: av).map (xv E)) (xPre E h)) (.ref (eS E + o) :: av.map (xv E)) := ⟨xPre_blind E h (.ref o :: av), fun U hU hW => ⟨rfl, xF_pre C.kn C.fo C.base C.tys hP hS hU hW⟩⟩
  have hstk : st.map (xv E) = (av.map (xv E)).reverse ++ .ref (eS E + o) :: st'.map (xv E) := by rw [← hs]; simp [xv]
  have S : CallFix p m c M.2.1 M.2.2.1 s args GW M.1.cls := ⟨C.1, C.2.1, C.max, C.own, C.words⟩
  rw [hstk]
  have go2 : ∀ (r : Option Value) (h' : xH) (H1 : Heap) (locs1 : List Loc), postc r h' → xP E h' H1 → va_S (xA E) s.heap H1 locs1 → W p E.1 e R s m args below meth c H1 locs1 (k + mc) (n + ms) (Z below args s) (F0 m (pc + 3) ls ((r.map (xv E)).toList ++ st'.map (xv E))) := by
    intro r h' H1 locs1 hp hP1 hS1
    have := kk r h' hp p e R s m args below meth c H1 locs1 ls C hP1 hL hS1 hk1 hn1
    cases r <;> exact this
  obtain ⟨y, cc, mx, rt⟩ := M'
  obtain rfl : rt = none := hret
  rcases hlk with hl | ⟨host, hl⟩
  · exact x_run (va_runI S hC ⟨callB_of av.length C.words (GW_code hcode) rfl rfl rfl (C.words _ hini) (C.words _ hl) hy hR, hnm, C.words _ hin⟩ hpre rfl (by simp) hL.1.1 rfl (x_stk E hw) hd ⟨Nat.le_trans hk1 C.room.2.2.1, Nat.le_trans hn1 C.room.2.2.2⟩) hS go2
  · exact x_run (va_runIN S hC ⟨va_cnB av.length C.words (GW_code hcode) rfl rfl rfl (xF_nw C.fo hl) (C.words _ hini) hy hR, hnm, C.words _ hin⟩ hpre rfl (by simp) hL.1.1 rfl (x_stk E hw) hd ⟨Nat.le_trans hk1 C.room.2.2.1, Nat.le_trans hn1 C.room.2.2.2⟩) hS go2
/-- Object's constructor -/
theorem x_objInit {index o : Nat} (hd : decode M.2.1 pc = .ok (.invokespecial index, 3)) (hl : Cond.methodLink M.1.cls index objectInit ∈ GW) (hin : Cond.instanceMethod objectInit ∈ GW) (hc : Cond.code objectInit ⟨#[0xb1]⟩ 1 none ∈ GW) (hdd : 1 ≤ d) (hw : (st.map fun v => v.category).sum ≤ 8) (kk : X E M d K N Z (pc + 3) L st h k n) : X E M d K N Z pc L (.ref o :: st) h k n := by
  intro p e R s m args below meth c H locs ls C hP hL hS hk hn
  have hr := C.room
  refine W.objInit C.1 C.2.1 C.own (C.words _ hl) (C.words _ hin) (C.words _ hc) rfl (by rw [C.max]; exact hL.1.1) rfl hd (by omega) ?_ (kk p e R s m args below meth c H locs ls C hP hL hS hk hn)
  have := x_stk E (m := m) (pc := pc) (ls := ls) (g := (.ref o :: st).map (xv E)) hw
  refine Nat.le_trans (Nat.add_le_add_right this 12) (by omega)
/-- Math.abs of a long, Math.max of ints -/
theorem x_labs {index : Nat} {x : Int64} (hd : decode M.2.1 pc = .ok (.invokestatic index, 3)) (h1 : Cond.methodLink M.1.cls index Lib.MathLoose.abs_long.x ∈ GW) (h2 : Cond.static Lib.MathLoose.abs_long.x ∈ GW) (h3 : Cond.initialized "java/lang/Math" ∈ GW) (h4 : Cond.code Lib.MathLoose.abs_long.x Lib.MathLoose.abs_long.code 2 (some .long) ∈ GW) (hdd : 1 ≤ d) (hw : (st.map fun v => v.category).sum ≤ 8) (kk : X E M d K N Z (pc + 3) L (.long (if 0 < x then x else -x) :: st) h k n) : X E M d K N Z pc L (.long x :: st) h k n := by
  intro p e R s m args below meth c H locs ls C hP hL hS hk hn
  have hr := C.room
  have hsum : ((st.map (xv E)).map fun v => v.category).sum ≤ 8 := by
    have : (st.map (xv E)).map (fun v => v.category) = st.map (fun v => v.category) := by simp [xv_cat]
    rw [this]; exact hw
  exact va_mabs_long C.1 C.2.1 (by rw [C.max]; exact hL.1.1.symm) C.own (C.words _ h1) (C.words _ h2) (C.words _ h3) (C.words _ h4) (by omega) (by omega) (by omega) (by omega) hd (kk p e R s m args below meth c H locs ls C hP hL hS hk hn)
theorem x_imax {index : Nat} {x y : Int32} (hd : decode M.2.1 pc = .ok (.invokestatic index, 3)) (h1 : Cond.methodLink M.1.cls index Lib.Math.max.name ∈ GW) (h2 : Cond.static Lib.Math.max.name ∈ GW) (h3 : Cond.initialized "java/lang/Math" ∈ GW) (h4 : Cond.code Lib.Math.max.name Lib.Math.max.code 2 (some .int) ∈ GW) (hdd : 1 ≤ d) (hw : (st.map fun v => v.category).sum ≤ 8) (kk : X E M d K N Z (pc + 3) L (.int (if x < y then y else x) :: st) h k n) : X E M d K N Z pc L (.int y :: .int x :: st) h k n := by
  intro p e R s m args below meth c H locs ls C hP hL hS hk hn
  have hr := C.room
  have hsum : ((st.map (xv E)).map fun v => v.category).sum ≤ 8 := by
    have : (st.map (xv E)).map (fun v => v.category) = st.map (fun v => v.category) := by simp [xv_cat]
    rw [this]; exact hw
  exact va_mmax C.1 C.2.1 (by rw [C.max]; exact hL.1.1.symm) C.own (C.words _ h1) (C.words _ h2) (C.words _ h3) (C.words _ h4) (by omega) (by omega) (by omega) (by omega) hd (kk p e R s m args below meth c H locs ls C hP hL hS hk hn)
end XCALL
/-! rows on what is foreign -/
section XFO
variable {E : xEnv} {M M' : xM} {d K N dd mc ms : Nat} {Z : xEnd} {pc : Nat} {L : List (Option Value)} {st st' : List Value} {h : xH} {k n : Nat} {av : List Value} {postc : Option Value → xH → Prop}
theorem x_ti {o nn : Nat} {f : Nat → Value} {i x : Int32} (hd : decode M.2.1 pc = .ok (.iaload, 1)) (hq : (o, FieldType.int, nn, f) ∈ xTb E) (hin : vp_in i nn) (hv : f i.toNatClampNeg = .int x) (kk : X E M d K N Z (pc + 1) L (.int x :: st) h k n) : X E M d K N Z pc L (.int i :: .retAddr o :: st) h k n := by
  intro p e R s m args below meth c H locs ls C hP hL hS hk hn
  exact va_ti C.1 C.2.1 (C.fo.2.1 _ hq) hS hin hv hd (kk p e R s m args below meth c H locs ls C hP hL hS hk hn)
theorem x_tb {o nn : Nat} {f : Nat → Value} {i x : Int32} (hd : decode M.2.1 pc = .ok (.baload, 1)) (hq : (o, FieldType.byte, nn, f) ∈ xTb E) (hin : vp_in i nn) (hv : f i.toNatClampNeg = .int x) (kk : X E M d K N Z (pc + 1) L (.int x :: st) h k n) : X E M d K N Z pc L (.int i :: .retAddr o :: st) h k n := by
  intro p e R s m args below meth c H locs ls C hP hL hS hk hn
  exact va_tb C.1 C.2.1 (C.fo.2.1 _ hq) hS hin hv hd (kk p e R s m args below meth c H locs ls C hP hL hS hk hn)
theorem x_tl {o nn : Nat} {f : Nat → Value} {i : Int32} {x : Int64} (hd : decode M.2.1 pc = .ok (.laload, 1)) (hq : (o, FieldType.long, nn, f) ∈ xTb E) (hin : vp_in i nn) (hv : f i.toNatClampNeg = .long x) (kk : X E M d K N Z (pc + 1) L (.long x :: st) h k n) : X E M d K N Z pc L (.int i :: .retAddr o :: st) h k n := by
  intro p e R s m args below meth c H locs ls C hP hL hS hk hn
  exact va_tl C.1 C.2.1 (C.fo.2.1 _ hq) hS hin hv hd (kk p e R s m args below meth c H locs ls C hP hL hS hk hn)
theorem x_tlen {o nn : Nat} {ty : FieldType} {f : Nat → Value} (hd : decode M.2.1 pc = .ok (.arraylength, 1)) (hq : (o, ty, nn, f) ∈ xTb E) (kk : X E M d K N Z (pc + 1) L (.int (Int32.ofNat nn) :: st) h k n) : X E M d K N Z pc L (.retAddr o :: st) h k n := by
  intro p e R s m args below meth c H locs ls C hP hL hS hk hn
  exact va_tlen C.1 C.2.1 (C.fo.2.1 _ hq) hS rfl hd (kk p e R s m args below meth c H locs ls C hP hL hS hk hn)
theorem x_gets {index : Nat} {Cn nm ds : String} {v : Value} (hd : decode M.2.1 pc = .ok (.getstatic index, 3)) (hl : Cond.fieldLink M.1.cls index Cn nm ds ∈ GW) (hq : (Cn, nm, ds, v) ∈ xSs) (kk : X E M d K N Z (pc + 3) L (v :: st) h k n) : X E M d K N Z pc L st h k n := by
  intro p e R s m args below meth c H locs ls C hP hL hS hk hn
  exact va_gets C.1 C.2.1 (C.fo.2.2.1 _ hq) hS C.own (C.words _ hl) (fun _ h9 => h9) hd (kk p e R s m args below meth c H locs ls C hP hL hS hk hn)
theorem x_ldcS {i o : Nat} {tx : String} (hd : decode M.2.1 pc = .ok (.ldc i, 2)) (hq : (M.1.cls, i, tx, o) ∈ xSr) (kk : X E M d K N Z (pc + 2) L (.retAddr o :: st) h k n) : X E M d K N Z pc L st h k n := by
  intro p e R s m args below meth c H locs ls C hP hL hS hk hn
  exact va_ldcS C.1 C.2.1 C.own (C.fo.2.2.2.1 _ hq) hd (kk p e R s m args below meth c H locs ls C hP hL hS hk hn)
theorem x_fget {index o : Nat} {Cn nm ds : String} {v : Value} (hd : decode M.2.1 pc = .ok (.getfield index, 3)) (hl : Cond.fieldLink M.1.cls index Cn nm ds ∈ GW) (hq : (o, Cn, nm, ds, v) ∈ xOf) (kk : X E M d K N Z (pc + 3) L (v :: st) h k n) : X E M d K N Z pc L (.retAddr o :: st) h k n := by
  intro p e R s m args below meth c H locs ls C hP hL hS hk hn
  exact vk_getf C.1 C.2.1 (C.fo.2.2.2.2.2.1 _ hq) hS C.own (C.words _ hl) (fun _ h9 => h9) hd (kk p e R s m args below meth c H locs ls C hP hL hS hk hn)
set_option maxHeartbeats 1000000 in
theorem x_callF {index o : Nat} (hd : decode M.2.1 pc = .ok (.invokevirtual index, 3)) (hlk : Cond.methodLink M.1.cls index M'.1 ∈ GW) (hm : xMt M' av.length) (hin : Cond.instanceMethod M'.1 ∈ GW) (hsel : Cond.selects M'.1.cls M'.1 M'.1 ∈ GW) (hq : (o, M'.1.cls) ∈ xOs) (hC : xCt E dd mc ms M' (.retAddr o :: av) h postc) (hdd : dd + 1 ≤ d) (hs : av.reverse ++ .retAddr o :: st' = st) (hw : (st'.map fun v => v.category).sum ≤ 8) (hk1 : k + mc ≤ K) (hn1 : n + ms ≤ N)
    (kk : ∀ (r : Option Value) (h' : xH), postc r h' → X E M d K N Z (pc + 3) L (r.toList ++ st') h' (k + mc) (n + ms)) : X E M d K N Z pc L st h k n := by
  intro p e R s m args below meth c H locs ls C hP hL hS hk hn
  obtain ⟨hcode, hini, hy, hmx⟩ := hm
  have hR := x_room C hdd hmx
  have hpre : PreV s H M'.1.cls (eF E o) (va_Pc ((.retAddr o :: av).map (xv E)) (xPre E h)) (av.map (xv E)) := ⟨xPre_blind E h (.retAddr o :: av), va_Orecv (C.fo.2.2.2.2.1 _ hq) hS, fun U hU hW => ⟨rfl, xF_pre C.kn C.fo C.base C.tys hP hS hU hW⟩⟩
  have hstk : st.map (xv E) = (av.map (xv E)).reverse ++ .ref (eF E o) :: st'.map (xv E) := by rw [← hs]; simp [xv]
  have S : CallFix p m c M.2.1 M.2.2.1 s args GW M.1.cls := ⟨C.1, C.2.1, C.max, C.own, C.words⟩
  rw [hstk]
  have go2 : ∀ (r : Option Value) (h' : xH) (H1 : Heap) (locs1 : List Loc), postc r h' → xP E h' H1 → va_S (xA E) s.heap H1 locs1 → W p E.1 e R s m args below meth c H1 locs1 (k + mc) (n + ms) (Z below args s) (F0 m (pc + 3) ls ((r.map (xv E)).toList ++ st'.map (xv E))) := by
    intro r h' H1 locs1 hp hP1 hS1
    have := kk r h' hp p e R s m args below meth c H1 locs1 ls C hP1 hL hS1 hk1 hn1
    cases r <;> exact this
  exact x_run (va_runV S hC ⟨callB_of av.length C.words (GW_code hcode) rfl rfl rfl (C.words _ hini) (C.words _ hlk) hy hR, C.words _ hin, C.words _ hsel⟩ hpre rfl (by simp) hL.1.1 rfl (x_stk E hw) hd ⟨Nat.le_trans hk1 C.room.2.2.1, Nat.le_trans hn1 C.room.2.2.2⟩) hS go2
end XFO
