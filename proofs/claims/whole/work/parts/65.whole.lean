/-! the claim's own entry -/
/-- the law's end, in any room -/
theorem lw_retG {p : Program} {l : Launch} {e : Env} {R : Room} {s : State} {m : MethodId} {args : Array Value} {below : List Frame} {meth : Method} {c : Code} (hx : p.tables.exec = Jvm.exec) (hb : c.code = code) (hr : meth.sig.returnType = ret) (hlocks : meth.locks = false) {pc : Nat} {H : Heap} {ls : Array Slot} (hdg : decode code pc = .ok (.ireturn, 1)) : W p l e R s m args below meth c H [] 600000 7302250 (lw_Z below args s) (F0 m pc ls [.int 1]) := by
  intro T hT X
  obtain ⟨fs, hret, hrun, hended, hW, hframe⟩ := X.leave (v := some (.int 1)) (hlocks := hlocks) (fun h => by rw [hr] at h; cases h)
  have hmeth' : T.vm.method? m = some meth := X.method'
  refine ⟨T.setFrames fs, ?_, .returned (some (.int 1)), hrun, hended, rfl, ⟨_, rfl⟩, hW, hframe⟩
  jvm_step X.here [X.here.top, hx, hb, hdg, hmeth', hr, ret, narrow_b1]
  (try refine ⟨rfl, ?_⟩); (try refine ⟨rfl, ?_⟩)
  first | (intro acts; rw [hret _ acts rfl rfl rfl]) | rw [hret _ _ rfl rfl rfl]
  exact Steps.refl _
def Zl (E : xEnv) : xEnd := fun below args s t => s.heap.size = E.2.1 → lw_Z below args s t
theorem lw_hend (E : xEnv) (L : List (Option Value)) (h : xH) (k n : Nat) : X E M_LW_law 14 600000 7302250 (Zl E) 664 L [] h k n := by
  refine j_iconst d_LW_law_664 ?_
  intro p e R s m args below meth c H locs ls C hP hL hS hk hn
  by_cases hsz : s.heap.size = E.2.1
  · refine W.widen hk hn ?_
    refine va_forget (fun q hq => by rw [hsz]; exact hS.2.2 q hq) ?_
    intro T hT X
    obtain ⟨t, a, b⟩ := lw_retG (l := E.1) C.1 C.2.1 C.ret C.locks d_LW_law_665 T hT X
    exact ⟨t, a, fun _ => b⟩
  · exact fun T hT X => ⟨_, Steps.refl _, fun q => absurd q hsz⟩
theorem str_T {s : State} {A : Nat → Prop} {adK adV : Nat → Nat} (h : vk_S 5 sLn sBy adK adV A s s.heap) {i : Nat} (hi : i < 5) : va_T .byte (adV i) (sLn.getD i 0) (fun j => .int (iI ((sTx.getD i []).getD j 0))) A s s.heap := by
  have q := (h.1 i hi).2.2.2
  have e : (fun j => Value.int ((sBy.getD i []).getD j 0)) = fun j => .int (iI ((sTx.getD i []).getD j 0)) := funext fun j => by rw [sBy_at hi]
  rw [e] at q
  exact q
set_option maxHeartbeats 1000000 in
theorem whole_start {p : Program} {e : Env} {s : State} {m : MethodId} {below : List Frame} {meth : Method} {c : Code} (l : Launch) {b L : Nat} {xs : Nat → Int32} (hL : L ≤ 3072) (C0 : lw_At p s m meth c b L xs) : W p l e room_1 s m #[Value.ref b] below meth c s.heap [] 0 0 (lw_Z below #[Value.ref b] s) (entryFrame m ([Value.ref b] : List Value).toArray 4) := by
  obtain ⟨hx, hcode, hret, hml, hfc, hts, hX, hbl, hlocks, hgv⟩ := C0
  have hA : ∀ a : Nat, a < s.heap.size → ¬ (fun q : Nat => s.heap.size ≤ q) a := fun a h h2 => Nat.lt_irrefl _ (Nat.lt_of_lt_of_le h h2)
  have hg : ∀ w ∈ GW, w.before #[Value.ref b] s = true := fun w hw => hts w (List.mem_filter.mp hw).1
  have hs := flat_of_before _ hgv
  obtain ⟨D, hD⟩ := kn_all hg
  obtain ⟨T, hT1, hT2⟩ := ar_all hts hg
  obtain ⟨t, ht, htT⟩ := tens_T hs hA
  obtain ⟨adK, adV, hS, hK⟩ := str_S hs hA
  obtain ⟨E, hE⟩ : ∃ E : xEnv, E = (l, s.heap.size, fun k => if k = 0 then b else if k = 1 then t else if k < 20 then adK (k - 10) else adV (k - 20), D, T, L, xs) := ⟨_, rfl⟩
  have hF : xF E s s.heap := by
    subst hE
    refine ⟨fun w hw => xNest_of (NW_ok w hw) (hts w (NW_tbl w hw)), ?_, ?_, ?_, ?_, ?_, ?_⟩
    · intro q hq
      simp only [xTb, List.mem_cons, List.not_mem_nil, or_false] at hq
      rcases hq with rfl | rfl | rfl | rfl | rfl | rfl | rfl
      · exact scr_T hX (hA b hbl)
      · exact htT
      · exact str_T hS (i := 0) (by decide)
      · exact str_T hS (i := 1) (by decide)
      · exact str_T hS (i := 2) (by decide)
      · exact str_T hS (i := 3) (by decide)
      · exact str_T hS (i := 4) (by decide)
    · intro q hq
      simp only [xSs, List.mem_cons, List.not_mem_nil, or_false] at hq
      rcases hq with rfl | rfl
      · exact va_Zof (hts _ (lwT2 150 rfl)) (hts _ (by decide +kernel)) ht hA
      · exact va_Zof (hts _ (lwT1 171 rfl)) (hts _ (by decide +kernel)) (va_eqi (hs _ (by decide +kernel))) hA
    · intro q hq
      simp only [xSr, List.mem_cons, List.not_mem_nil, or_false] at hq
      rcases hq with rfl | rfl | rfl | rfl | rfl
      · exact vk_R.of (hts _ (lwT1 154 rfl)) (hK 0 (by decide))
      · exact vk_R.of (hts _ (lwT2 31 rfl)) (hK 1 (by decide))
      · exact vk_R.of (hts _ (lwT2 40 rfl)) (hK 2 (by decide))
      · exact vk_R.of (hts _ (lwT2 45 rfl)) (hK 3 (by decide))
      · exact vk_R.of (hts _ (lwT2 46 rfl)) (hK 4 (by decide))
    · intro q hq
      simp only [xOs, List.mem_cons, List.not_mem_nil, or_false] at hq
      rcases hq with rfl | rfl | rfl | rfl | rfl
      · exact (hS.1 0 (by decide)).1
      · exact (hS.1 1 (by decide)).1
      · exact (hS.1 2 (by decide)).1
      · exact (hS.1 3 (by decide)).1
      · exact (hS.1 4 (by decide)).1
    · intro q hq
      simp only [xOf, List.mem_cons, List.not_mem_nil, or_false] at hq
      rcases hq with rfl | rfl | rfl | rfl | rfl | rfl | rfl | rfl | rfl | rfl
      · exact (hS.1 0 (by decide)).2.1
      · exact (hS.1 0 (by decide)).2.2.1
      · exact (hS.1 1 (by decide)).2.1
      · exact (hS.1 1 (by decide)).2.2.1
      · exact (hS.1 2 (by decide)).2.1
      · exact (hS.1 2 (by decide)).2.2.1
      · exact (hS.1 3 (by decide)).2.1
      · exact (hS.1 3 (by decide)).2.2.1
      · exact (hS.1 4 (by decide)).2.1
      · exact (hS.1 4 (by decide)).2.2.1
    · intro q hq
      simp only [xAo, List.mem_cons, List.not_mem_nil, or_false] at hq
      subst hq
      exact va_AO.of (hts _ (lwT1 75 rfl))
  have hKn : va_K (eD E) vwCl (eT E) s := by subst hE; exact ⟨hD, hT2⟩
  have hXX : X E M_LW_law 14 600000 7302250 (Zl E) 0 [some (.retAddr 0), none, none, none] [] [] 0 0 := lw_body (by subst hE; exact hL) (lw_hend E)
  have hC : xC E M_LW_law 14 600000 7302250 p room_1 s m #[Value.ref b] meth c := ⟨hx, hcode, hml, hret, hlocks, hfc, fun h => absurd h (by decide), hg, hKn, hF, by subst hE; exact Nat.le_refl _, by subst hE; exact hT1, by decide, by decide, by decide, by decide⟩
  have hP : xP E [] s.heap := by
    subst hE
    exact ⟨fun k q h => by simp [xw] at h, rfl⟩
  have harg : ([Value.ref b] : List Value) = ([Value.retAddr 0] : List Value).map (xv E) := by subst hE; rfl
  have hl := lv_entry ([Value.ref b] : List Value) (n := 4) (Nat.le_of_ble_eq_true rfl)
  rw [lg_entry_eq]
  intro T0 hT0 X0
  obtain ⟨t1, a1, q1⟩ := hXX p e room_1 s m #[Value.ref b] below meth c s.heap [] _ hC hP ⟨lv_has_of hl fun q hq => by
    obtain ⟨j, v, rfl, hj⟩ := xl_inv E _ _ _ hq
    rw [harg]
    exact xent_args E [Value.retAddr 0] 0 j v (xpad_get (n := 3) hj), rfl⟩ va_S.rf (Nat.zero_le _) (Nat.zero_le _) T0 hT0 (by rw [hE]; exact X0)
  exact ⟨t1, a1, q1 (by subst hE; rfl)⟩
