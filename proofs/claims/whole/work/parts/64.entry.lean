/-! what stands at the law's entry -/
theorem lwT1 {w : Cond} (i : Nat) (h : tables_1_1[i]? = some w) : w ∈ lw_tbl := List.mem_append_right _ (List.mem_append_left _ (List.mem_of_getElem? h))
theorem lwT2 {w : Cond} (i : Nat) (h : tables_1_2[i]? = some w) : w ∈ lw_tbl := List.mem_append_right _ (List.mem_append_right _ (List.mem_append_left _ (List.mem_of_getElem? h)))
theorem kn_of {own : String} {index ci : Nat} {fs : List Value} {s : State} {args : Array Value} (hx : xNew own index ci fs) (hts : ∀ w ∈ GW, w.before args s = true) : ∃ d : ClassId × (Nat → Nat), ∀ q : vw_C, vwCl[ci]? = some q → u_Kn s q.1 q.2.1 q.2.2 d.1 d.2 := by
  obtain ⟨C, T, ty0, hc, hw, hty, hcl, hinst, -⟩ := hx
  obtain ⟨cC, iS, hk⟩ := u_known hts hw (hts _ hinst)
  refine ⟨(cC, iS), fun q hq => ?_⟩
  rw [hc] at hq
  cases hq
  exact hk
theorem kn_all {s : State} {args : Array Value} (hts : ∀ w ∈ GW, w.before args s = true) : ∃ D : va_G, ∀ (c : Nat) (q : vw_C), vwCl[c]? = some q → u_Kn s q.1 q.2.1 q.2.2 (D.1 c) (D.2 c) := by
  have h : ∀ c : Nat, ∃ d : ClassId × (Nat → Nat), ∀ q : vw_C, vwCl[c]? = some q → u_Kn s q.1 q.2.1 q.2.2 d.1 d.2 := by
    intro c
    match c with
    | 0 => exact kn_of nw_SG_15 hts
    | 1 => exact kn_of nw_PR_20 hts
    | 2 => exact kn_of nw_PR_13 hts
    | 3 => exact kn_of nw_PR_26 hts
    | 4 => exact kn_of nw_LW_7 hts
    | 5 => exact kn_of nw_LW_10 hts
    | n + 6 => exact ⟨(0, fun _ => 0), fun q hq => by simp at hq⟩
  obtain ⟨D, hD⟩ := Classical.axiomOfChoice h
  exact ⟨(fun c => (D c).1, fun c => (D c).2), fun c q hq => hD c q hq⟩
theorem ar_p {s : State} {args : Array Value} {ty : FieldType} (h : (Cond.arrayClass ty).before args s = true) : ∃ cA : ClassId, ArrOfT s cA ty ∧ s.vm.findClass ("[" ++ ty.toString) = some cA := by
  obtain ⟨c, k, comp, h1, h2, h3⟩ := Cond.arrayClass_spec (args := args) (first := s) (o := none) (s := s) (idx := []) h
  exact ⟨c, fun n z => ⟨fun k h => (by cases h), k, h2, comp, h3⟩, h1⟩
theorem ar_o {s : State} {args : Array Value} {C : String} (h : (Cond.arrayOver (.object C)).before args s = true) : ∃ cA : ClassId, ArrOfT s cA (.object C) ∧ va_RA s cA (.object C) := by
  obtain ⟨comp, c, k, h1, h2, h3, h4, h5⟩ := Cond.arrayOver_spec (args := args) (first := s) (o := none) (s := s) (idx := []) h
  exact ⟨c, fun n z => ⟨fun k h => (by cases h), k, h3, comp, h4⟩, k, comp, h3, h4, h1, h5⟩
theorem ar_all {s : State} {args : Array Value} (hts : ∀ w ∈ lw_tbl, w.before args s = true) (hg : ∀ w ∈ GW, w.before args s = true) : ∃ T : List (ClassId × FieldType), T.map (fun q => q.2) = xTy ∧ ∀ (k : Nat) (q : ClassId × FieldType), T[k]? = some q → ArrOfT s q.1 q.2 ∧ va_RA s q.1 q.2 := by
  obtain ⟨c0, a0, b0⟩ := ar_p (hg _ ac_int)
  obtain ⟨c1, a1, b1⟩ := ar_p (hg _ ac_long)
  obtain ⟨c2, a2, b2⟩ := ar_p (hg _ ac_char)
  obtain ⟨c3, a3, b3⟩ := ar_p (hg _ ac_boolean)
  obtain ⟨c4, a4, b4⟩ := ar_o (C := "PicturedRecord$Field") (hts _ (lwT1 75 rfl))
  refine ⟨[(c0, .int), (c1, .long), (c2, .char), (c3, .boolean), (c4, .object "PicturedRecord$Field")], rfl, fun k q hq => ?_⟩
  match k, hq with
  | 0, hq => cases hq; exact ⟨a0, b0⟩
  | 1, hq => cases hq; exact ⟨a1, b1⟩
  | 2, hq => cases hq; exact ⟨a2, b2⟩
  | 3, hq => cases hq; exact ⟨a3, b3⟩
  | 4, hq => cases hq; exact ⟨a4, b4⟩
  | n + 5, hq => simp at hq
theorem xNest_of {w : Cond} {s : State} {A : Array Value} (hn : xNest w = true) (h : w.before A s = true) : va_Nw w s := by
  cases w with
  | fieldLinkNest a i b n d hh => exact va_Nw.of rfl h
  | methodLinkNest a i x hh => exact va_Nw.of rfl h
  | _ => cases hn
theorem NW_tbl : ∀ w ∈ NW, w ∈ lw_tbl := by decide +kernel
/-- the script, as a table -/
theorem scr_T {b L : Nat} {xs : Nat → Int32} {s : State} {A : Nat → Prop} (h : va_X b L xs s s.heap) (hb : ¬ A b) : va_T .int b L (fun j => .int (xs j)) A s s.heap := by
  obtain ⟨scr, h1, h2, h3, h4, h5⟩ := h
  exact ⟨scr, h1, h2, h3, by omega, by rw [h4], h5, hb⟩
theorem map_iI (l : List Int) (j : Nat) : (l.map iI).getD j 0 = iI (l.getD j 0) := by
  simp only [List.getD_eq_getElem?_getD, List.getElem?_map]
  cases l[j]? <;> rfl
abbrev sBy : List (List Int32) := sTx.map (List.map iI)
theorem sBy_at {i : Nat} (hi : i < 5) (j : Nat) : (sBy.getD i []).getD j 0 = iI ((sTx.getD i []).getD j 0) := by
  rw [← map_iI]
  match i, hi with
  | 0, _ => rfl
  | 1, _ => rfl
  | 2, _ => rfl
  | 3, _ => rfl
  | 4, _ => rfl
  | n + 5, h => omega
/-! the table of powers and the literals, out of what is given -/
abbrev FL : List Cond := flatC (Jvm.Cond.and given_1 narrow_1)
abbrev tmT : Term := Term.static "PicturedRecord$Decimal" "TENS" "[J"
def tmS (i : Nat) : Term := Term.string "PicturedRecord$Picture" ([61, 81, 96, 106, 101].getD i 0)
theorem m_tens : ∀ j, j < 10 → Cond.eq (.elem tmT (.int (Int32.ofNat j))) (.long (lI (10 ^ j))) ∈ FL := by decide +kernel
theorem tens_T {s : State} {args : Array Value} {A : Nat → Prop} (hs : ∀ c ∈ FL, c.before args s = true) (hA : ∀ a : Nat, a < s.heap.size → ¬ A a) : ∃ t : Nat, tmT.eval args s none [] s = some (.ref t) ∧ va_T .long t 10 (fun j => .long (lI (10 ^ j))) A s s.heap :=
  va_Tof (by decide) (hs _ (by decide +kernel)) (va_eqt (hs _ (by decide +kernel))) (fun j hj => va_eqtl (hs _ (m_tens j hj))) hA
theorem m_ex : ∀ i, i < 5 → Cond.exactly (tmS i) "java/lang/String" ∈ FL := by decide +kernel
theorem m_co : ∀ i, i < 5 → Cond.eq (.field (tmS i) "java/lang/String" "coder" "B") (.int 0) ∈ FL := by decide +kernel
theorem m_ar : ∀ i, i < 5 → Cond.arrayOf (.field (tmS i) "java/lang/String" "value" "[B") .byte ∈ FL := by decide +kernel
theorem m_le : ∀ i, i < 5 → Cond.eq (.length (.field (tmS i) "java/lang/String" "value" "[B")) (.int (Int32.ofNat (sLn.getD i 0))) ∈ FL := by decide +kernel
theorem m_el : ∀ i, i < 5 → ∀ j, j < sLn.getD i 0 → Cond.eq (.elem (.field (tmS i) "java/lang/String" "value" "[B") (.int (Int32.ofNat j))) (.int ((sBy.getD i []).getD j 0)) ∈ FL := by decide +kernel
theorem m_ne : ∀ i, i < 5 → ∀ j, j < 5 → i ≠ j → Cond.not (Cond.eq (tmS i) (tmS j)) ∈ FL ∨ Cond.not (Cond.eq (tmS j) (tmS i)) ∈ FL := by decide +kernel
theorem str_S {s : State} {args : Array Value} {A : Nat → Prop} (hs : ∀ c ∈ FL, c.before args s = true) (hA : ∀ a : Nat, a < s.heap.size → ¬ A a) : ∃ adK adV : Nat → Nat, vk_S 5 sLn sBy adK adV A s s.heap ∧ ∀ i : Nat, i < 5 → (tmS i).eval args s none [] s = some (.ref (adK i)) :=
  vk_Sof (by decide) (fun i hi => hs _ (m_ex i hi)) (fun i hi => hs _ (m_co i hi)) (fun i hi => hs _ (m_ar i hi)) (fun i hi => hs _ (m_le i hi)) (fun i hi j hj => hs _ (m_el i hi j hj)) (fun i j hi hj hn => (m_ne i hi j hj hn).imp (fun h => hs _ h) (fun h => hs _ h)) hA
