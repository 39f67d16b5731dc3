/-! The plain judgement X: the machine over a list of cells of our own, addresses counted from a base; the kit's rows are hidden in it. -/
abbrev xEnv : Type := Launch × Nat × (Nat → Nat) × va_G × List (ClassId × FieldType) × Nat × (Nat → Int32)
abbrev eS (E : xEnv) : Nat := E.2.1
abbrev eF (E : xEnv) : Nat → Nat := E.2.2.1
abbrev eD (E : xEnv) : va_G := E.2.2.2.1
abbrev eT (E : xEnv) : List (ClassId × FieldType) := E.2.2.2.2.1
abbrev eN (E : xEnv) : Nat := E.2.2.2.2.2.1
abbrev eX (E : xEnv) : Nat → Int32 := E.2.2.2.2.2.2
abbrev xH : Type := List va_E
abbrev xM : Type := MethodName × ByteArray × Nat × Option FieldType
/-- a value of ours as the machine has it: a cell of ours lies behind the base, a foreign one (written as a return address) where the table says -/
def xv (E : xEnv) : Value → Value
  | .ref k => .ref (E.2.1 + k)
  | .retAddr k => .ref (eF E k)
  | v => v
theorem xv_cat (E : xEnv) (v : Value) : (xv E v).category = v.category := by cases v <;> rfl
def xe (E : xEnv) (q : va_E) : va_E := match q with
  | .inl (t, n, .inr (.inr (.inr (.inr f)))) => .inl (((eT E).getD t (0, .int)).1, n, .inr (.inr (.inr (.inr (fun j => (f j).map (fun k => E.2.1 + k))))))
  | .inl (t, x) => .inl (((eT E).getD t (0, .int)).1, x)
  | .inr (c, fs) => .inr (c, fs.map (xv E))
def xw (E : xEnv) (h : xH) : va_W := h.mapIdx (fun i e => (E.2.1 + i, xe E e))
theorem xw_get {E : xEnv} {h : xH} {i : Nat} {e : va_E} (hi : h[i]? = some e) : (xw E h)[i]? = some (E.2.1 + i, xe E e) := by
  simp [xw, hi]
theorem xw_set (E : xEnv) (h : xH) (i : Nat) (e : va_E) : (xw E h).set i (E.2.1 + i, xe E e) = xw E (h.set i e) := by
  apply List.ext_getElem?
  intro j
  by_cases hij : i = j
  · subst hij
    by_cases hl : i < h.length
    · rw [List.getElem?_set_self (by simpa [xw] using hl), xw_get (e := e) (by rw [List.getElem?_set_self hl])]
    · rw [List.getElem?_eq_none (by simp [xw]; omega), List.getElem?_eq_none (by simp [xw]; omega)]
  · rw [List.getElem?_set_ne hij]
    simp [xw, List.getElem?_set_ne hij]
theorem xw_app (E : xEnv) (h : xH) (e : va_E) : xw E (h ++ [e]) = xw E h ++ [(E.2.1 + h.length, xe E e)] := by
  simp [xw, List.mapIdx_append]
theorem xw_inv {E : xEnv} {h : xH} {i : Nat} {q : Nat × va_E} (hi : (xw E h)[i]? = some q) : q.1 = E.2.1 + i ∧ i < h.length := by
  have hl : i < (xw E h).length := (List.getElem?_eq_some_iff.mp hi).1
  have hl2 : i < h.length := by simpa [xw] using hl
  have := xw_get (E := E) (List.getElem?_eq_getElem hl2)
  rw [hi] at this
  exact ⟨by rw [Option.some.inj this], hl2⟩
abbrev xA (E : xEnv) : Nat → Prop := fun q => E.2.1 ≤ q
theorem xw_D (E : xEnv) (h : xH) : va_D (xA E) (xw E h) := by
  refine ⟨fun i j p q hi hj hpq => ?_, fun k q hk => ?_⟩
  · have h1 := (xw_inv hi).1
    have h2 := (xw_inv hj).1
    omega
  · have h1 := (xw_inv hk).1
    show E.2.1 ≤ q.1
    omega
/-- the heap holds our cells, and nothing behind them -/
def xP (E : xEnv) (h : xH) (H : Heap) : Prop := va_P (eD E) vwCl (xw E h) H ∧ H.size = E.2.1 + h.length
/-! locals -/
def xl (E : xEnv) : Nat → List (Option Value) → List (Nat × Value)
  | _, [] => []
  | i, none :: L => xl E (i + 1) L
  | i, some v :: L => (i, xv E v) :: xl E (i + 1) L
theorem xl_mem (E : xEnv) : ∀ (L : List (Option Value)) (i j : Nat) (v : Value), L[j]? = some (some v) → (i + j, xv E v) ∈ xl E i L
  | [], i, j, v, h => by simp at h
  | none :: L, i, 0, v, h => by simp at h
  | none :: L, i, j + 1, v, h => by
    have := xl_mem E L (i + 1) j v (by simpa using h)
    rw [show i + (j + 1) = i + 1 + j by omega]
    exact this
  | some w :: L, i, 0, v, h => by
    have : w = v := by simpa using h
    subst this
    exact List.mem_cons_self
  | some w :: L, i, j + 1, v, h => by
    have := xl_mem E L (i + 1) j v (by simpa using h)
    rw [show i + (j + 1) = i + 1 + j by omega]
    exact List.mem_cons_of_mem _ this
theorem xl_inv (E : xEnv) : ∀ (L : List (Option Value)) (i : Nat) (q : Nat × Value), q ∈ xl E i L → ∃ j v, q = (i + j, xv E v) ∧ L[j]? = some (some v)
  | [], i, q, h => by simp [xl] at h
  | none :: L, i, q, h => by
    obtain ⟨j, v, h1, h2⟩ := xl_inv E L (i + 1) q h
    exact ⟨j + 1, v, by rw [h1]; congr 1; omega, by simpa using h2⟩
  | some w :: L, i, q, h => by
    rcases List.mem_cons.mp h with h | h
    · exact ⟨0, w, h, rfl⟩
    · obtain ⟨j, v, h1, h2⟩ := xl_inv E L (i + 1) q h
      exact ⟨j + 1, v, by rw [h1]; congr 1; omega, by simpa using h2⟩
def xL (E : xEnv) (ls : Array Slot) (n : Nat) (L : List (Option Value)) : Prop := lv_has ls n (xl E 0 L) ∧ L.length = n
theorem xL.at {E : xEnv} {ls : Array Slot} {n i : Nat} {L : List (Option Value)} {v : Value} (h : xL E ls n L) (hi : L[i]? = some (some v)) : ls[i]? = some (.val (xv E v)) := by
  have := h.1.2.2 _ (xl_mem E L 0 i v hi)
  simpa using this
theorem lv_has_of {ls : Array Slot} {n : Nat} {l l' : List (Nat × Value)} (h : lv_has ls n l) (hs : ∀ q ∈ l', q ∈ l) : lv_has ls n l' := ⟨h.1, h.2.1, fun q hq => h.2.2 q (hs q hq)⟩
def xc2 : Option Value → Bool
  | some (.long _) => true
  | some (.double _) => true
  | _ => false
theorem xc2_cat {v : Value} (h : xc2 (some v) = false) : ¬ v.category = 2 := by cases v <;> simp_all [xc2, Value.category]
def xs1 : List (Option Value) → Nat → Value → List (Option Value)
  | [], _, _ => []
  | _ :: L, 0, v => some v :: L
  | x :: L, 1, v => (if xc2 x then none else x) :: xs1 L 0 v
  | x :: L, i + 2, v => x :: xs1 L (i + 1) v
def xs2 : List (Option Value) → Nat → Value → List (Option Value)
  | [], _, _ => []
  | [_], 0, _ => [none]
  | _ :: _ :: L, 0, v => some v :: none :: L
  | x :: L, 1, v => (if xc2 x then none else x) :: xs2 L 0 v
  | x :: L, i + 2, v => x :: xs2 L (i + 1) v
theorem xs1_len : ∀ (L : List (Option Value)) (i : Nat) (v : Value), (xs1 L i v).length = L.length
  | [], _, _ => rfl
  | _ :: L, 0, v => rfl
  | x :: L, 1, v => by simp [xs1, xs1_len L 0 v]
  | x :: L, i + 2, v => by simp [xs1, xs1_len L (i + 1) v]
theorem xs2_len : ∀ (L : List (Option Value)) (i : Nat) (v : Value), (xs2 L i v).length = L.length
  | [], _, _ => rfl
  | [_], 0, _ => rfl
  | _ :: _ :: L, 0, v => rfl
  | [x], 1, v => by simp [xs2]
  | x :: y :: L, 1, v => by simp [xs2, xs2_len (y :: L) 0 v]
  | x :: L, i + 2, v => by simp [xs2, xs2_len L (i + 1) v]
theorem xs1_get : ∀ (L : List (Option Value)) (i : Nat) (v : Value) (j : Nat) (w : Value), (xs1 L i v)[j]? = some (some w) → (j = i ∧ w = v) ∨ (j ≠ i ∧ L[j]? = some (some w) ∧ ¬ (j + 1 = i ∧ w.category = 2))
  | [], i, v, j, w, h => by simp [xs1] at h
  | x :: L, 0, v, 0, w, h => by
    left
    exact ⟨rfl, by simpa [xs1] using h.symm⟩
  | x :: L, 0, v, j + 1, w, h => by
    right
    exact ⟨by omega, by simpa [xs1] using h, by omega⟩
  | x :: L, 1, v, 0, w, h => by
    right
    cases hx : xc2 x with
    | true => simp [xs1, hx] at h
    | false =>
      have hw : x = some w := by simpa [xs1, hx] using h
      subst hw
      exact ⟨by omega, rfl, fun q => xc2_cat hx q.2⟩
  | x :: L, 1, v, j + 1, w, h => by
    rcases xs1_get L 0 v j w (by simpa [xs1] using h) with ⟨h1, h2⟩ | ⟨h1, h2, h3⟩
    · left; exact ⟨by omega, h2⟩
    · right; exact ⟨by omega, by simpa using h2, by omega⟩
  | x :: L, i + 2, v, 0, w, h => by
    right
    exact ⟨by omega, by simpa [xs1] using h, by omega⟩
  | x :: L, i + 2, v, j + 1, w, h => by
    rcases xs1_get L (i + 1) v j w (by simpa [xs1] using h) with ⟨h1, h2⟩ | ⟨h1, h2, h3⟩
    · left; exact ⟨by omega, h2⟩
    · right; exact ⟨by omega, by simpa using h2, fun q => h3 ⟨by omega, q.2⟩⟩
theorem xs2_get : ∀ (L : List (Option Value)) (i : Nat) (v : Value) (j : Nat) (w : Value), (xs2 L i v)[j]? = some (some w) → (j = i ∧ w = v) ∨ (j ≠ i ∧ j ≠ i + 1 ∧ L[j]? = some (some w) ∧ ¬ (j + 1 = i ∧ w.category = 2))
  | [], i, v, j, w, h => by simp [xs2] at h
  | [x], 0, v, j, w, h => by cases j <;> simp [xs2] at h
  | x :: y :: L, 0, v, 0, w, h => by
    left
    exact ⟨rfl, by simpa [xs2] using h.symm⟩
  | x :: y :: L, 0, v, 1, w, h => by simp [xs2] at h
  | x :: y :: L, 0, v, j + 2, w, h => by
    right
    exact ⟨by omega, by omega, by simpa [xs2] using h, by omega⟩
  | x :: L, 1, v, 0, w, h => by
    right
    cases hx : xc2 x with
    | true => simp [xs2, hx] at h
    | false =>
      have hw : x = some w := by simpa [xs2, hx] using h
      subst hw
      exact ⟨by omega, by omega, rfl, fun q => xc2_cat hx q.2⟩
  | x :: L, 1, v, j + 1, w, h => by
    rcases xs2_get L 0 v j w (by simpa [xs2] using h) with ⟨h1, h2⟩ | ⟨h1, h2, h3, h4⟩
    · left; exact ⟨by omega, h2⟩
    · right; exact ⟨by omega, by omega, by simpa using h3, by omega⟩
  | x :: L, i + 2, v, 0, w, h => by
    right
    exact ⟨by omega, by omega, by simpa [xs2] using h, by omega⟩
  | x :: L, i + 2, v, j + 1, w, h => by
    rcases xs2_get L (i + 1) v j w (by simpa [xs2] using h) with ⟨h1, h2⟩ | ⟨h1, h2, h3, h4⟩
    · left; exact ⟨by omega, h2⟩
    · right; exact ⟨by omega, by omega, by simpa using h3, fun q => h4 ⟨by omega, q.2⟩⟩
theorem xL_s1 {E : xEnv} {ls : Array Slot} {n i : Nat} {L : List (Option Value)} {v : Value} (hl : L.length = n) (h : lv_has ls n ((i, xv E v) :: (xl E 0 L).filter (fun q => !(q.1 == i) && !(q.1 + 1 == i && q.2.category == 2)))) : xL E ls n (xs1 L i v) := by
  refine ⟨lv_has_of h fun q hq => ?_, by rw [xs1_len]; exact hl⟩
  obtain ⟨j, w, rfl, hj⟩ := xl_inv E _ _ _ hq
  rcases xs1_get L i v j w hj with ⟨h1, h2⟩ | ⟨h1, h2, h3⟩
  · subst h1; subst h2
    rw [Nat.zero_add]
    exact List.mem_cons_self
  · refine List.mem_cons_of_mem _ (List.mem_filter.mpr ⟨xl_mem E L 0 j w h2, ?_⟩)
    simp [h1, xv_cat]
    exact Decidable.not_and_iff_or_not.mp h3
theorem xL_s2 {E : xEnv} {ls : Array Slot} {n i : Nat} {L : List (Option Value)} {v : Value} (hl : L.length = n) (h : lv_has ls n ((i, xv E v) :: (xl E 0 L).filter (fun q => !(q.1 == i) && (!(q.1 == i + 1) && !(q.1 + 1 == i && q.2.category == 2))))) : xL E ls n (xs2 L i v) := by
  refine ⟨lv_has_of h fun q hq => ?_, by rw [xs2_len]; exact hl⟩
  obtain ⟨j, w, rfl, hj⟩ := xl_inv E _ _ _ hq
  rcases xs2_get L i v j w hj with ⟨h1, h2⟩ | ⟨h1, h2, h3, h4⟩
  · subst h1; subst h2
    rw [Nat.zero_add]
    exact List.mem_cons_self
  · refine List.mem_cons_of_mem _ (List.mem_filter.mpr ⟨xl_mem E L 0 j w h3, ?_⟩)
    simp [h1, h2, xv_cat]
    exact Decidable.not_and_iff_or_not.mp h4
/-! foreign things: 0 the script, 1 the table of powers of ten, 10.. the string literals, 20.. their bytes -/
def sTx : List (List Int) := [[57, 90, 42, 36, 43, 45, 44, 66, 48, 47], [43, 45], [44, 66, 48, 47], [90, 42, 36, 43, 45], [36, 43, 45]]
def sLn : List Nat := [10, 2, 4, 5, 3]
abbrev xTbE : Type := Nat × FieldType × Nat × (Nat → Value)
def xTb (E : xEnv) : List xTbE := [(0, .int, eN E, fun j => .int (eX E j)), (1, .long, 10, fun j => .long (lI (10 ^ j))), (20, .byte, 10, fun j => .int (iI ((sTx.getD 0 []).getD j 0))), (21, .byte, 2, fun j => .int (iI ((sTx.getD 1 []).getD j 0))), (22, .byte, 4, fun j => .int (iI ((sTx.getD 2 []).getD j 0))), (23, .byte, 5, fun j => .int (iI ((sTx.getD 3 []).getD j 0))), (24, .byte, 3, fun j => .int (iI ((sTx.getD 4 []).getD j 0)))]
def xSs : List (String × String × String × Value) := [("PicturedRecord$Decimal", "TENS", "[J", .retAddr 1), ("java/lang/String", "COMPACT_STRINGS", "Z", .int (iI 1))]
def xSr : List (String × Nat × String × Nat) := [("PicturedRecord$Picture", 61, "9Z*$+-,B0/", 10), ("PicturedRecord$Picture", 81, "+-", 11), ("PicturedRecord$Picture", 96, ",B0/", 12), ("PicturedRecord$Picture", 106, "Z*$+-", 13), ("PicturedRecord$Picture", 101, "$+-", 14)]
def xOs : List (Nat × String) := [(10, "java/lang/String"), (11, "java/lang/String"), (12, "java/lang/String"), (13, "java/lang/String"), (14, "java/lang/String")]
def xOf : List (Nat × String × String × String × Value) := [(10, "java/lang/String", "coder", "B", .int (iI 0)), (10, "java/lang/String", "value", "[B", .retAddr 20), (11, "java/lang/String", "coder", "B", .int (iI 0)), (11, "java/lang/String", "value", "[B", .retAddr 21), (12, "java/lang/String", "coder", "B", .int (iI 0)), (12, "java/lang/String", "value", "[B", .retAddr 22), (13, "java/lang/String", "coder", "B", .int (iI 0)), (13, "java/lang/String", "value", "[B", .retAddr 23), (14, "java/lang/String", "coder", "B", .int (iI 0)), (14, "java/lang/String", "value", "[B", .retAddr 24)]
def xAo : List String := ["PicturedRecord$Field"]
/-! what is foreign: tables, static fields, strings, the nest's words; none of it is ever written -/
def xF (E : xEnv) (U : State) (H : Heap) : Prop :=
  (∀ w ∈ NW, va_Nw w U) ∧ (∀ q ∈ xTb E, va_T q.2.1 (eF E q.1) q.2.2.1 q.2.2.2 (xA E) U H) ∧ (∀ q ∈ xSs, va_Z q.1 q.2.1 q.2.2.1 (xv E q.2.2.2) (xA E) U H) ∧ (∀ q ∈ xSr, vk_R q.1 q.2.1 q.2.2.1 (eF E q.2.2.2) U) ∧ (∀ q ∈ xOs, va_O q.2 (eF E q.1) (xA E) U H) ∧ (∀ q ∈ xOf, va_OF q.2.1 q.2.2.1 q.2.2.2.1 (xv E q.2.2.2.2) (eF E q.1) (xA E) U H) ∧ (∀ C ∈ xAo, va_AO C U)
def xNest : Cond → Bool
  | .fieldLinkNest .. => true
  | .methodLinkNest .. => true
  | _ => false
theorem xNest_warm {w : Cond} {s U : State} (hn : xNest w = true) (hW : s.WarmedH U.vm) (h : va_Nw w s) : va_Nw w U := by
  cases w with
  | fieldLinkNest a i b n d hh => exact va_Nw.warmF hW h
  | methodLinkNest a i x hh => exact va_Nw.warmM hW h
  | _ => cases hn
theorem xNest_same {w : Cond} {u U : State} (hn : xNest w = true) (hv : u.vm = U.vm) (h : va_Nw w u) : va_Nw w U := by
  cases w with
  | fieldLinkNest a i b n d hh => exact va_Nw.same rfl hv h
  | methodLinkNest a i x hh => exact va_Nw.same rfl hv h
  | _ => cases hn
theorem NW_ok : ∀ w ∈ NW, xNest w = true := by decide +kernel
theorem xF_go {E : xEnv} {s U : State} {H H1 : Heap} (hW : s.WarmedH U.vm) (hq : ∀ a : Nat, a < H.size → ¬ xA E a → H1[a]? = H[a]?) (h : xF E s H) : xF E U H1 := by
  obtain ⟨h1, h2, h3, h4, h5, h6, h7⟩ := h
  exact ⟨fun w hw => xNest_warm (NW_ok w hw) hW (h1 w hw), fun q hh => ((h2 q hh).moved hW.alike).kept hq, fun q hh => ((h3 q hh).moved hW.alike).kept hq, fun q hh => (h4 q hh).warm hW, fun q hh => ((h5 q hh).moved hW.alike).kept hq, fun q hh => ((h6 q hh).moved hW.alike).kept hq, fun C hh => (h7 C hh).moved hW.alike⟩
theorem xF_same {E : xEnv} {u U : State} {H : Heap} (hv : u.vm = U.vm) (h : xF E u H) : xF E U H := by
  have ha : u.vm.Alike U.vm := by rw [hv]; exact Vm.Alike.refl _
  obtain ⟨h1, h2, h3, h4, h5, h6, h7⟩ := h
  exact ⟨fun w hw => xNest_same (NW_ok w hw) hv (h1 w hw), fun q hh => (h2 q hh).moved ha, fun q hh => (h3 q hh).moved ha, fun q hh => (h4 q hh).same hv.symm, fun q hh => (h5 q hh).moved ha, fun q hh => (h6 q hh).moved ha, fun C hh => (h7 C hh).moved ha⟩
theorem xF_nw {E : xEnv} {s : State} {H : Heap} (h : xF E s H) {w : Cond} (hw : w ∈ NW) : va_Nw w s := h.1 w hw
theorem xF_nf {E : xEnv} {s : State} {H : Heap} (h : xF E s H) {a : String} {i : Nat} {b n d hh : String} (hw : Cond.fieldLinkNest a i b n d hh ∈ NW) {args : Array Value} : (Cond.fieldLinkNest a i b n d hh).before args s = true := va_Nw.use rfl (h.1 _ hw)
/-! the judgement -/
def xC (E : xEnv) (M : xM) (d K N : Nat) (p : Program) (R : Room) (s : State) (m : MethodId) (args : Array Value) (meth : Method) (c : Code) : Prop :=
  p.tables.exec = Jvm.exec ∧ c.code = M.2.1 ∧ c.maxLocals = M.2.2.1 ∧ meth.sig.returnType = M.2.2.2 ∧ meth.locks = false ∧ s.vm.findClass M.1.cls = some m.cls ∧ (M.1.name = "<init>" → meth.name = "<init>") ∧ (∀ w ∈ GW, w.before args s = true) ∧ va_K (eD E) vwCl (eT E) s ∧ xF E s s.heap ∧ E.2.1 ≤ s.heap.size ∧ (eT E).map (fun q => q.2) = xTy ∧ d ≤ R.frames ∧ 40 * d ≤ R.locals ∧ K ≤ R.cells ∧ N ≤ R.slots
def xQ (E : xEnv) (post : Option Value → xH → Prop) : Array Value → State → Outcome → State → Prop := fun _ st oc t =>
  (∃ (r : Option Value) (h : xH), oc = .returned (r.map (xv E)) ∧ post r h ∧ xP E h t.heap) ∧ va_F (xA E) st t
abbrev xEnd : Type := List Frame → Array Value → State → State → Prop
def xZ (E : xEnv) (K N : Nat) (post : Option Value → xH → Prop) : xEnd := fun below args s => MQ below (xQ E post) args s K N (xA E)
def X (E : xEnv) (M : xM) (d K N : Nat) (Z : xEnd) (pc : Nat) (L : List (Option Value)) (st : List Value) (h : xH) (k n : Nat) : Prop :=
  ∀ (p : Program) (e : Env) (R : Room) (s : State) (m : MethodId) (args : Array Value) (below : List Frame) (meth : Method) (c : Code) (H : Heap) (locs : List Loc) (ls : Array Slot),
    xC E M d K N p R s m args meth c → xP E h H → xL E ls M.2.2.1 L → va_S (xA E) s.heap H locs → k ≤ K → n ≤ N →
    W p E.1 e R s m args below meth c H locs k n (Z below args s) (F0 m pc ls (st.map (xv E)))
def xPre (E : xEnv) (h : xH) (U : State) : Prop := xP E h U.heap ∧ va_K (eD E) vwCl (eT E) U ∧ xF E U U.heap ∧ E.2.1 ≤ U.heap.size ∧ (eT E).map (fun q => q.2) = xTy
/-- a method's contract in these words -/
def xCt (E : xEnv) (d mc ms : Nat) (M : xM) (args : List Value) (h : xH) (post : Option Value → xH → Prop) : Prop :=
  Met E.1 M.1 (Cond.code M.1 M.2.1 M.2.2.1 M.2.2.2 :: GW) { frames := d, cells := mc, slots := ms, locals := 40 * d } (va_Pc (args.map (xv E)) (xPre E h)) (xQ E post) mc ms (xA E)
/-- the locals with which a method begins -/
def xent : List Value → List (Option Value)
  | [] => []
  | v :: vs => if xc2 (some v) then some v :: none :: xent vs else some v :: xent vs
theorem xc2_iff (v : Value) : xc2 (some v) = true ↔ v.category = 2 := by cases v <;> simp [xc2, Value.category]
theorem xent_args (E : xEnv) : ∀ (vs : List Value) (i j : Nat) (v : Value), (xent vs)[j]? = some (some v) → (i + j, xv E v) ∈ lv_args i (vs.map (xv E))
  | [], i, j, v, h => by simp [xent] at h
  | w :: vs, i, j, v, h => by
    simp only [List.map_cons, lv_args]
    by_cases hc : xc2 (some w) = true
    · simp only [xent, hc, if_true] at h
      rw [if_pos (by rw [xv_cat]; exact (xc2_iff w).mp hc)]
      match j, h with
      | 0, h =>
        have : w = v := by simpa using h
        subst this
        exact List.mem_cons_self
      | 1, h => simp at h
      | j + 2, h =>
        have := xent_args E vs (i + 2) j v (by simpa using h)
        rw [show i + (j + 2) = i + 2 + j by omega]
        exact List.mem_cons_of_mem _ this
    · simp only [xent, hc] at h
      rw [if_neg (by rw [xv_cat]; exact fun q => hc ((xc2_iff w).mpr q))]
      match j, h with
      | 0, h =>
        have : w = v := by simpa using h
        subst this
        exact List.mem_cons_self
      | j + 1, h =>
        have := xent_args E vs (i + 1) j v (by simpa using h)
        rw [show i + (j + 1) = i + 1 + j by omega]
        exact List.mem_cons_of_mem _ this
theorem xent_len (E : xEnv) : ∀ (vs : List Value), (lg_sl (vs.map (xv E))).length = (xent vs).length
  | [] => rfl
  | w :: vs => by
    have ih := xent_len E vs
    simp only [lg_sl, List.map_cons, List.flatMap_cons, List.length_append] at ih ⊢
    rw [ih]
    by_cases hc : xc2 (some w) = true
    · rw [if_pos (by rw [xv_cat]; exact (xc2_iff w).mp hc)]
      simp [xent, hc]; omega
    · rw [if_neg (by rw [xv_cat]; exact fun q => hc ((xc2_iff w).mpr q))]
      simp [xent, hc]; omega
theorem xpad_get {L : List (Option Value)} {n j : Nat} {v : Value} (h : (L ++ List.replicate n none)[j]? = some (some v)) : L[j]? = some (some v) := by
  by_cases hl : j < L.length
  · rwa [List.getElem?_append_left hl] at h
  · rw [List.getElem?_append_right (by omega)] at h
    have := List.getElem?_replicate (a := (none : Option Value)) (n := n) (i := j - L.length)
    rw [h] at this
    split at this <;> simp at this
set_option maxHeartbeats 1000000 in
theorem x_met {E : xEnv} {M : xM} {d mc ms : Nat} {args : List Value} {h : xH} {post : Option Value → xH → Prop} {L : List (Option Value)} (hy : plainName M.1.cls = true) (hL : xent args ++ List.replicate (M.2.2.1 - (xent args).length) none = L) (hn : (xent args).length ≤ M.2.2.1)
    (k : X E M d mc ms (xZ E mc ms post) 0 L [] h 0 0) : xCt E d mc ms M args h post := by
  refine Met.ofW (cc := M.2.1) (maxL := M.2.2.1) (ret := M.2.2.2) hy rfl ?_
  intro p e s m args' below meth c s₁ B hml hv
  obtain ⟨rfl, hP, hK, hF, hS0, hT⟩ := hv
  have hts := atoms_spec (ws := Cond.code M.1 M.2.1 M.2.2.1 M.2.2.2 :: GW) B.pre
  have hle : (lg_sl (args.map (xv E))).length ≤ M.2.2.1 := by rw [xent_len]; exact hn
  have hl := lv_entry (args.map (xv E)) (n := M.2.2.1) hle
  rw [lg_entry_eq]
  refine k p e _ s m _ below meth c s.heap [] _ ⟨B.exec, B.bytes, hml, B.returns, B.notSynchronized, findClass_of_methodNamed B.named, fun hi => ((name_of_methodNamed B.named B.method).1).trans hi, fun w hw => hts w (List.mem_cons_of_mem _ hw), hK, hF, hS0, hT, Nat.le_refl _, Nat.le_refl _, Nat.le_refl _, Nat.le_refl _⟩ hP ⟨lv_has_of hl fun q hq => ?_, by rw [← hL]; simp; omega⟩ va_S.rf (Nat.zero_le _) (Nat.zero_le _)
  obtain ⟨j, v, rfl, hj⟩ := xl_inv E _ _ _ hq
  rw [← hL] at hj
  exact xent_args E args 0 j v (xpad_get hj)
