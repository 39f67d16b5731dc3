/-! rows on the heap -/
theorem xP_set {E : xEnv} {h : xH} {H H1 : Heap} {o : Nat} {e0 e : va_E} (hP : xP E h H) (ho : h[o]? = some e0) (he : va_at (eD E) vwCl (eS E + o, xe E e) H1) (z : H1.size = H.size) (oq : ∀ q : Nat, q ≠ eS E + o → H1[q]? = H[q]?) : xP E (h.set o e) H1 := by
  refine ⟨?_, by rw [z, hP.2, List.length_set]⟩
  rw [← xw_set]
  exact hP.1.set (xw_D E h) (xw_get ho) he oq
theorem xP_app {E : xEnv} {h : xH} {H H1 : Heap} {e : va_E} (hP : xP E h H) (he : va_at (eD E) vwCl (eS E + h.length, xe E e) H1) (z : H1.size = H.size + 1) (oq : ∀ q : Nat, q < H.size → H1[q]? = H[q]?) : xP E (h ++ [e]) H1 := by
  refine ⟨?_, by rw [z, hP.2, List.length_append, List.length_singleton]; omega⟩
  rw [xw_app]
  refine (hP.1.kept fun k x hx => oq x.1 ((hP.1 k x hx).lt)).app (fun k x hx => ?_)
  have hz : k < 1 := (List.getElem?_eq_some_iff.mp hx).1
  rw [show k = 0 by omega] at hx
  cases hx
  exact he
theorem xS_app {E : xEnv} {H0 H H1 : Heap} {locs : List Loc} (hS : va_S (xA E) H0 H locs) (z : H1.size = H.size + 1) (oq : ∀ q : Nat, q < H.size → H1[q]? = H[q]?) : va_S (xA E) H0 H1 locs :=
  ⟨Nat.le_trans hS.1 (by omega), fun x h1 h2 => (oq x (Nat.lt_of_lt_of_le h1 hS.1)).trans (hS.2.1 x h1 h2), hS.2.2⟩
theorem xT_at {E : xEnv} (hT : (eT E).map (fun q => q.2) = xTy) {t : Nat} {ty : FieldType} (h : xTy[t]? = some ty) : (eT E)[t]? = some (((eT E).getD t (0, .int)).1, ty) := by
  rw [← hT, List.getElem?_map] at h
  cases hq : (eT E)[t]? with
  | none => rw [hq] at h; cases h
  | some q =>
    rw [hq] at h
    have : q.2 = ty := by simpa using h
    subst this
    simp [List.getD, hq]
def xrv : Option Nat → Value
  | none => .null
  | some k => .ref k
theorem xrv_v (E : xEnv) (o : Option Nat) : xv E (xrv o) = va_rf (o.map (fun k => eS E + k)) := by cases o <;> rfl
/-- field kf of the class ci, as the entry 'index' of the class 'own' names it -/
def xGet (own : String) (index ci kf : Nat) : Prop := ∃ (C : String) (T : u_T) (Nf : Nat), vwCl[ci]? = some (C, T, Nf) ∧ kf < Nf ∧ (∀ w ∈ u_ws C T Nf, w ∈ GW) ∧ (Cond.fieldLink own index (T kf).1 (T kf).2.1 (T kf).2.2.1 ∈ GW ∨ ∃ host, Cond.fieldLinkNest own index (T kf).1 (T kf).2.1 (T kf).2.2.1 host ∈ NW)
def xPut (y : MethodName) (index ci kf : Nat) (ty : FieldType) : Prop := ∃ (C : String) (T : u_T) (Nf : Nat) (ty0 : Nat → FieldType), vwCl[ci]? = some (C, T, Nf) ∧ kf < Nf ∧ (∀ w ∈ u_ws C T Nf, w ∈ GW) ∧ (∀ k, k < Nf → parseFieldDescriptor (T k).2.2.1 = some (ty0 k)) ∧ (∀ a, a < Nf → ∀ b, b < Nf → a ≠ b → (T a).2.1 ≠ (T b).2.1) ∧ Cond.fieldLink y.cls index (T kf).1 (T kf).2.1 (T kf).2.2.1 ∈ GW ∧ ((T kf).2.2.2 = true → (T kf).1 = y.cls ∧ y.name = "<init>") ∧ parseFieldDescriptor (T kf).2.2.1 = some ty
def xNew (own : String) (index ci : Nat) (fs : List Value) : Prop := ∃ (C : String) (T : u_T) (ty0 : Nat → FieldType), vwCl[ci]? = some (C, T, fs.length) ∧ (∀ w ∈ u_ws C T fs.length, w ∈ GW) ∧ (∀ k, k < fs.length → parseFieldDescriptor (T k).2.2.1 = some (ty0 k)) ∧ Cond.classLink own index C ∈ GW ∧ Cond.instantiable C fs.length ∈ GW ∧ Cond.initialized C ∈ GW ∧ (∀ j, j < fs.length → defaultValue (ty0 j) = vp_V fs j) ∧ (∀ E : xEnv, fs.map (xv E) = fs)
section XH
variable {E : xEnv} {M : xM} {d K N : Nat} {Z : xEnd} {pc : Nat} {L : List (Option Value)} {st : List Value} {h : xH} {k n : Nat}
theorem x_get {index o : Nat} {fs : List Value} {v : Value} (ci kf : Nat) (hd : decode M.2.1 pc = .ok (.getfield index, 3)) (hg : xGet M.1.cls index ci kf) (ho : h[o]? = some (.inr (ci, fs))) (hv : fs[kf]? = some v) (kk : X E M d K N Z (pc + 3) L (v :: st) h k n) : X E M d K N Z pc L (.ref o :: st) h k n := by
  intro p e R s m args below meth c H locs ls C hP hL hS hk hn
  obtain ⟨Cn, T, Nf, hc, hk', hw, hl⟩ := hg
  have he := xw_get (E := E) ho
  have hv' : (fs.map (xv E))[kf]? = some (xv E v) := by simp [hv]
  have kk := kk p e R s m args below meth c H locs ls C hP hL hS hk hn
  rcases hl with hl | ⟨host, hl⟩
  · exact va_get C.1 C.2.1 C.words hw C.own C.kn hP.1 o he hc kf hk' (C.words _ hl) (fun _ h9 => h9) hv' hd kk
  · exact va_getN C.1 C.2.1 C.words hw C.own C.kn hP.1 o he hc kf hk' (xF_nf C.fo hl) (fun _ h9 => h9) hv' hd kk
set_option maxHeartbeats 1000000 in
theorem x_put {index o : Nat} {ty : FieldType} {fs : List Value} {v : Value} (ci kf : Nat) (hd : decode M.2.1 pc = .ok (.putfield index, 3)) (hp : xPut M.1 index ci kf ty) (ho : h[o]? = some (.inr (ci, fs))) (hlen : kf < fs.length) (hnar : narrow ty (xv E v) = xv E v) (hfit : fits ty (xv E v) = true) (kk : X E M d K N Z (pc + 3) L st (h.set o (.inr (ci, fs.set kf v))) k n) : X E M d K N Z pc L (v :: .ref o :: st) h k n := by
  intro p e R s m args below meth c H locs ls C hP hL hS hk hn
  obtain ⟨Cn, T, Nf, ty0, hc, hkf, hw, hty, hnm, hlk, hfin, hpar⟩ := hp
  have hap := va_apart (own := M.1.cls) C.words hw ty0 hty hnm C.kn hc
  have he := xw_get (E := E) ho
  obtain ⟨r, h1, cell, q1, q2, q3, q4⟩ := hP.1 o _ he
  have hr : r = (Cn, T, Nf) := Option.some.inj (h1.symm.trans hc)
  subst hr
  obtain ⟨hSl, hfc, kC, hkC, hkind⟩ := C.kn.1 ci _ hc
  obtain ⟨cf, kf', fi, f, hi, hsl⟩ := hSl kf hkf
  have hst := (u_facts hfc hkC (u_lays C.words hw hkf) hi).1
  have fin : ∀ H' : Heap, H'[eS E + o]? = some (cell.setSlot f.slot (xv E v)) → H'.size = H.size → (∀ q, q ≠ eS E + o → H'[q]? = H[q]?) → W p E.1 e R s m args below meth c H' (locs ++ [⟨eS E + o, f.slot⟩]) k n (Z below args s) (F0 m (pc + 3) ls (st.map (xv E))) := by
    intro H' e1 e2 e3
    rw [hsl] at e1 ⊢
    refine kk p e R s m args below meth c H' _ ls C (xP_set hP ho ?_ e2 e3) hL (hS.put e2 e3 (Nat.le_add_right _ _)) hk hn
    show va_at _ _ (_, .inr (ci, (fs.set kf v).map (xv E))) H'
    rw [List.map_set]
    exact ⟨_, hc, t_OB.to (V := updV (vp_V (fs.map (xv E))) kf (xv E v)) ⟨_, e1, q2, q3, t_set q4 hap hkf (xv E v)⟩ (fun j _ => vp_updV_set (by simpa using hlen) (xv E v) j)⟩
  have hlay := C.words _ (hw _ (u_in_lay hkf))
  unfold u_lay at hlay
  by_cases hf : (T kf).2.2.2 = true
  · obtain ⟨hdecl, hin⟩ := hfin hf
    rw [if_pos hf] at hlay
    have hcf : m.cls = cf := by
      obtain ⟨_, _, c', _, _, _, -, -, hf', -, -, -, hown2, -⟩ := Cond.laysFinal_spec hlay
      have e1 : c' = cf := by have := hi.symm.trans hf'; simp at this; exact this.1.symm
      rw [hdecl] at hown2
      rw [← e1]; exact Option.some.inj (C.own.symm.trans hown2)
    have h6 := u_fits hfc hkC hkind (Or.inr hlay) hi hpar hnar hfit
    exact W.putFinK C.1 C.2.1 C.own (C.words _ hlk) hi hst hcf (C.name hin) (by rw [q2]; exact h6) q1 q3 (by rw [hsl]; exact k2_hasslot (q4 kf hkf)) rfl rfl hd fin
  · rw [if_neg hf] at hlay
    have h6 := u_store hfc hkC hkind hlay hi hpar hnar hfit
    exact W.putK C.1 C.2.1 (f := f) ⟨C.own, C.words _ hlk, ⟨_, _, _, hi⟩, hst⟩ (by rw [q2]; exact h6) q1 q3 (by rw [hsl]; exact k2_hasslot (q4 kf hkf)) rfl rfl hd fin
theorem x_iald {o nn : Nat} {f : Nat → Int32} {i : Int32} (hd : decode M.2.1 pc = .ok (.iaload, 1)) (ho : h[o]? = some (.inl (0, nn, .inl f))) (hin : vp_in i nn) (kk : X E M d K N Z (pc + 1) L (.int (f i.toNatClampNeg) :: st) h k n) : X E M d K N Z pc L (.int i :: .ref o :: st) h k n := by
  intro p e R s m args below meth c H locs ls C hP hL hS hk hn
  exact va_iald C.1 C.2.1 C.kn hP.1 o 0 (xw_get ho) (xT_at C.tys rfl) hin hd (kk p e R s m args below meth c H locs ls C hP hL hS hk hn)
theorem x_lald {o nn : Nat} {f : Nat → Int64} {i : Int32} (hd : decode M.2.1 pc = .ok (.laload, 1)) (ho : h[o]? = some (.inl (1, nn, .inr (.inl f)))) (hin : vp_in i nn) (kk : X E M d K N Z (pc + 1) L (.long (f i.toNatClampNeg) :: st) h k n) : X E M d K N Z pc L (.int i :: .ref o :: st) h k n := by
  intro p e R s m args below meth c H locs ls C hP hL hS hk hn
  exact va_lald C.1 C.2.1 C.kn hP.1 o 1 (xw_get ho) (xT_at C.tys rfl) hin hd (kk p e R s m args below meth c H locs ls C hP hL hS hk hn)
theorem x_cald {o nn : Nat} {f : Nat → Int32} {i : Int32} (hd : decode M.2.1 pc = .ok (.caload, 1)) (ho : h[o]? = some (.inl (2, nn, .inl f))) (hin : vp_in i nn) (kk : X E M d K N Z (pc + 1) L (.int (f i.toNatClampNeg) :: st) h k n) : X E M d K N Z pc L (.int i :: .ref o :: st) h k n := by
  intro p e R s m args below meth c H locs ls C hP hL hS hk hn
  exact va_cald C.1 C.2.1 C.kn hP.1 o 2 (xw_get ho) (xT_at C.tys rfl) hin hd (kk p e R s m args below meth c H locs ls C hP hL hS hk hn)
theorem x_zald {o nn : Nat} {f : Nat → Int32} {i : Int32} (hd : decode M.2.1 pc = .ok (.baload, 1)) (ho : h[o]? = some (.inl (3, nn, .inl f))) (hin : vp_in i nn) (kk : X E M d K N Z (pc + 1) L (.int (f i.toNatClampNeg) :: st) h k n) : X E M d K N Z pc L (.int i :: .ref o :: st) h k n := by
  intro p e R s m args below meth c H locs ls C hP hL hS hk hn
  exact va_zald C.1 C.2.1 C.kn hP.1 o 3 (xw_get ho) (xT_at C.tys rfl) hin hd (kk p e R s m args below meth c H locs ls C hP hL hS hk hn)
theorem x_aald {o nn : Nat} {f : Nat → Option Nat} {i : Int32} (hd : decode M.2.1 pc = .ok (.aaload, 1)) (ho : h[o]? = some (.inl (4, nn, .inr (.inr (.inr (.inr f)))))) (hin : vp_in i nn) (kk : X E M d K N Z (pc + 1) L (xrv (f i.toNatClampNeg) :: st) h k n) : X E M d K N Z pc L (.int i :: .ref o :: st) h k n := by
  intro p e R s m args below meth c H locs ls C hP hL hS hk hn
  have kk := kk p e R s m args below meth c H locs ls C hP hL hS hk hn
  rw [List.map_cons, xrv_v] at kk
  exact va_aldq C.1 C.2.1 C.kn hP.1 o 4 (xw_get ho) (xT_at C.tys rfl) hin hd kk
theorem x_alen {o t nn : Nat} {x : (Nat → Int32) ⊕ (Nat → Int64) ⊕ (Nat → UInt32) ⊕ (Nat → UInt64) ⊕ (Nat → Option Nat)} {ty : FieldType} (hd : decode M.2.1 pc = .ok (.arraylength, 1)) (ho : h[o]? = some (.inl (t, nn, x))) (ht : xTy[t]? = some ty) (kk : X E M d K N Z (pc + 1) L (.int (Int32.ofNat nn) :: st) h k n) : X E M d K N Z pc L (.ref o :: st) h k n := by
  intro p e R s m args below meth c H locs ls C hP hL hS hk hn
  have kk := kk p e R s m args below meth c H locs ls C hP hL hS hk hn
  have he := xw_get (E := E) ho
  obtain x | x | x | x | x := x <;> exact va_alen C.1 C.2.1 C.kn hP.1 o t he (xT_at C.tys ht) rfl hd kk
theorem x_iast {o nn : Nat} {f : Nat → Int32} {i x : Int32} (hd : decode M.2.1 pc = .ok (.iastore, 1)) (ho : h[o]? = some (.inl (0, nn, .inl f))) (hin : vp_in i nn) (kk : X E M d K N Z (pc + 1) L st (h.set o (.inl (0, nn, .inl (upd f i.toNatClampNeg x)))) k n) : X E M d K N Z pc L (.int x :: .int i :: .ref o :: st) h k n := by
  intro p e R s m args below meth c H locs ls C hP hL hS hk hn
  have hc : H[eS E + o]? = some (vp_cell _ (nn, .inl f)) := hP.1 o _ (xw_get ho)
  refine W.iast C.1 C.2.1 hc ((C.kn.2 0 _ (xT_at C.tys rfl)).1 nn (fun j => .int (f j))) (fun q => by cases q) (by show ¬ (i < 0 ∨ (arrV _ _ _).slots.size ≤ _); rw [arrV_size]; exact hin) rfl rfl hd fun H1 e1 z oq => ?_
  refine kk p e R s m args below meth c H1 _ ls C (xP_set hP ho ?_ z oq) hL (hS.put z oq (Nat.le_add_right _ _)) hk hn
  show H1[eS E + o]? = some (vp_cell _ _)
  rw [e1, vp_cell_i, vp_cell_i, arrV_store]
  congr 2
  funext q
  by_cases hq : q = i.toNatClampNeg <;> simp [updV, upd, hq]
theorem x_cast {o nn : Nat} {f : Nat → Int32} {i x : Int32} (hd : decode M.2.1 pc = .ok (.castore, 1)) (ho : h[o]? = some (.inl (2, nn, .inl f))) (hin : vp_in i nn) (kk : X E M d K N Z (pc + 1) L st (h.set o (.inl (2, nn, .inl (upd f i.toNatClampNeg (vp_nar .char x))))) k n) : X E M d K N Z pc L (.int x :: .int i :: .ref o :: st) h k n := by
  intro p e R s m args below meth c H locs ls C hP hL hS hk hn
  have hc : H[eS E + o]? = some (vp_cell _ (nn, .inl f)) := hP.1 o _ (xw_get ho)
  refine W.cast C.1 C.2.1 hc ((C.kn.2 2 _ (xT_at C.tys rfl)).1 nn (fun j => .int (f j))) (fun q => by cases q) (by show ¬ (i < 0 ∨ (arrV _ _ _).slots.size ≤ _); rw [arrV_size]; exact hin) rfl rfl hd fun H1 e1 z oq => ?_
  refine kk p e R s m args below meth c H1 _ ls C (xP_set hP ho ?_ z oq) hL (hS.put z oq (Nat.le_add_right _ _)) hk hn
  show H1[eS E + o]? = some (vp_cell _ _)
  rw [e1, vp_cell_i, vp_cell_i, arrV_store]
  congr 2
  funext q
  by_cases hq : q = i.toNatClampNeg
  · subst hq
    simp [updV, upd, vp_nar]
    try rfl
  · simp [updV, upd, hq]
theorem x_zast {o nn : Nat} {f : Nat → Int32} {i x : Int32} (hd : decode M.2.1 pc = .ok (.bastore, 1)) (ho : h[o]? = some (.inl (3, nn, .inl f))) (hin : vp_in i nn) (kk : X E M d K N Z (pc + 1) L st (h.set o (.inl (3, nn, .inl (upd f i.toNatClampNeg (vp_nar .boolean x))))) k n) : X E M d K N Z pc L (.int x :: .int i :: .ref o :: st) h k n := by
  intro p e R s m args below meth c H locs ls C hP hL hS hk hn
  have hc : H[eS E + o]? = some (vp_cell _ (nn, .inl f)) := hP.1 o _ (xw_get ho)
  refine W.zast C.1 C.2.1 hc ((C.kn.2 3 _ (xT_at C.tys rfl)).1 nn (fun j => .int (f j))) (fun q => by cases q) (by show ¬ (i < 0 ∨ (arrV _ _ _).slots.size ≤ _); rw [arrV_size]; exact hin) rfl rfl hd fun H1 e1 z oq => ?_
  refine kk p e R s m args below meth c H1 _ ls C (xP_set hP ho ?_ z oq) hL (hS.put z oq (Nat.le_add_right _ _)) hk hn
  show H1[eS E + o]? = some (vp_cell _ _)
  rw [e1, vp_cell_i, vp_cell_i, arrV_store]
  congr 2
  funext q
  by_cases hq : q = i.toNatClampNeg
  · subst hq
    simp [updV, upd, vp_nar]
    try rfl
  · simp [updV, upd, hq]
theorem x_last {o nn : Nat} {f : Nat → Int64} {i : Int32} {x : Int64} (hd : decode M.2.1 pc = .ok (.lastore, 1)) (ho : h[o]? = some (.inl (1, nn, .inr (.inl f)))) (hin : vp_in i nn) (kk : X E M d K N Z (pc + 1) L st (h.set o (.inl (1, nn, .inr (.inl (vp_updL f i.toNatClampNeg x))))) k n) : X E M d K N Z pc L (.long x :: .int i :: .ref o :: st) h k n := by
  intro p e R s m args below meth c H locs ls C hP hL hS hk hn
  have hc : H[eS E + o]? = some (vp_cell _ (nn, .inr (.inl f))) := hP.1 o _ (xw_get ho)
  refine W.last C.1 C.2.1 hc ((C.kn.2 1 _ (xT_at C.tys rfl)).1 nn (fun j => .long (f j))) (fun q => by cases q) (by show ¬ (i < 0 ∨ (arrV _ _ _).slots.size ≤ _); rw [arrV_size]; exact hin) rfl rfl hd fun H1 e1 z oq => ?_
  refine kk p e R s m args below meth c H1 _ ls C (xP_set hP ho ?_ z oq) hL (hS.put z oq (Nat.le_add_right _ _)) hk hn
  show H1[eS E + o]? = some (vp_cell _ _)
  rw [e1, vp_cell_l, vp_cell_l, arrV_store]
  congr 2
  funext q
  by_cases hq : q = i.toNatClampNeg <;> simp [updV, vp_updL, hq]
theorem x_aast {o nn v ci : Nat} {f : Nat → Option Nat} {i : Int32} {vs : List Value} {r : vw_C} (hd : decode M.2.1 pc = .ok (.aastore, 1)) (ho : h[o]? = some (.inl (4, nn, .inr (.inr (.inr (.inr f)))))) (hv : h[v]? = some (.inr (ci, vs))) (hc : vwCl[ci]? = some r) (hr : xTy[4]? = some (.object r.1)) (hin : vp_in i nn) (kk : X E M d K N Z (pc + 1) L st (h.set o (.inl (4, nn, .inr (.inr (.inr (.inr (va_up f i.toNatClampNeg (some v)))))))) k n) : X E M d K N Z pc L (.ref v :: .int i :: .ref o :: st) h k n := by
  intro p e R s m args below meth c H locs ls C hP hL hS hk hn
  have hlt : i.toNatClampNeg < nn := Nat.not_le.mp fun q => hin (Or.inr q)
  have h0 : ¬ i < 0 := fun q => hin (Or.inl q)
  obtain ⟨q', g0, cell, g1, g2, g3, -⟩ := hP.1 v _ (xw_get hv)
  have hq : q' = r := Option.some.inj (g0.symm.trans hc)
  subst hq
  have hcls := (C.kn.1 ci _ hc).2
  obtain ⟨kA, comp, k1, k2, k3, -⟩ := (C.kn.2 4 _ (xT_at C.tys hr)).2
  have hcomp : comp = (eD E).1 ci := Option.some.inj (k3.symm.trans hcls.1)
  subst hcomp
  obtain ⟨kC, hkC, -⟩ := hcls.2
  have hc0 : H[eS E + o]? = some (vp_cell _ (nn, .inr (.inr (.inr (.inr (fun j => (f j).map (fun k => eS E + k))))))) := hP.1 o _ (xw_get ho)
  refine W.aast C.1 C.2.1 hc0 (fun q h => by cases h) (fun h => by cases h) k1 k2 rfl hkC ⟨h0, by show _ < (arrV _ _ _).slots.size; rw [arrV_size]; exact hlt⟩ g1 (fun q h => by rw [g3] at h; cases h) (by rw [g2]; exact hkC) (by rw [g2]; exact va_assign hcls) rfl rfl hd fun H1 e1 z oq => ?_
  refine kk p e R s m args below meth c H1 _ ls C (xP_set hP ho ?_ z oq) hL (hS.put z oq (Nat.le_add_right _ _)) hk hn
  show H1[eS E + o]? = some (vp_cell _ _)
  rw [e1, vp_cell_q, vp_cell_q, arrV_store]
  congr 2
  funext q
  by_cases hq : q = i.toNatClampNeg
  · subst hq
    simp [updV, va_up, va_rf]
  · simp [updV, va_up, hq]
theorem x_new {index ci : Nat} {fs : List Value} (hd : decode M.2.1 pc = .ok (.new index, 3)) (hx : xNew M.1.cls index ci fs) (hk1 : k + 1 ≤ K) (hn1 : n + fs.length ≤ N) (kk : X E M d K N Z (pc + 3) L (.ref h.length :: st) (h ++ [.inr (ci, fs)]) (k + 1) (n + fs.length)) : X E M d K N Z pc L st h k n := by
  intro p e R s m args below meth c H locs ls C hP hL hS hk hn
  obtain ⟨Cn, T, ty0, hc, hw, hty, hcl, hinst, hini, hdef, hmap⟩ := hx
  have hKn := C.kn.1 ci _ hc
  refine W.newcK C.1 C.2.1 C.own (C.words _ hcl) (C.words _ hinst) (C.words _ hini) rfl hd (Nat.le_trans hk1 C.room.2.2.1) (Nat.le_trans hn1 C.room.2.2.2) hKn.2.1 hP.2 fun H1 kC hkC e1 z1 o1 => ?_
  refine kk p e R s m args below meth c H1 _ ls C (xP_app hP ?_ (by rw [z1, hP.2]) (fun q hq => o1 q (by rw [← hP.2]; exact hq))) hL (xS_app hS (by rw [z1, hP.2]) (fun q hq => o1 q (by rw [← hP.2]; exact hq))) hk1 hn1
  refine ⟨_, hc, (u_born ty0 C.words hw hKn hkC e1 hty).to fun j hj => ?_⟩
  show _ = vp_V (fs.map (xv E)) j
  rw [hmap]
  exact hdef j hj
theorem x_newa {atype : ArrayType} {ty : FieldType} {t : Nat} {i : Int32} {nn : Nat} {a0 : (Nat → Int32) ⊕ (Nat → Int64) ⊕ (Nat → UInt32) ⊕ (Nat → UInt64) ⊕ (Nat → Option Nat)} (hd : decode M.2.1 pc = .ok (.newarray atype, 2)) (hw : Cond.arrayClass (newarray.typeOf atype) ∈ GW) (hty : newarray.typeOf atype = ty) (ht : xTy[t]? = some ty) (hpr : ∀ (s : State) (cA : ClassId), va_RA s cA ty → s.vm.findClass ("[" ++ ty.toString) = some cA) (ha : ∀ cA : ClassId, vp_cell cA (nn, a0) = arrV cA nn (fun _ => defaultValue ty)) (hxe : ∀ E : xEnv, xe E (.inl (t, nn, a0)) = .inl (((eT E).getD t (0, .int)).1, nn, a0)) (h0 : ¬ i < 0) (hi : i.toNatClampNeg = nn) (hb : nn * componentBytes ty ≤ 536870912) (hk1 : k + 1 ≤ K) (hn1 : n + nn ≤ N)
    (kk : X E M d K N Z (pc + 2) L (.ref h.length :: st) (h ++ [.inl (t, nn, a0)]) (k + 1) (n + nn)) : X E M d K N Z pc L (.int i :: st) h k n := by
  intro p e R s m args below meth c H locs ls C hP hL hS hk hn
  subst hty
  refine va_newaK C.1 C.2.1 (C.words _ hw) rfl hd rfl h0 hi hb (Nat.le_trans hk1 C.room.2.2.1) (Nat.le_trans hn1 C.room.2.2.2) hP.2 fun H1 cA e1 z1 o1 hAr hNm => ?_
  refine kk p e R s m args below meth c H1 _ ls C (xP_app hP ?_ (by rw [z1, hP.2]) (fun q hq => o1 q (by rw [← hP.2]; exact hq))) hL (xS_app hS (by rw [z1, hP.2]) (fun q hq => o1 q (by rw [← hP.2]; exact hq))) hk1 hn1
  have hcA : ((eT E).getD t (0, .int)).1 = cA := Option.some.inj ((hpr s _ (C.kn.2 t _ (xT_at C.tys ht)).2).symm.trans hNm)
  rw [hxe, hcA]
  show H1[eS E + h.length]? = some (vp_cell _ _)
  rw [ha]
  exact e1
theorem x_anew {index : Nat} {Cn : String} {i : Int32} {nn : Nat} (hd : decode M.2.1 pc = .ok (.anewarray index, 3)) (hcl : Cond.classLink M.1.cls index Cn ∈ GW) (hao : ∀ s : State, xF E s s.heap → va_AO Cn s) (ht : xTy[4]? = some (.object Cn)) (h0 : ¬ i < 0) (hi : i.toNatClampNeg = nn) (hb : nn * 4 ≤ 536870912) (hk1 : k + 1 ≤ K) (hn1 : n + nn ≤ N)
    (kk : X E M d K N Z (pc + 3) L (.ref h.length :: st) (h ++ [.inl (4, nn, .inr (.inr (.inr (.inr (fun _ => none)))))]) (k + 1) (n + nn)) : X E M d K N Z pc L (.int i :: st) h k n := by
  intro p e R s m args below meth c H locs ls C hP hL hS hk hn
  subst hi
  refine W.anew C.1 C.2.1 C.own (C.words _ hcl) (va_AO.use (hao s C.fo)) rfl hd rfl h0 hb (Nat.le_trans hk1 C.room.2.2.1) (Nat.le_trans hn1 C.room.2.2.2) fun cA kA comp f1 f2 f3 f4 => ?_
  generalize hH1 : H.push ({ cls := cA, slots := Array.replicate i.toNatClampNeg .null, vm := .none } : Cell) = H1
  have z1 : H1.size = H.size + 1 := by rw [← hH1, Array.size_push]
  have e1 : H1[H.size]? = some (arrV cA i.toNatClampNeg (fun _ => .null)) := by rw [← hH1, Array.getElem?_push_size, ← arrV_new]
  have o1 : ∀ q : Nat, q < H.size → H1[q]? = H[q]? := fun q hq => by rw [← hH1, Array.getElem?_push, if_neg (Nat.ne_of_lt hq)]
  have kk := kk p e R s m args below meth c H1 locs ls C (xP_app hP ?_ z1 o1) hL (xS_app hS z1 o1) hk1 hn1
  · rw [hP.2]
    exact kk
  · obtain ⟨_, _, _, _, _, hf⟩ := (C.kn.2 4 _ (xT_at C.tys ht)).2
    have hcA : ((eT E).getD 4 (0, .int)).1 = cA := Option.some.inj (hf.symm.trans f1)
    show H1[eS E + h.length]? = some (vp_cell ((eT E).getD 4 (0, .int)).1 _)
    rw [hcA, ← hP.2, e1, vp_cell_q]
    rfl
end XH
