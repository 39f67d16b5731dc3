/-! calls whose answer is one value and one heap -/
abbrev rV (v : Value) (h2 : xH) : Option Value → xH → Prop := fun r h' => r = some v ∧ h' = h2
abbrev rN (h2 : xH) : Option Value → xH → Prop := fun r h' => r = none ∧ h' = h2
section XC1
variable {E : xEnv} {M M' : xM} {d K N dd mc ms : Nat} {Z : xEnd} {pc : Nat} {L : List (Option Value)} {st st' : List Value} {h h2 : xH} {k n : Nat} {av : List Value} {v : Value}
theorem x_callS1 {index : Nat} (hd : decode M.2.1 pc = .ok (.invokestatic index, 3)) (hlk : xLk M.1.cls index M'.1) (hC : xCt E dd mc ms M' av h (rV v h2)) (hm : xMt M' av.length) (hst : Cond.static M'.1 ∈ GW) (hdd : dd + 1 ≤ d) (hs : av.reverse ++ st' = st) (hw : (st'.map fun v => v.category).sum ≤ 8) (hk1 : k + mc ≤ K) (hn1 : n + ms ≤ N)
    (kk : X E M d K N Z (pc + 3) L (v :: st') h2 (k + mc) (n + ms)) : X E M d K N Z pc L st h k n :=
  x_callS hd hlk hm hst hC hdd hs hw hk1 hn1 (fun _ _ hp => by obtain ⟨rfl, rfl⟩ := hp; exact kk)
theorem x_callV1 {index o ci : Nat} {fs : List Value} {T : u_T} {Nf : Nat} (hd : decode M.2.1 pc = .ok (.invokevirtual index, 3)) (hlk : xLk M.1.cls index M'.1) (hC : xCt E dd mc ms M' (.ref o :: av) h (rV v h2)) (hm : xMt M' av.length) (hin : Cond.instanceMethod M'.1 ∈ GW) (hsel : Cond.selects M'.1.cls M'.1 M'.1 ∈ GW) (ho : h[o]? = some (.inr (ci, fs))) (hci : vwCl[ci]? = some (M'.1.cls, T, Nf)) (hdd : dd + 1 ≤ d) (hs : av.reverse ++ .ref o :: st' = st) (hw : (st'.map fun v => v.category).sum ≤ 8) (hk1 : k + mc ≤ K) (hn1 : n + ms ≤ N)
    (kk : X E M d K N Z (pc + 3) L (v :: st') h2 (k + mc) (n + ms)) : X E M d K N Z pc L st h k n :=
  x_callV hd hlk hm hin hsel ho hci hC hdd hs hw hk1 hn1 (fun _ _ hp => by obtain ⟨rfl, rfl⟩ := hp; exact kk)
theorem x_callV0 {index o ci : Nat} {fs : List Value} {T : u_T} {Nf : Nat} (hd : decode M.2.1 pc = .ok (.invokevirtual index, 3)) (hlk : xLk M.1.cls index M'.1) (hC : xCt E dd mc ms M' (.ref o :: av) h (rN h2)) (hm : xMt M' av.length) (hin : Cond.instanceMethod M'.1 ∈ GW) (hsel : Cond.selects M'.1.cls M'.1 M'.1 ∈ GW) (ho : h[o]? = some (.inr (ci, fs))) (hci : vwCl[ci]? = some (M'.1.cls, T, Nf)) (hdd : dd + 1 ≤ d) (hs : av.reverse ++ .ref o :: st' = st) (hw : (st'.map fun v => v.category).sum ≤ 8) (hk1 : k + mc ≤ K) (hn1 : n + ms ≤ N)
    (kk : X E M d K N Z (pc + 3) L st' h2 (k + mc) (n + ms)) : X E M d K N Z pc L st h k n :=
  x_callV hd hlk hm hin hsel ho hci hC hdd hs hw hk1 hn1 (fun _ _ hp => by obtain ⟨rfl, rfl⟩ := hp; exact kk)
theorem x_callI0 {index o : Nat} (hd : decode M.2.1 pc = .ok (.invokespecial index, 3)) (hlk : xLk M.1.cls index M'.1) (hC : xCt E dd mc ms M' (.ref o :: av) h (rN h2)) (hm : xMt M' av.length) (hret : M'.2.2.2 = none) (hnm : M'.1.name = "<init>") (hin : Cond.instanceMethod M'.1 ∈ GW) (hdd : dd + 1 ≤ d) (hs : av.reverse ++ .ref o :: st' = st) (hw : (st'.map fun v => v.category).sum ≤ 8) (hk1 : k + mc ≤ K) (hn1 : n + ms ≤ N)
    (kk : X E M d K N Z (pc + 3) L st' h2 (k + mc) (n + ms)) : X E M d K N Z pc L st h k n :=
  x_callI hd hlk hm hret hnm hin hC hdd hs hw hk1 hn1 (fun _ _ hp => by obtain ⟨rfl, rfl⟩ := hp; exact kk)
theorem x_callF1 {index o : Nat} (hd : decode M.2.1 pc = .ok (.invokevirtual index, 3)) (hlk : Cond.methodLink M.1.cls index M'.1 ∈ GW) (hC : xCt E dd mc ms M' (.retAddr o :: av) h (rV v h2)) (hm : xMt M' av.length) (hin : Cond.instanceMethod M'.1 ∈ GW) (hsel : Cond.selects M'.1.cls M'.1 M'.1 ∈ GW) (hq : (o, M'.1.cls) ∈ xOs) (hdd : dd + 1 ≤ d) (hs : av.reverse ++ .retAddr o :: st' = st) (hw : (st'.map fun v => v.category).sum ≤ 8) (hk1 : k + mc ≤ K) (hn1 : n + ms ≤ N)
    (kk : X E M d K N Z (pc + 3) L (v :: st') h2 (k + mc) (n + ms)) : X E M d K N Z pc L st h k n :=
  x_callF hd hlk hm hin hsel hq hC hdd hs hw hk1 hn1 (fun _ _ hp => by obtain ⟨rfl, rfl⟩ := hp; exact kk)
end XC1
/-- a contract is as good with a weaker end -/
theorem xCt_rV {E : xEnv} {d mc ms : Nat} {M : xM} {args : List Value} {h h2 h3 : xH} {v w : Value} (hC : xCt E d mc ms M args h (rV v h2)) (e1 : v = w) (e2 : h2 = h3) : xCt E d mc ms M args h (rV w h3) := by rw [← e1, ← e2]; exact hC
section JT
variable {E : xEnv} {M : xM} {d K N : Nat} {Z : xEnd} {pc : Nat} {L : List (Option Value)} {st : List Value} {h : xH} {k n : Nat}
theorem j_tl {o nn : Nat} {f : Nat → Value} {z x : Int} (hd : decode M.2.1 pc = .ok (.laload, 1)) (hq : (o, FieldType.long, nn, f) ∈ xTb E) (h1 : 0 ≤ z) (h2 : z < nn) (hn : nn < 2147483648) (hv : f z.toNat = vL x) (kk : X E M d K N Z (pc + 1) L (vL x :: st) h k n) : X E M d K N Z pc L (vI z :: .retAddr o :: st) h k n := x_tl hd hq (iI_in h1 h2 hn) (by rw [iI_clamp h1 (by omega)]; exact hv) kk
theorem j_ti {o nn : Nat} {f : Nat → Value} {z : Int} {x : Int32} (hd : decode M.2.1 pc = .ok (.iaload, 1)) (hq : (o, FieldType.int, nn, f) ∈ xTb E) (h1 : 0 ≤ z) (h2 : z < nn) (hn : nn < 2147483648) (hv : f z.toNat = .int x) (kk : X E M d K N Z (pc + 1) L (.int x :: st) h k n) : X E M d K N Z pc L (vI z :: .retAddr o :: st) h k n := x_ti hd hq (iI_in h1 h2 hn) (by rw [iI_clamp h1 (by omega)]; exact hv) kk
theorem j_tb {o nn : Nat} {f : Nat → Value} {z x : Int} (hd : decode M.2.1 pc = .ok (.baload, 1)) (hq : (o, FieldType.byte, nn, f) ∈ xTb E) (h1 : 0 ≤ z) (h2 : z < nn) (hn : nn < 2147483648) (hv : f z.toNat = vI x) (kk : X E M d K N Z (pc + 1) L (vI x :: st) h k n) : X E M d K N Z pc L (vI z :: .retAddr o :: st) h k n := x_tb hd hq (iI_in h1 h2 hn) (by rw [iI_clamp h1 (by omega)]; exact hv) kk
theorem j_table_in {dflt lo hi off : Int} {offs : Array Int} {len : Nat} {z : Int} (tgt : Nat) (hd : decode M.2.1 pc = .ok (.tableswitch dflt lo hi offs, len)) (hz : iR z) (h1 : lo ≤ z) (h2 : z ≤ hi) (ho : offs[(z - lo).toNat]? = some off) (ht : (pc : Int) + off = (tgt : Int)) (kk : X E M d K N Z tgt L st h k n) : X E M d K N Z pc L (vI z :: st) h k n := by
  have e : (iI z).toInt = z := iI_toInt hz.1 hz.2
  exact x_tableIn tgt hd (by rw [e]; omega) (by rw [e]; omega) (by rw [e]; exact ho) ht kk
theorem j_table_out {dflt lo hi : Int} {offs : Array Int} {len : Nat} {z : Int} (tgt : Nat) (hd : decode M.2.1 pc = .ok (.tableswitch dflt lo hi offs, len)) (hz : iR z) (hq : z < lo ∨ hi < z) (ht : (pc : Int) + dflt = (tgt : Int)) (kk : X E M d K N Z tgt L st h k n) : X E M d K N Z pc L (vI z :: st) h k n := by
  have e : (iI z).toInt = z := iI_toInt hz.1 hz.2
  exact x_tableOut tgt hd (by rw [e]; exact hq) ht kk
end JT
theorem rV_i {a b : Int} {h h2 : xH} (e : a = b) (e2 : h = h2) : rV (vI b) h2 (some (vI a)) h := by subst e; subst e2; exact ⟨rfl, rfl⟩
theorem rV_l {a b : Int} {h h2 : xH} (e : a = b) (e2 : h = h2) : rV (vL b) h2 (some (vL a)) h := by subst e; subst e2; exact ⟨rfl, rfl⟩
