/-! what a draft says -/
abbrev ins (c : Int) : Prop := c = 44 ∨ c = 66 ∨ c = 48 ∨ c = 47
abbrev pmn (c : Int) : Prop := c = 43 ∨ c = 45
abbrev flo (c : Int) : Prop := c = 36 ∨ c = 43 ∨ c = 45
abbrev fil (c : Int) : Prop := c = 90 ∨ c = 42 ∨ c = 36 ∨ c = 43 ∨ c = 45
abbrev rpt (c : Int) : Prop := c = 57 ∨ c = 90 ∨ c = 42 ∨ c = 36 ∨ c = 43 ∨ c = 45 ∨ c = 44 ∨ c = 66 ∨ c = 48 ∨ c = 47
abbrev dig (c : Int) : Prop := 48 ≤ c ∧ c ≤ 57
/-- the length of the repetition at a; 0 if there is none -/
def rl (d : Nat → Int) (n a : Nat) : Nat :=
  if (a + 3 < n ∧ rpt (d a) ∧ d (a + 1) = 40) ∧ dig (d (a + 2)) then
    (if d (a + 3) = 41 then 4 else if a + 4 < n ∧ dig (d (a + 3)) ∧ d (a + 4) = 41 then 5 else 0)
  else 0
def rt (d : Nat → Int) (a t : Nat) : Int := if t = 4 then d (a + 2) - 48 else 10 * (d (a + 2) - 48) + d (a + 3) - 48
def tm (d : Nat → Int) (n a : Nat) : Int := if rl d n a = 0 then 1 else rt d a (rl d n a)
def apS (G : Nat → Int) (ct : Nat) (c : Int) (k : Nat) : Nat → Int := fun j => if ct ≤ j ∧ j < ct + k then c else G j
abbrev wbad (d : Nat → Int) (n a ct : Nat) : Prop := d a = 40 ∨ d a = 41 ∨ tm d n a = 0 ∨ 18 < (ct : Int) + tm d n a
/-- the draft written out -/
def wO (d : Nat → Int) (n : Nat) : Nat → Nat → (Nat → Int) → Nat → Option ((Nat → Int) × Nat)
  | 0, _, _, _ => none
  | f + 1, a, G, ct => if a < n then (if wbad d n a ct then none else wO d n f (a + max 1 (rl d n a)) (apS G ct (d a) (tm d n a).toNat) (ct + (tm d n a).toNat)) else some (G, ct)
theorem wO_end {d : Nat → Int} {n f a ct : Nat} {G : Nat → Int} (h : ¬ a < n) : wO d n (f + 1) a G ct = some (G, ct) := by
  unfold wO; rw [if_neg h]
theorem wO_bad {d : Nat → Int} {n f a ct : Nat} {G : Nat → Int} (h : a < n) (hb : wbad d n a ct) : wO d n (f + 1) a G ct = none := by
  unfold wO; rw [if_pos h, if_pos hb]
theorem wO_go {d : Nat → Int} {n f a ct : Nat} {G : Nat → Int} (h : a < n) (hb : ¬ wbad d n a ct) : wO d n (f + 1) a G ct = wO d n f (a + max 1 (rl d n a)) (apS G ct (d a) (tm d n a).toNat) (ct + (tm d n a).toNat) := by
  conv => lhs; unfold wO
  rw [if_pos h, if_neg hb]
theorem rl_c (d : Nat → Int) (n a : Nat) : rl d n a = 0 ∨ rl d n a = 4 ∨ rl d n a = 5 := by unfold rl; (repeat' split) <;> omega
/-- an open repetition that is none ends it -/
theorem wO_mal {d : Nat → Int} {n f a ct : Nat} {G : Nat → Int} (h : a + 1 < n) (h1 : d (a + 1) = 40) (h0 : rl d n a = 0) : wO d n (f + 2) a G ct = none := by
  by_cases hb : wbad d n a ct
  · exact wO_bad (by omega) hb
  · rw [wO_go (by omega) hb, h0]
    exact wO_bad (show a + max 1 0 < n by omega) (Or.inl h1)
theorem rt_r {d : Nat → Int} {a t : Nat} (h2 : dig (d (a + 2))) (h3 : t = 4 ∨ dig (d (a + 3))) : 0 ≤ rt d a t ∧ rt d a t ≤ 99 := by
  unfold rt
  split <;> omega
theorem rl_4 {d : Nat → Int} {n a : Nat} (h : ¬ rl d n a = 0) : (a + 3 < n ∧ rpt (d a) ∧ d (a + 1) = 40) ∧ dig (d (a + 2)) ∧ (rl d n a = 4 ∨ dig (d (a + 3)) ∧ a + 4 < n) := by
  by_cases hc : (a + 3 < n ∧ rpt (d a) ∧ d (a + 1) = 40) ∧ dig (d (a + 2))
  · refine ⟨hc.1, hc.2, ?_⟩
    unfold rl at h ⊢
    rw [if_pos hc] at h ⊢
    by_cases h3 : d (a + 3) = 41
    · rw [if_pos h3]; exact Or.inl rfl
    · rw [if_neg h3] at h ⊢
      by_cases h4 : a + 4 < n ∧ dig (d (a + 3)) ∧ d (a + 4) = 41
      · exact Or.inr ⟨h4.2.1, h4.1⟩
      · rw [if_neg h4] at h; exact absurd rfl h
  · exfalso; unfold rl at h; rw [if_neg hc] at h; exact h rfl
theorem tm_r (d : Nat → Int) (n a : Nat) : 0 ≤ tm d n a ∧ tm d n a ≤ 99 := by
  unfold tm
  by_cases h : rl d n a = 0
  · rw [if_pos h]; omega
  · rw [if_neg h]
    obtain ⟨-, h2, h3⟩ := rl_4 h
    exact rt_r h2 (h3.imp id And.left)
/-- digits, decimals, points -/
def nL (G : Nat → Int) : Nat → Nat → Nat → Nat → Nat → Option (Nat × Nat × Nat)
  | 0, _, dg, sc, pt => some (dg, sc, pt)
  | r + 1, i, dg, sc, pt => if G i = 57 then nL G r (i + 1) (dg + 1) (sc + if pt = 0 then 0 else 1) pt else if G i = 86 then nL G r (i + 1) dg sc (pt + 1) else none
theorem nL_9 {G : Nat → Int} {r i dg sc pt : Nat} (h : G i = 57) : nL G (r + 1) i dg sc pt = nL G r (i + 1) (dg + 1) (sc + if pt = 0 then 0 else 1) pt := by
  conv => lhs; unfold nL
  rw [if_pos h]
theorem nL_V {G : Nat → Int} {r i dg sc pt : Nat} (h : G i = 86) : nL G (r + 1) i dg sc pt = nL G r (i + 1) dg sc (pt + 1) := by
  conv => lhs; unfold nL
  rw [if_neg (by omega), if_pos h]
theorem nL_n {G : Nat → Int} {r i dg sc pt : Nat} (h : ¬ G i = 57) (h2 : ¬ G i = 86) : nL G (r + 1) i dg sc pt = none := by
  conv => lhs; unfold nL
  rw [if_neg h, if_neg h2]
theorem nL_pt {G : Nat → Int} : ∀ {r i dg sc pt : Nat} {a b c : Nat}, nL G r i dg sc pt = some (a, b, c) → pt ≤ c
  | 0, i, dg, sc, pt, a, b, c, h => by cases h; exact Nat.le_refl _
  | r + 1, i, dg, sc, pt, a, b, c, h => by
    by_cases h9 : G i = 57
    · rw [nL_9 h9] at h; exact nL_pt h
    · by_cases hV : G i = 86
      · rw [nL_V hV] at h; have := nL_pt h; omega
      · rw [nL_n h9 hV] at h; cases h
abbrev lim (dg sc : Nat) : Prop := 1 ≤ dg ∧ dg ≤ 9 ∧ sc ≤ 4
def nRes (G : Nat → Int) (ct : Nat) : Option (Nat × Nat) := match nL G (ct - if G 0 = 83 then 1 else 0) (if G 0 = 83 then 1 else 0) 0 0 0 with
  | some (dg, sc, pt) => if pt ≤ 1 ∧ lim dg sc then some (dg, sc) else none
  | none => none
theorem nRes_s {G : Nat → Int} {ct dg sc pt : Nat} (h : nL G (ct - if G 0 = 83 then 1 else 0) (if G 0 = 83 then 1 else 0) 0 0 0 = some (dg, sc, pt)) : nRes G ct = if pt ≤ 1 ∧ lim dg sc then some (dg, sc) else none := by
  unfold nRes; rw [h]
theorem nRes_n {G : Nat → Int} {ct : Nat} (h : nL G (ct - if G 0 = 83 then 1 else 0) (if G 0 = 83 then 1 else 0) 0 0 0 = none) : nRes G ct = none := by
  unfold nRes; rw [h]
/-- nines, points, decimals, filler, fillers -/
abbrev BS : Type := Nat × Nat × Nat × Int × Nat
def bL (G : Nat → Int) : Nat → Nat → BS → Option BS
  | 0, _, s => some s
  | r + 1, i, (nn, pt, sc, fi, fc) => if G i = 57 then bL G r (i + 1) (nn + 1, pt, sc + (if pt = 0 then 0 else 1), fi, fc)
    else if G i = 46 then bL G r (i + 1) (nn, pt + 1, sc, fi, fc)
    else if ins (G i) then bL G r (i + 1) (nn, pt, sc, fi, fc)
    else if fil (G i) ∧ nn = 0 ∧ pt = 0 ∧ (fc = 0 ∨ G i = fi) then bL G r (i + 1) (nn, pt, sc, G i, fc + 1) else none
section BL
variable {G : Nat → Int} {r i nn pt sc fc : Nat} {fi : Int}
theorem bL_9 (h : G i = 57) : bL G (r + 1) i (nn, pt, sc, fi, fc) = bL G r (i + 1) (nn + 1, pt, sc + (if pt = 0 then 0 else 1), fi, fc) := by
  conv => lhs; unfold bL
  rw [if_pos h]
theorem bL_p (h : G i = 46) : bL G (r + 1) i (nn, pt, sc, fi, fc) = bL G r (i + 1) (nn, pt + 1, sc, fi, fc) := by
  conv => lhs; unfold bL
  rw [if_neg (by omega), if_pos h]
theorem bL_i (h : ins (G i)) : bL G (r + 1) i (nn, pt, sc, fi, fc) = bL G r (i + 1) (nn, pt, sc, fi, fc) := by
  conv => lhs; unfold bL
  rw [if_neg (by omega), if_neg (by omega), if_pos h]
theorem bL_f (h : fil (G i)) (h2 : nn = 0 ∧ pt = 0 ∧ (fc = 0 ∨ G i = fi)) : bL G (r + 1) i (nn, pt, sc, fi, fc) = bL G r (i + 1) (nn, pt, sc, G i, fc + 1) := by
  conv => lhs; unfold bL
  rw [if_neg (by omega), if_neg (by omega), if_neg (by omega), if_pos ⟨h, h2⟩]
theorem bL_n (h9 : ¬ G i = 57) (hp : ¬ G i = 46) (hi : ¬ ins (G i)) (h : ¬ (fil (G i) ∧ nn = 0 ∧ pt = 0 ∧ (fc = 0 ∨ G i = fi))) : bL G (r + 1) i (nn, pt, sc, fi, fc) = none := by
  conv => lhs; unfold bL
  rw [if_neg h9, if_neg hp, if_neg hi, if_neg h]
end BL
theorem bL_pt {G : Nat → Int} : ∀ {r i : Nat} {nn pt sc fc : Nat} {fi : Int} {t : BS}, bL G r i (nn, pt, sc, fi, fc) = some t → pt ≤ t.2.1
  | 0, i, nn, pt, sc, fc, fi, t, h => by cases h; exact Nat.le_refl _
  | r + 1, i, nn, pt, sc, fc, fi, t, h => by
    by_cases h9 : G i = 57
    · rw [bL_9 h9] at h; exact bL_pt h
    · by_cases hp : G i = 46
      · rw [bL_p hp] at h; have := bL_pt h; omega
      · by_cases hi : ins (G i)
        · rw [bL_i hi] at h; exact bL_pt h
        · by_cases hf : fil (G i) ∧ nn = 0 ∧ pt = 0 ∧ (fc = 0 ∨ G i = fi)
          · rw [bL_f hf.1 hf.2] at h; exact bL_pt h
          · rw [bL_n h9 hp hi hf] at h; cases h
theorem nd_s (d : Nat → Bool) (r i : Nat) : nd d (r + 1) i = (if d i = true then 1 else 0) + nd d r (i + 1) := rfl
theorem nd_cg {d d' : Nat → Bool} : ∀ {r i : Nat}, (∀ j, i ≤ j → j < i + r → d j = d' j) → nd d r i = nd d' r i
  | 0, _, _ => rfl
  | r + 1, i, h => by
    rw [nd_s, nd_s, h i (by omega) (by omega), nd_cg (r := r) (i := i + 1) (fun j h1 h2 => h j (by omega) (by omega))]
/-- what a body that is one looks like -/
theorem bL_ok {G : Nat → Int} : ∀ {r i nn pt sc fc : Nat} {fi : Int} {nn' pt' sc' fc' : Nat} {fi' : Int}, bL G r i (nn, pt, sc, fi, fc) = some (nn', pt', sc', fi', fc') → (fi = 32 ∧ fc = 0 ∨ fil fi ∧ 0 < fc) → (fi' = 32 ∧ fc' = 0 ∨ fil fi' ∧ 0 < fc') ∧ (0 < fc → fi' = fi) ∧ nn' + fc' = nn + fc + nd (fun j => decide (G j = 57) || decide (G j = fi')) r i ∧ (∀ j, i ≤ j → j < i + r → G j = 57 ∨ G j = 46 ∨ G j = 44 ∨ G j = 66 ∨ G j = 48 ∨ G j = 47 ∨ (G j = fi' ∧ ¬ fi' = 32)) ∧ (0 < nn ∨ 0 < pt → fc' = fc)
  | 0, i, nn, pt, sc, fc, fi, nn', pt', sc', fc', fi', h, hf => by
    cases h
    exact ⟨hf, fun _ => rfl, rfl, fun j a b => by omega, fun _ => rfl⟩
  | r + 1, i, nn, pt, sc, fc, fi, nn', pt', sc', fc', fi', h, hf => by
    by_cases h9 : G i = 57
    · rw [bL_9 h9] at h
      obtain ⟨a, b, c, d, e⟩ := bL_ok h hf
      refine ⟨a, b, ?_, fun j h1 h2 => ?_, fun _ => e (Or.inl (by omega))⟩
      · rw [nd_s, if_pos (by simp [h9])]; omega
      · by_cases hj : j = i
        · subst hj; exact Or.inl h9
        · exact d j (by omega) (by omega)
    · by_cases hp : G i = 46
      · rw [bL_p hp] at h
        obtain ⟨a, b, c, d, e⟩ := bL_ok h hf
        refine ⟨a, b, ?_, fun j h1 h2 => ?_, fun _ => e (Or.inr (by omega))⟩
        · rw [nd_s, if_neg (by simp only [Bool.or_eq_true, decide_eq_true_eq]; omega)]; omega
        · by_cases hj : j = i
          · subst hj; omega
          · exact d j (by omega) (by omega)
      · by_cases hi : ins (G i)
        · rw [bL_i hi] at h
          obtain ⟨a, b, c, d, e⟩ := bL_ok h hf
          refine ⟨a, b, ?_, fun j h1 h2 => ?_, e⟩
          · rw [nd_s, if_neg (by simp only [Bool.or_eq_true, decide_eq_true_eq]; omega)]; omega
          · by_cases hj : j = i
            · subst hj; omega
            · exact d j (by omega) (by omega)
        · by_cases hq : fil (G i) ∧ nn = 0 ∧ pt = 0 ∧ (fc = 0 ∨ G i = fi)
          · rw [bL_f hq.1 hq.2] at h
            obtain ⟨a, b, c, d, e⟩ := bL_ok h (Or.inr ⟨hq.1, by omega⟩)
            have hb := b (by omega)
            refine ⟨a, fun h0 => ?_, ?_, fun j h1 h2 => ?_, fun hn => by omega⟩
            · omega
            · rw [nd_s, if_pos (by simp [hb])]; omega
            · by_cases hj : j = i
              · subst hj; omega
              · exact d j (by omega) (by omega)
          · rw [bL_n h9 hp hi hq] at h; cases h
theorem bL_first {G : Nat → Int} {r i nn' pt' sc' fc' : Nat} {fi' : Int} (h : bL G r i (0, 0, 0, 32, 0) = some (nn', pt', sc', fi', fc')) (h0 : ¬ ins (G i)) (hr : 0 < r) (hf : ¬ fi' = 32) : G i = fi' := by
  obtain ⟨r, rfl⟩ : ∃ r', r = r' + 1 := ⟨r - 1, by omega⟩
  have A := bL_ok h (Or.inl ⟨rfl, rfl⟩)
  by_cases h9 : G i = 57
  · rw [bL_9 h9] at h
    obtain ⟨a, b, c, d, e⟩ := bL_ok h (Or.inl ⟨rfl, rfl⟩)
    have := e (Or.inl (by omega)); omega
  · by_cases hp : G i = 46
    · rw [bL_p hp] at h
      obtain ⟨a, b, c, d, e⟩ := bL_ok h (Or.inl ⟨rfl, rfl⟩)
      have := e (Or.inr (by omega)); omega
    · by_cases hq : fil (G i) ∧ (0 : Nat) = 0 ∧ (0 : Nat) = 0 ∧ ((0 : Nat) = 0 ∨ G i = 32)
      · rw [bL_f hq.1 hq.2] at h
        obtain ⟨a, b, c, d, e⟩ := bL_ok h (Or.inr ⟨hq.1, by omega⟩)
        exact (b (by omega)).symm
      · rw [bL_n h9 hp h0 hq] at h; cases h
theorem bL_cg {G G' : Nat → Int} : ∀ {r i : Nat} {nn pt sc fc : Nat} {fi : Int}, (∀ j, i ≤ j → j < i + r → G j = G' j) → bL G r i (nn, pt, sc, fi, fc) = bL G' r i (nn, pt, sc, fi, fc)
  | 0, _, _, _, _, _, _, _ => rfl
  | r + 1, i, nn, pt, sc, fc, fi, h => by
    have e := h i (by omega) (by omega)
    have k : ∀ {nn pt sc fc : Nat} {fi : Int}, bL G r (i + 1) (nn, pt, sc, fi, fc) = bL G' r (i + 1) (nn, pt, sc, fi, fc) := bL_cg (fun j a b => h j (by omega) (by omega))
    unfold bL
    rw [e, k, k, k, k]
theorem nL_cg {G G' : Nat → Int} : ∀ {r i dg sc pt : Nat}, (∀ j, i ≤ j → j < i + r → G j = G' j) → nL G r i dg sc pt = nL G' r i dg sc pt
  | 0, _, _, _, _, _ => rfl
  | r + 1, i, dg, sc, pt, h => by
    have e := h i (by omega) (by omega)
    have k : ∀ {dg sc pt : Nat}, nL G r (i + 1) dg sc pt = nL G' r (i + 1) dg sc pt := nL_cg (fun j a b => h j (by omega) (by omega))
    unfold nL
    rw [e, k, k]
/-- a picture: its length, digits, decimals, signed, edited, head, end of the body, filler, floating -/
abbrev PS : Type := Nat × Nat × Nat × Int × Int × Nat × Nat × Int × Int
abbrev sgn (G : Nat → Int) (ct : Nat) : Nat := nd (fun j => decide (pmn (G j))) ct 0
abbrev dol (G : Nat → Int) (ct : Nat) : Nat := nd (fun j => decide (G j = 36)) ct 0
abbrev inH (G : Nat → Int) (ct : Nat) : Prop := sgn G ct = 1 ∧ pmn (G 0)
abbrev inT (G : Nat → Int) (ct : Nat) : Prop := sgn G ct = 1 ∧ ¬ pmn (G 0) ∧ pmn (G (ct - 1))
abbrev wrd (G : Nat → Int) (ct : Nat) : Prop := sgn G ct = 0 ∧ 2 ≤ ct ∧ ((G (ct - 2) = 67 ∧ G (ct - 1) = 82) ∨ (G (ct - 2) = 68 ∧ G (ct - 1) = 66))
def hd0 (G : Nat → Int) (ct : Nat) : Nat := if inH G ct then 1 else 0
def hdS (G : Nat → Int) (ct : Nat) : Nat := if hd0 G ct < ct ∧ G (hd0 G ct) = 36 ∧ dol G ct = 1 then hd0 G ct + 1 else hd0 G ct
def tlS (G : Nat → Int) (ct : Nat) : Nat := if inT G ct then 1 else if wrd G ct then 2 else 0
abbrev eFin (pt sc fc dg : Nat) (fi : Int) : Prop := pt ≤ 1 ∧ ¬ (pt = 1 ∧ sc = 0) ∧ (flo fi → 2 ≤ fc) ∧ lim dg sc
def eDg (nn fc : Nat) (fi : Int) : Nat := nn + fc - (if flo fi then 1 else 0)
def eSg (G : Nat → Int) (ct : Nat) (fi : Int) : Int := if inH G ct ∨ inT G ct ∨ wrd G ct ∨ pmn fi then 1 else 0
def eEnd (G : Nat → Int) (ct : Nat) : Option BS → Option PS
  | some (nn, pt, sc, fi, fc) => if eFin pt sc fc (eDg nn fc fi) fi then some (ct, eDg nn fc fi, sc, eSg G ct fi, 1, hdS G ct, ct - tlS G ct, fi, if flo fi then 1 else 0) else none
  | none => none
abbrev bBeg (G : Nat → Int) (ct : Nat) : Prop := hdS G ct < ct - tlS G ct ∧ ¬ ins (G (hdS G ct))
def eRes (G : Nat → Int) (ct : Nat) : Option PS := if bBeg G ct then eEnd G ct (bL G (ct - tlS G ct - hdS G ct) (hdS G ct) (0, 0, 0, 32, 0)) else none
def pRes (G : Nat → Int) (ct : Nat) : Option PS := match nRes G ct with
  | some (dg, sc) => some (ct, dg, sc, if G 0 = 83 then 1 else 0, 0, 0, 0, 32, 0)
  | none => eRes G ct
theorem pRes_cg {G G' : Nat → Int} {ct : Nat} (h0 : 0 < ct) (h : ∀ j, j < ct → G j = G' j) : pRes G ct = pRes G' ct := by
  have e0 := h 0 h0
  have es : sgn G ct = sgn G' ct := nd_cg (fun j _ b => by rw [h j (by omega)])
  have ed : dol G ct = dol G' ct := nd_cg (fun j _ b => by rw [h j (by omega)])
  have e1 := h (ct - 1) (by omega)
  have e2 := h (ct - 2) (by omega)
  have eh0 : hd0 G ct = hd0 G' ct := by unfold hd0 inH; rw [es, e0]
  have eh : hdS G ct = hdS G' ct := by
    unfold hdS; rw [eh0, ed]
    by_cases x : hd0 G' ct < ct
    · rw [h _ x]
    · rw [if_neg (fun y => x y.1), if_neg (fun y => x y.1)]
  have et : tlS G ct = tlS G' ct := by unfold tlS inT wrd; rw [es, e0, e1, e2]
  have eN : nRes G ct = nRes G' ct := by
    unfold nRes
    rw [e0, nL_cg (G := G) (G' := G') (fun j a b => h j (by split at b <;> omega))]
  have eE : eRes G ct = eRes G' ct := by
    unfold eRes bBeg
    rw [eh, et]
    by_cases x : hdS G' ct < ct - tlS G' ct
    · rw [h _ (by omega), bL_cg (G := G) (G' := G') (fun j a b => h j (by omega))]
      congr 1
      cases bL G' (ct - tlS G' ct - hdS G' ct) (hdS G' ct) (0, 0, 0, 32, 0) with
      | none => rfl
      | some t =>
        obtain ⟨nn, pt, sc, fi, fc⟩ := t
        show (if _ then _ else _) = (if _ then _ else _)
        rw [eh, et, show eSg G ct fi = eSg G' ct fi by unfold eSg inH inT wrd; rw [es, e0, e1, e2]]
    · rw [if_neg (fun y => x y.1), if_neg (fun y => x y.1)]
  unfold pRes
  rw [eN, eE, e0]
theorem eEnd_s (G : Nat → Int) (ct nn pt sc fc : Nat) (fi : Int) : eEnd G ct (some (nn, pt, sc, fi, fc)) = if eFin pt sc fc (eDg nn fc fi) fi then some (ct, eDg nn fc fi, sc, eSg G ct fi, 1, hdS G ct, ct - tlS G ct, fi, if flo fi then 1 else 0) else none := rfl
theorem eRes_ok {G : Nat → Int} {ct : Nat} {p : PS} (h : eRes G ct = some p) : ∃ (nn pt sc fc : Nat) (fi : Int), bBeg G ct ∧ bL G (ct - tlS G ct - hdS G ct) (hdS G ct) (0, 0, 0, 32, 0) = some (nn, pt, sc, fi, fc) ∧ eFin pt sc fc (eDg nn fc fi) fi ∧ p = (ct, eDg nn fc fi, sc, eSg G ct fi, 1, hdS G ct, ct - tlS G ct, fi, if flo fi then 1 else 0) := by
  unfold eRes at h
  by_cases hb : bBeg G ct
  · rw [if_pos hb] at h
    cases hl : bL G (ct - tlS G ct - hdS G ct) (hdS G ct) (0, 0, 0, 32, 0) with
    | none => rw [hl] at h; cases h
    | some t =>
      obtain ⟨nn, pt, sc, fi, fc⟩ := t
      rw [hl, eEnd_s] at h
      by_cases hf : eFin pt sc fc (eDg nn fc fi) fi
      · rw [if_pos hf] at h
        cases h
        exact ⟨nn, pt, sc, fc, fi, hb, rfl, hf, rfl⟩
      · rw [if_neg hf] at h; cases h
  · rw [if_neg hb] at h; cases h
def mkD (us at' : Nat) (G : Nat → Int) (p : PS) : FD := (if p.2.2.2.2.1 = 1 then 4 else us, at', p.2.1, p.2.2.1, p.2.2.2.1, G, p.1, p.2.2.2.2.2.1, p.2.2.2.2.2.2.1, p.2.2.2.2.2.2.2.1, p.2.2.2.2.2.2.2.2)
theorem nd_dp {G : Nat → Int} {r hd : Nat} {fi : Int} (h1 : flo fi → G hd = fi) (hr : 0 < r) : nd (dp G fi (if flo fi then 1 else 0) hd) r hd = nd (fun j => decide (G j = 57) || decide (G j = fi)) r hd - (if flo fi then 1 else 0) := by
  by_cases hf : flo fi
  · have e := h1 hf
    obtain ⟨r, rfl⟩ : ∃ r', r = r' + 1 := ⟨r - 1, by omega⟩
    rw [if_pos hf, if_pos hf, nd_s, nd_s, if_neg (by unfold dp; rw [e]; simp; omega), if_pos (by simp [e]), nd_cg (d := dp G fi 1 hd) (d' := fun j => decide (G j = 57) || decide (G j = fi))]
    · omega
    · intro j a b
      unfold dp
      simp [show ¬ j = hd by omega]
  · rw [if_neg hf, if_neg hf, nd_cg (d := dp G fi 0 hd) (d' := fun j => decide (G j = 57) || decide (G j = fi))]
    · omega
    · intro j a b
      unfold dp
      simp
theorem hd0_le (G : Nat → Int) (ct : Nat) : hd0 G ct ≤ 1 := by unfold hd0; split <;> omega
theorem tl_le (G : Nat → Int) (ct : Nat) : tlS G ct ≤ 2 := by unfold tlS; (repeat' split) <;> omega
theorem hd_sy {G : Nat → Int} {ct i : Nat} (h : i < hdS G ct) : G i = 36 ∨ G i = 43 ∨ G i = 45 := by
  have h0 : i < hd0 G ct → G i = 36 ∨ G i = 43 ∨ G i = 45 := by
    intro x
    unfold hd0 at x
    by_cases a : inH G ct
    · rw [if_pos a] at x
      have : i = 0 := by omega
      subst this
      exact Or.inr a.2
    · rw [if_neg a] at x; omega
  unfold hdS at h
  by_cases a : hd0 G ct < ct ∧ G (hd0 G ct) = 36 ∧ dol G ct = 1
  · rw [if_pos a] at h
    by_cases b : i = hd0 G ct
    · rw [b]; exact Or.inl a.2.1
    · exact h0 (by omega)
  · rw [if_neg a] at h; exact h0 h
theorem tl_1 {G : Nat → Int} {ct : Nat} (h : tlS G ct = 1) : pmn (G (ct - 1)) := by
  unfold tlS at h
  by_cases a : inT G ct
  · exact a.2.2
  · rw [if_neg a] at h; split at h <;> omega
theorem tl_2 {G : Nat → Int} {ct : Nat} (h : tlS G ct = 2) : wrd G ct := by
  unfold tlS at h
  by_cases a : inT G ct
  · rw [if_pos a] at h; omega
  · rw [if_neg a] at h
    by_cases b : wrd G ct
    · exact b
    · rw [if_neg b] at h; omega
theorem pRes_ok {G : Nat → Int} {ct us at' : Nat} {p : PS} (h : pRes G ct = some p) (hG : ∀ j, j < 18 → 0 ≤ G j ∧ G j ≤ 126) (hc : ct ≤ 18) (hu : us ≤ 3) (ha : at' + fW (mkD us at' G p) ≤ 64) : fOk (mkD us at' G p) ∧ gOk (mkD us at' G p) ∧ kOk (mkD us at' G p) := by
  unfold pRes at h
  cases hn : nRes G ct with
  | some q =>
    obtain ⟨dg, sc⟩ := q
    rw [hn] at h
    cases h
    have hq : lim dg sc := by
      unfold nRes at hn
      split at hn
      · split at hn
        · rename_i x
          cases hn; exact x.2
        · cases hn
      · cases hn
    refine ⟨⟨?_, ⟨hq.1, hq.2.1⟩, hq.2.2, ?_, ha, fun x => ?_⟩, fun x => ?_, fun x => ?_⟩
    · show (if (0 : Int) = 1 then 4 else us) ≤ 4; simp; omega
    · show (if G 0 = 83 then (1 : Int) else 0) = 0 ∨ (if G 0 = 83 then (1 : Int) else 0) = 1
      split <;> simp
    all_goals
      have x : (if (0 : Int) = 1 then 4 else us) = 4 := x
      simp at x; omega
  | none =>
    rw [hn] at h
    obtain ⟨nn, pt, sc, fc, fi, hb, hl, hf, rfl⟩ := eRes_ok h
    obtain ⟨b1, b2, b3, b4, b5⟩ := bL_ok hl (Or.inl ⟨rfl, rfl⟩)
    have hfi : ¬ fi = 32 → G (hdS G ct) = fi := bL_first hl hb.2 (by omega)
    have ht := tl_le G ct
    have hbg := hb.1
    refine ⟨⟨?_, ⟨hf.2.2.2.1, hf.2.2.2.2.1⟩, hf.2.2.2.2.2, ?_, ha, fun _ => ⟨?_, ?_, ?_, ?_, ?_, ?_, ?_⟩⟩, fun _ => ⟨hb.1, ?_, ?_, hfi, ?_, ?_, ?_, ?_, ?_⟩, fun _ => ⟨?_, ?_⟩⟩
    · exact Nat.le_refl 4
    · show eSg G ct fi = 0 ∨ eSg G ct fi = 1
      unfold eSg; split <;> simp
    · intro j hj; have := hG j hj; show 0 ≤ G j ∧ G j < 65536; omega
    · exact Nat.le_of_lt hb.1
    · exact Nat.sub_le _ _
    · show 1 ≤ ct ∧ ct ≤ 18; omega
    · show 0 ≤ fi ∧ fi < 65536; omega
    · show (if flo fi then (1 : Int) else 0) = 0 ∨ (if flo fi then (1 : Int) else 0) = 1
      split <;> simp
    · show nd (dp G fi (if flo fi then 1 else 0) (hdS G ct)) (ct - tlS G ct - hdS G ct) (hdS G ct) = eDg nn fc fi
      rw [nd_dp (fun x => hfi (by omega)) (by omega)]
      unfold eDg
      rw [show nn + fc = _ from b3]
      simp
    · intro i h1 h2
      have h1 : hdS G ct ≤ i := h1
      have h2 : i < ct - tlS G ct := h2
      exact b4 i h1 (by omega)
    · show fi = 32 ∨ fi = 90 ∨ fi = 42 ∨ fi = 36 ∨ fi = 43 ∨ fi = 45; omega
    · show (if flo fi then (1 : Int) else 0) = 1 ↔ fi = 36 ∨ fi = 43 ∨ fi = 45
      by_cases x : flo fi
      · rw [if_pos x]; exact ⟨fun _ => x, fun _ => rfl⟩
      · rw [if_neg x]; exact ⟨fun y => by omega, fun y => absurd y x⟩
    · intro i hi; exact hd_sy hi
    · show ct ≤ ct - tlS G ct + 2; omega
    · intro x
      have x : ct = ct - tlS G ct + 1 := x
      show G (ct - tlS G ct) = 43 ∨ G (ct - tlS G ct) = 45
      have y : tlS G ct = 1 := by omega
      rw [y]; exact tl_1 y
    · intro x i h1 h2
      have x : ct = ct - tlS G ct + 2 := x
      have h1 : ct - tlS G ct ≤ i := h1
      have h2 : i < ct := h2
      have w := (tl_2 (show tlS G ct = 2 by omega)).2.2
      show ¬ G i = 36 ∧ ¬ G i = 43
      by_cases y : i = ct - 1
      · subst y; omega
      · have : i = ct - 2 := by omega
        subst this; omega
    · intro j hj; have := hG j hj; show 0 ≤ G j ∧ G j < 256; omega
    · show 0 ≤ fi ∧ fi < 256; omega
/-- the whole draft -/
def dRd (d : Nat → Int) (n : Nat) : Option ((Nat → Int) × Nat) := match wO d n 25 0 (fun _ => 0) 0 with
  | some (G, ct) => if 0 < ct then some (G, ct) else none
  | none => none
theorem wO_ct {d : Nat → Int} {n : Nat} : ∀ {f a ct : Nat} {G G' : Nat → Int} {ct' : Nat}, wO d n f a G ct = some (G', ct') → ct ≤ 18 → ct' ≤ 18
  | 0, _, _, _, _, _, h, _ => by cases h
  | f + 1, a, ct, G, G', ct', h, hc => by
    by_cases ha : a < n
    · by_cases hb : wbad d n a ct
      · rw [wO_bad ha hb] at h; cases h
      · rw [wO_go ha hb] at h
        have := tm_r d n a
        exact wO_ct h (by omega)
    · rw [wO_end ha] at h; cases h; exact hc
theorem dRd_ok {d : Nat → Int} {n : Nat} {G : Nat → Int} {ct : Nat} (h : dRd d n = some (G, ct)) : wO d n 25 0 (fun _ => 0) 0 = some (G, ct) ∧ 0 < ct ∧ ct ≤ 18 := by
  unfold dRd at h
  cases hw : wO d n 25 0 (fun _ => 0) 0 with
  | none => rw [hw] at h; cases h
  | some q =>
    obtain ⟨G1, c1⟩ := q
    rw [hw] at h
    by_cases hc : 0 < c1
    · have h : (if 0 < c1 then some (G1, c1) else none) = some (G, ct) := h
      rw [if_pos hc] at h
      cases h
      exact ⟨rfl, hc, wO_ct hw (by omega)⟩
    · have h : (if 0 < c1 then some (G1, c1) else none) = some (G, ct) := h
      rw [if_neg hc] at h; cases h
abbrev qE (p : PS) : Int := p.2.2.2.2.1
abbrev qG (p : PS) : Int := p.2.2.2.1
/-- a usage that does not go with the picture -/
abbrev uBad (us : Int) (p : PS) : Prop := us < 0 ∨ 3 < us ∨ (qE p = 1 ∧ ¬ us = 0) ∨ (us = 2 ∧ qG p = 0)
def sAdd (S : ST) (D : FD) : ST := (zB S, zR S, 0, zN S + 1, fun i => if i = zN S then D else zD S i, zE S, zF S)
def fFld2 (S : ST) (us at' : Int) (G' : Nat → Int) (p : PS) : Int × ST := if uBad us p then (-2, S) else if at' < 0 ∨ 64 - (fW (mkD us.toNat 0 G' p) : Int) < at' then (-3, S) else if 12 ≤ zN S then (-4, S) else ((zN S : Int), sAdd S (mkD us.toNat at'.toNat G' p))
/-- what the draft is read as: its symbols and what they say -/
def rd2 (d : Nat → Int) (n : Nat) : Option ((Nat → Int) × Nat × PS) := match dRd d n with
  | none => none
  | some (G, ct) => match pRes G ct with
    | none => none
    | some p => some (G, ct, p)
abbrev rdS (S : ST) : Option ((Nat → Int) × Nat × PS) := rd2 (zR S) (zL S)
def fField (S : ST) (us at' : Int) (G' : Nat → Int) : Int × ST := match rdS S with
  | none => (-1, S)
  | some (_, _, p) => fFld2 S us at' G' p
/-- the symbols of a field are those of the draft -/
def agr (S : ST) (G' : Nat → Int) : Prop := (∀ j, j < 18 → 0 ≤ G' j ∧ G' j ≤ 126) ∧ ∀ G ct p, rdS S = some (G, ct, p) → ∀ j, j < ct → G' j = G j
theorem rdS_ok {S : ST} {G : Nat → Int} {ct : Nat} {p : PS} (h : rdS S = some (G, ct, p)) : dRd (zR S) (zL S) = some (G, ct) ∧ pRes G ct = some p := by
  unfold rdS rd2 at h
  split at h
  · cases h
  · rename_i G1 c1 e
    cases hp : pRes G1 c1 with
    | none => rw [hp] at h; cases h
    | some q => rw [hp] at h; cases h; exact ⟨e, hp⟩
theorem fW_at (us a b : Nat) (G : Nat → Int) (p : PS) : fW (mkD us a G p) = fW (mkD us b G p) := rfl
theorem SO_field {S : ST} {us at' : Int} {G' : Nat → Int} (hO : SO S) (hg : agr S G') : SO (fField S us at' G').2 := by
  unfold fField
  cases hr : rdS S with
  | none => exact hO
  | some q =>
    obtain ⟨G, ct, p⟩ := q
    show SO (fFld2 S us at' G' p).2
    obtain ⟨h1, h2⟩ := rdS_ok hr
    obtain ⟨-, h3, h4⟩ := dRd_ok h1
    unfold fFld2
    by_cases b1 : uBad us p
    · rw [if_pos b1]; exact hO
    · rw [if_neg b1]
      by_cases b2 : at' < 0 ∨ 64 - (fW (mkD us.toNat 0 G' p) : Int) < at'
      · rw [if_pos b2]; exact hO
      · rw [if_neg b2]
        by_cases b3 : 12 ≤ zN S
        · rw [if_pos b3]; exact hO
        · rw [if_neg b3]
          refine ⟨?_, Nat.zero_le _, hO.2.2.1, hO.2.2.2.1, fun i hi => ?_⟩
          · show zN S + 1 ≤ 12; omega
          · show fOk (if i = zN S then _ else zD S i) ∧ gOk (if i = zN S then _ else zD S i) ∧ kOk (if i = zN S then _ else zD S i)
            by_cases e : i = zN S
            · rw [if_pos e]
              rw [← pRes_cg h3 (fun j hj => hg.2 G ct p hr j hj)] at h2
              exact pRes_ok h2 hg.1 h4 (by omega) (by rw [fW_at us.toNat at'.toNat 0]; omega)
            · rw [if_neg e]
              have hi : i < zN S + 1 := hi
              exact hO.2.2.2.2 i (by omega)
theorem pRes_r {G : Nat → Int} {ct : Nat} {p : PS} (h : pRes G ct = some p) : (qG p = 0 ∨ qG p = 1) ∧ (qE p = 0 ∨ qE p = 1) ∧ (1 ≤ p.2.1 ∧ p.2.1 ≤ 9) ∧ p.1 = ct := by
  unfold pRes at h
  cases hn : nRes G ct with
  | some q =>
    obtain ⟨dg, sc⟩ := q
    rw [hn] at h
    cases h
    have hq : lim dg sc := by
      unfold nRes at hn
      split at hn
      · split at hn
        · rename_i x
          cases hn; exact x.2
        · cases hn
      · cases hn
    refine ⟨?_, Or.inl rfl, ⟨hq.1, hq.2.1⟩, rfl⟩
    show (if G 0 = 83 then (1 : Int) else 0) = 0 ∨ (if G 0 = 83 then (1 : Int) else 0) = 1
    split <;> simp
  | none =>
    rw [hn] at h
    obtain ⟨nn, pt, sc, fc, fi, hb, hl, hf, rfl⟩ := eRes_ok h
    refine ⟨?_, Or.inr rfl, ⟨hf.2.2.2.1, hf.2.2.2.2.1⟩, rfl⟩
    show eSg G ct fi = 0 ∨ eSg G ct fi = 1
    unfold eSg; split <;> simp
