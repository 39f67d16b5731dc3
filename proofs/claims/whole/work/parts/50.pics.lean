/-! what a draft says -/
abbrev ins (c : Int) : Prop := c = 44 ∨ c = 66 ∨ c = 48 ∨ c = 47
abbrev pmn (c : Int) : Prop := c = 43 ∨ c = 45
abbrev flo (c : Int) : Prop := c = 36 ∨ c = 43 ∨ c = 45
abbrev fil (c : Int) : Prop := c = 90 ∨ c = 42 ∨ c = 36 ∨ c = 43 ∨ c = 45
abbrev rpt (c : Int) : Prop := c = 57 ∨ c = 90 ∨ c = 42 ∨ c = 36 ∨ c = 43 ∨ c = 45 ∨ c = 44 ∨ c = 66 ∨ c = 48 ∨ c = 47
abbrev dig (c : Int) : Prop := 48 ≤ c ∧ c ≤ 57
/-- the length of the repetition at a; 0 if there is none -/
def rl (d : Nat → Int) (n a : Nat) : Nat :=
  if (a + 3 < n ∧ rpt (d a) ∧ d (a + 1) = 40) ∧ dig (d (a + 2)) then
    (if d (a + 3) = 41 then 4 else if a + 4 < n ∧ dig (d (a + 3)) ∧ d (a + 4) = 41 then 5 else 0)
  else 0
def rt (d : Nat → Int) (a t : Nat) : Int := if t = 4 then d (a + 2) - 48 else 10 * (d (a + 2) - 48) + d (a + 3) - 48
def tm (d : Nat → Int) (n a : Nat) : Int := if rl d n a = 0 then 1 else rt d a (rl d n a)
def apS (G : Nat → Int) (ct : Nat) (c : Int) (k : Nat) : Nat → Int := fun j => if ct ≤ j ∧ j < ct + k then c else G j
abbrev wbad (d : Nat → Int) (n a ct : Nat) : Prop := d a = 40 ∨ d a = 41 ∨ tm d n a = 0 ∨ 18 < (ct : Int) + tm d n a
/-- the draft written out -/
def wO (d : Nat → Int) (n : Nat) : Nat → Nat → (Nat → Int) → Nat → Option ((Nat → Int) × Nat)
  | 0, _, _, _ => none
  | f + 1, a, G, ct => if a < n then (if wbad d n a ct then none else wO d n f (a + max 1 (rl d n a)) (apS G ct (d a) (tm d n a).toNat) (ct + (tm d n a).toNat)) else some (G, ct)
theorem wO_end {d : Nat → Int} {n f a ct : Nat} {G : Nat → Int} (h : ¬ a < n) : wO d n (f + 1) a G ct = some (G, ct) := by
  unfold wO; rw [if_neg h]
theorem wO_bad {d : Nat → Int} {n f a ct : Nat} {G : Nat → Int} (h : a < n) (hb : wbad d n a ct) : wO d n (f + 1) a G ct = none := by
  unfold wO; rw [if_pos h, if_pos hb]
theorem wO_go {d : Nat → Int} {n f a ct : Nat} {G : Nat → Int} (h : a < n) (hb : ¬ wbad d n a ct) : wO d n (f + 1) a G ct = wO d n f (a + max 1 (rl d n a)) (apS G ct (d a) (tm d n a).toNat) (ct + (tm d n a).toNat) := by
  conv => lhs; unfold wO
  rw [if_pos h, if_neg hb]
theorem rl_c (d : Nat → Int) (n a : Nat) : rl d n a = 0 ∨ rl d n a = 4 ∨ rl d n a = 5 := by unfold rl; (repeat' split) <;> omega
/-- an open repetition that is none ends it -/
theorem wO_mal {d : Nat → Int} {n f a ct : Nat} {G : Nat → Int} (h : a + 1 < n) (h1 : d (a + 1) = 40) (h0 : rl d n a = 0) : wO d n (f + 2) a G ct = none := by
  by_cases hb : wbad d n a ct
  · exact wO_bad (by omega) hb
  · rw [wO_go (by omega) hb, h0]
    exact wO_bad (show a + max 1 0 < n by omega) (Or.inl h1)
theorem tm_r {d : Nat → Int} {n a : Nat} (hd : ∀ i, i < 24 → 0 ≤ d i ∧ d i ≤ 126) (hn : n ≤ 24) : 0 ≤ tm d n a ∧ tm d n a ≤ 99 := by
  unfold tm rt rl
  by_cases hc : (a + 3 < n ∧ rpt (d a) ∧ d (a + 1) = 40) ∧ dig (d (a + 2))
  · have h2 := hc.2
    rw [if_pos hc]
    by_cases h3 : d (a + 3) = 41
    · rw [if_pos h3]
      simp only [Nat.reduceEqDiff, if_true, if_false]
      unfold dig at h2
      constructor <;> (simp; omega)
    · rw [if_neg h3]
      by_cases h4 : a + 4 < n ∧ dig (d (a + 3)) ∧ d (a + 4) = 41
      · have h5 := h4.2.1
        rw [if_pos h4]
        unfold dig at h2 h5
        constructor <;> (simp; omega)
      · rw [if_neg h4]; simp
  · rw [if_neg hc]; simp
/-- digits, decimals, points -/
def nL (G : Nat → Int) : Nat → Nat → Nat → Nat → Nat → Option (Nat × Nat × Nat)
  | 0, _, dg, sc, pt => some (dg, sc, pt)
  | r + 1, i, dg, sc, pt => if G i = 57 then nL G r (i + 1) (dg + 1) (sc + if pt = 0 then 0 else 1) pt else if G i = 86 then nL G r (i + 1) dg sc (pt + 1) else none
theorem nL_9 {G : Nat → Int} {r i dg sc pt : Nat} (h : G i = 57) : nL G (r + 1) i dg sc pt = nL G r (i + 1) (dg + 1) (sc + if pt = 0 then 0 else 1) pt := by
  conv => lhs; unfold nL
  rw [if_pos h]
theorem nL_V {G : Nat → Int} {r i dg sc pt : Nat} (h : G i = 86) : nL G (r + 1) i dg sc pt = nL G r (i + 1) dg sc (pt + 1) := by
  conv => lhs; unfold nL
  rw [if_neg (by omega), if_pos h]
theorem nL_n {G : Nat → Int} {r i dg sc pt : Nat} (h : ¬ G i = 57) (h2 : ¬ G i = 86) : nL G (r + 1) i dg sc pt = none := by
  conv => lhs; unfold nL
  rw [if_neg h, if_neg h2]
theorem nL_pt {G : Nat → Int} : ∀ {r i dg sc pt : Nat} {a b c : Nat}, nL G r i dg sc pt = some (a, b, c) → pt ≤ c
  | 0, i, dg, sc, pt, a, b, c, h => by cases h; exact Nat.le_refl _
  | r + 1, i, dg, sc, pt, a, b, c, h => by
    by_cases h9 : G i = 57
    · rw [nL_9 h9] at h; exact nL_pt h
    · by_cases hV : G i = 86
      · rw [nL_V hV] at h; have := nL_pt h; omega
      · rw [nL_n h9 hV] at h; cases h
abbrev lim (dg sc : Nat) : Prop := 1 ≤ dg ∧ dg ≤ 9 ∧ sc ≤ 4
def nRes (G : Nat → Int) (ct : Nat) : Option (Nat × Nat) := match nL G (ct - if G 0 = 83 then 1 else 0) (if G 0 = 83 then 1 else 0) 0 0 0 with
  | some (dg, sc, pt) => if pt ≤ 1 ∧ lim dg sc then some (dg, sc) else none
  | none => none
theorem nRes_s {G : Nat → Int} {ct dg sc pt : Nat} (h : nL G (ct - if G 0 = 83 then 1 else 0) (if G 0 = 83 then 1 else 0) 0 0 0 = some (dg, sc, pt)) : nRes G ct = if pt ≤ 1 ∧ lim dg sc then some (dg, sc) else none := by
  unfold nRes; rw [h]
theorem nRes_n {G : Nat → Int} {ct : Nat} (h : nL G (ct - if G 0 = 83 then 1 else 0) (if G 0 = 83 then 1 else 0) 0 0 0 = none) : nRes G ct = none := by
  unfold nRes; rw [h]
/-- nines, points, decimals, filler, fillers -/
abbrev BS : Type := Nat × Nat × Nat × Int × Nat
def bL (G : Nat → Int) : Nat → Nat → BS → Option BS
  | 0, _, s => some s
  | r + 1, i, (nn, pt, sc, fi, fc) => if G i = 57 then bL G r (i + 1) (nn + 1, pt, sc + (if pt = 0 then 0 else 1), fi, fc)
    else if G i = 46 then bL G r (i + 1) (nn, pt + 1, sc, fi, fc)
    else if ins (G i) then bL G r (i + 1) (nn, pt, sc, fi, fc)
    else if fil (G i) ∧ nn = 0 ∧ pt = 0 ∧ (fc = 0 ∨ G i = fi) then bL G r (i + 1) (nn, pt, sc, G i, fc + 1) else none
section BL
variable {G : Nat → Int} {r i nn pt sc fc : Nat} {fi : Int}
theorem bL_9 (h : G i = 57) : bL G (r + 1) i (nn, pt, sc, fi, fc) = bL G r (i + 1) (nn + 1, pt, sc + (if pt = 0 then 0 else 1), fi, fc) := by
  conv => lhs; unfold bL
  rw [if_pos h]
theorem bL_p (h : G i = 46) : bL G (r + 1) i (nn, pt, sc, fi, fc) = bL G r (i + 1) (nn, pt + 1, sc, fi, fc) := by
  conv => lhs; unfold bL
  rw [if_neg (by omega), if_pos h]
theorem bL_i (h : ins (G i)) : bL G (r + 1) i (nn, pt, sc, fi, fc) = bL G r (i + 1) (nn, pt, sc, fi, fc) := by
  conv => lhs; unfold bL
  rw [if_neg (by omega), if_neg (by omega), if_pos h]
theorem bL_f (h : fil (G i)) (h2 : nn = 0 ∧ pt = 0 ∧ (fc = 0 ∨ G i = fi)) : bL G (r + 1) i (nn, pt, sc, fi, fc) = bL G r (i + 1) (nn, pt, sc, G i, fc + 1) := by
  conv => lhs; unfold bL
  rw [if_neg (by omega), if_neg (by omega), if_neg (by omega), if_pos ⟨h, h2⟩]
theorem bL_n (h9 : ¬ G i = 57) (hp : ¬ G i = 46) (hi : ¬ ins (G i)) (h : ¬ (fil (G i) ∧ nn = 0 ∧ pt = 0 ∧ (fc = 0 ∨ G i = fi))) : bL G (r + 1) i (nn, pt, sc, fi, fc) = none := by
  conv => lhs; unfold bL
  rw [if_neg h9, if_neg hp, if_neg hi, if_neg h]
end BL
theorem bL_pt {G : Nat → Int} : ∀ {r i : Nat} {s t : BS}, bL G r i s = some t → s.2.1 ≤ t.2.1
  | 0, i, s, t, h => by cases h; exact Nat.le_refl _
  | r + 1, i, (nn, pt, sc, fi, fc), t, h => by
    by_cases h9 : G i = 57
    · rw [bL_9 h9] at h; exact bL_pt h
    · by_cases hp : G i = 46
      · rw [bL_p hp] at h; have := bL_pt h; exact Nat.le_of_succ_le this
      · by_cases hi : ins (G i)
        · rw [bL_i hi] at h; exact bL_pt h
        · by_cases hf : fil (G i) ∧ nn = 0 ∧ pt = 0 ∧ (fc = 0 ∨ G i = fi)
          · rw [bL_f hf.1 hf.2] at h; exact bL_pt h
          · rw [bL_n h9 hp hi hf] at h; cases h
/-- what a body that is one looks like -/
theorem bL_ok {G : Nat → Int} : ∀ {r i nn pt sc fc : Nat} {fi : Int} {nn' pt' sc' fc' : Nat} {fi' : Int}, bL G r i (nn, pt, sc, fi, fc) = some (nn', pt', sc', fi', fc') → nn' = nn + nd (fun j => decide (G j = 57)) r i ∧ (fc = 0 → fi' = fi ∧ fc' = 0 ∨ fil fi') ∧ (0 < fc → fi' = fi) ∧ (fil fi' ∨ fc' = 0) ∧ fc' = fc + nd (fun j => decide (G j = fi' ∧ fil (G j))) r i ∧ (∀ j, i ≤ j → j < i + r → G j = 57 ∨ G j = 46 ∨ ins (G j) ∨ (G j = fi' ∧ fil fi')) ∧ ((0 < nn ∨ 0 < pt) → fc' = fc) ∧ sc ≤ sc'
  | 0, i, nn, pt, sc, fc, fi, nn', pt', sc', fc', fi', h => by
    sorry
  | r + 1, i, nn, pt, sc, fc, fi, nn', pt', sc', fc', fi', h => by
    sorry
