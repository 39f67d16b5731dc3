/-! the class's world and the model's world, over one abstract state -/
theorem xCt_mono {E : xEnv} {d mc ms : Nat} {M : xM} {args : List Value} {h : xH} {post post' : Option Value → xH → Prop} (hC : xCt E d mc ms M args h post) (hp : ∀ r h', post r h' → post' r h') : xCt E d mc ms M args h post' := by
  unfold xCt Met at *
  refine MetFree.mono hC (fun _ _ x => x) (fun _ _ _ _ _ x => x) (fun _ _ _ _ _ q => ?_)
  obtain ⟨⟨⟨r, h', e1, e2, e3⟩, q2⟩, q3⟩ := q
  exact ⟨⟨⟨r, h', e1, hp _ _ e2, e3⟩, q2⟩, q3⟩
theorem xCt_q {E : xEnv} {d mc ms : Nat} {M : xM} {args : List Value} {h : xH} {P Q : Value → xH → Prop} (hC : xCt E d mc ms M args h (rQ P)) (hp : ∀ v h', P v h' → Q v h') : xCt E d mc ms M args h (rQ Q) := xCt_mono hC (fun _ _ ⟨v, e, q⟩ => ⟨v, e, hp _ _ q⟩)
theorem xCt_p {E : xEnv} {d mc ms : Nat} {M : xM} {args : List Value} {h : xH} {P Q : xH → Prop} (hC : xCt E d mc ms M args h (rP P)) (hp : ∀ h', P h' → Q h') : xCt E d mc ms M args h (rP Q) := xCt_mono hC (fun _ _ ⟨e, q⟩ => ⟨e, hp _ q⟩)
/-- bytes stay bytes -/
def kOk (D : FD) : Prop := fM D = 4 → (∀ j, j < 18 → 0 ≤ fY D j ∧ fY D j < 256) ∧ 0 ≤ fI D ∧ fI D < 256
theorem bOk_gU {B : Nat → Int} {k : Nat} {x : Int} (hB : bOk B) (hx : 0 ≤ x ∧ x ≤ 255) : bOk (gU B k x) := by
  intro j hj
  unfold gU
  split
  · exact hx
  · exact hB j hj
theorem tm10 {m : Int} (hm : 0 ≤ m) : 0 ≤ m.tmod 10 ∧ m.tmod 10 ≤ 9 ∧ 0 ≤ m.tdiv 10 := by
  rw [Int.tmod_eq_emod_of_nonneg hm, Int.tdiv_eq_ediv_of_nonneg hm]; omega
theorem stD_b : ∀ (k : Nat) (B : Nat → Int) (o : Nat) (m : Int), bOk B → 0 ≤ m → bOk (stD B o k m)
  | 0, _, _, _, hB, _ => hB
  | k + 1, B, o, m, hB, hm => by
    have := tm10 hm
    exact stD_b k _ o _ (bOk_gU hB (by omega)) (by omega)
theorem stD_ge : ∀ (k : Nat) (B : Nat → Int) (o : Nat) (m : Int) (j : Nat), o + k ≤ j → stD B o k m j = B j
  | 0, _, _, _, _, _ => rfl
  | k + 1, B, o, m, j, h => by
    show stD (gU B (o + k) _) o k _ j = B j
    rw [stD_ge k _ o _ j (by omega), gU_ne _ _ (by omega)]
theorem stP_b : ∀ (k : Nat) (B : Nat → Int) (o : Nat) (m w : Int), bOk B → 0 ≤ m → 0 ≤ w → w ≤ 15 → bOk (stP B o k m w)
  | 0, _, _, _, _, hB, _, _, _ => hB
  | k + 1, B, o, m, w, hB, hm, h1, h2 => by
    have h := tm10 hm
    have h' := tm10 h.2.2
    have : 0 ≤ m.tdiv 100 := Int.tdiv_nonneg hm (by decide)
    exact stP_b k _ o _ _ (bOk_gU hB (by omega)) this (by omega) (by omega)
theorem stB_b : ∀ (k : Nat) (B : Nat → Int) (o : Nat) (v : Int), bOk B → bOk (stB B o k v)
  | 0, _, _, _, hB => hB
  | k + 1, B, o, v, hB => stB_b k _ o _ (bOk_gU hB (by omega))
theorem eTx_b {sy : Nat → Int} {fi fl : Int} {hd be : Nat} {ng : Int} {m j : Nat} (hs : 0 ≤ sy j ∧ sy j < 256) (hfi : 0 ≤ fi ∧ fi < 256) : 0 ≤ eTx sy fi fl hd be ng m j ∧ eTx sy fi fl hd be ng m j ≤ 255 := by
  have h1 : ∀ c : Int, 0 ≤ c ∧ c < 256 → 0 ≤ sgC c ng ∧ sgC c ng ≤ 255 := by
    intro c hc; unfold sgC; (repeat' split) <;> omega
  have h3 : 0 ≤ wbt sy (dp sy fi fl hd) be m j ∧ wbt sy (dp sy fi fl hd) be m j ≤ 255 := by
    have := dgt_lt m (nd (dp sy fi fl hd) (be - j - 1) (j + 1))
    unfold wbt; (repeat' split) <;> omega
  have h4 := h1 _ hs
  have h5 := h1 _ hfi
  clear h1
  unfold eTx
  (repeat' split) <;> omega
theorem bOk_stA {D : FD} {B : Nat → Int} {u : Int} (hB : bOk B) (hD : fOk D) (hK : kOk D) : bOk (stA D B u) := by
  obtain ⟨hm4, hn, -, -, ho, h4⟩ := hD
  have hu : (0 : Int) ≤ u.natAbs := by omega
  have hc : fM D = 0 ∨ fM D = 1 ∨ fM D = 2 ∨ fM D = 3 ∨ fM D = 4 := by omega
  rcases hc with hc | hc | hc | hc | hc
  · rw [stA_0 hc]
    refine bOk_gU (stD_b _ _ _ _ hB hu) ?_
    obtain ⟨k, hk⟩ : ∃ k, fN D = k + 1 := ⟨fN D - 1, by omega⟩
    have e : stD B (fO D) (fN D) u.natAbs (fO D + fN D - 1) = 48 + (u.natAbs : Int).tmod 10 := by
      rw [hk]
      show stD (gU B (fO D + k) _) (fO D) k _ (fO D + (k + 1) - 1) = _
      rw [show fO D + (k + 1) - 1 = fO D + k by omega, stD_ge _ _ _ _ _ (by omega), gU_self]
    have := tm10 hu
    rw [e]; split <;> omega
  · rw [stA_1 hc]
    exact stP_b _ _ _ _ _ hB hu (by (repeat' split) <;> omega) (by (repeat' split) <;> omega)
  · rw [stA_2 hc]
    exact bOk_gU (stD_b _ _ _ _ hB hu) (by split <;> omega)
  · rw [stA_3 hc]
    exact stB_b _ _ _ _ hB
  · rw [stA_4 hc]
    obtain ⟨h1, h2⟩ := hK hc
    obtain ⟨-, -, -, hct, -⟩ := h4 hc
    intro j hj
    unfold cpyI
    split
    · exact eTx_b (h1 _ (by omega)) h2
    · exact hB j hj
theorem bOk_nB {D : FD} {B : Nat → Int} {o : Option Int} (hB : bOk B) (hD : fOk D) (hK : kOk D) : bOk (nB D B o) := by
  unfold nB
  split
  · exact bOk_stA hB hD hK
  · exact hB
/-- the state: bytes, draft, its length, number of fields, the fields, size errors, data errors -/
abbrev ST : Type := (Nat → Int) × (Nat → Int) × Nat × Nat × (Nat → FD) × Int × Int
abbrev zB (S : ST) : Nat → Int := S.1
abbrev zR (S : ST) : Nat → Int := S.2.1
abbrev zL (S : ST) : Nat := S.2.2.1
abbrev zN (S : ST) : Nat := S.2.2.2.1
abbrev zD (S : ST) : Nat → FD := S.2.2.2.2.1
abbrev zE (S : ST) : Int := S.2.2.2.2.2.1
abbrev zF (S : ST) : Int := S.2.2.2.2.2.2
def SO (S : ST) : Prop := zN S ≤ 12 ∧ zL S ≤ 24 ∧ (∀ i, i < 24 → 0 ≤ zR S i ∧ zR S i ≤ 126) ∧ bOk (zB S) ∧ ∀ i, i < zN S → fOk (zD S i) ∧ gOk (zD S i) ∧ kOk (zD S i)
/-- where things lie: the spare picture, its symbols, the fields, their pictures, their symbols -/
abbrev LY : Type := Nat × Nat × (Nat → Nat) × (Nat → Nat) × (Nat → Nat)
abbrev lS (Y : LY) : Nat := Y.1
abbrev lT (Y : LY) : Nat := Y.2.1
abbrev lF' (Y : LY) : Nat → Nat := Y.2.2.1
abbrev lP (Y : LY) : Nat → Nat := Y.2.2.2.1
abbrev lQ (Y : LY) : Nat → Nat := Y.2.2.2.2
def far (po : Nat) (Y : LY) (i : Nat) : Prop := (po + 26 ≤ lF' Y i ∧ (lP Y i = po + 2 ∨ po + 26 ≤ lP Y i) ∧ (lQ Y i = po + 3 ∨ po + 26 ≤ lQ Y i) ∧ lP Y i < lF' Y i ∧ lQ Y i < lF' Y i) ∧ (lS Y ≠ lF' Y i ∧ lS Y ≠ lP Y i ∧ lS Y ≠ lQ Y i) ∧ (lT Y ≠ lF' Y i ∧ lT Y ≠ lP Y i ∧ lT Y ≠ lQ Y i)
def spr (h : xH) (po : Nat) (Y : LY) : Prop := (lS Y = po + 2 ∨ po + 26 ≤ lS Y) ∧ (lT Y = po + 3 ∨ po + 26 ≤ lT Y) ∧ lS Y ≠ lT Y ∧ (∃ ct dg sc sg ed bs be fi fl : Int, h[lS Y]? = some (oP (lT Y) ct dg sc sg ed bs be fi fl)) ∧ ∃ G : Nat → Int, h[lT Y]? = some (aC 18 G) ∧ ∀ j, j < 18 → 0 ≤ G j ∧ G j ≤ 126
def CW (h : xH) (po : Nat) (Y : LY) (S : ST) : Prop := h[po]? = some (oR po (lS Y) (zL S) (zN S) (zE S) (zF S)) ∧ h[po + 1]? = some (aC 24 (zR S)) ∧ (∃ mk, h[po + 4]? = some (aR 12 mk) ∧ ∀ i, i < zN S → mk i = some (lF' Y i)) ∧ (∃ T, cS h po (zB S) T) ∧ (∃ U, h[po + 9]? = some (aL 12 U)) ∧ spr h po Y ∧ ∀ i, i < zN S → fAt h (lF' Y i) (lP Y i) (lQ Y i) (zD S i) ∧ far po Y i
/-- the model's cells are as they were -/
def frC (po : Nat) (h h' : xH) : Prop := ∀ i, po + 10 ≤ i → i < po + 26 → h'[i]? = h[i]?
theorem frC_refl (po : Nat) (h : xH) : frC po h h := fun _ _ _ => rfl
theorem frC_trans {po : Nat} {h h1 h2 : xH} (a : frC po h h1) (b : frC po h1 h2) : frC po h h2 := fun i x y => by rw [b i x y, a i x y]
theorem frC_set {po : Nat} {h h1 : xH} {o : Nat} {e : va_E} (a : frC po h h1) (ho : o < po + 10 ∨ po + 26 ≤ o) : frC po h (h1.set o e) := fun i x y => by rw [List.getElem?_set_ne (by omega), a i x y]
theorem far_fd {po : Nat} {Y : LY} {i : Nat} (h : far po Y i) : fd po (lF' Y i) (lP Y i) (lQ Y i) := by
  obtain ⟨⟨a, b, c⟩, -⟩ := h
  exact ⟨by omega, by omega, by omega⟩
/-- a step that changes bytes, the text and the object alone -/
theorem CW_step {h : xH} {po : Nat} {Y : LY} {S : ST} {T B : Nat → Int} {L : Nat} {se de : Int} (hW : CW h po Y S) (hT : ∀ i, i < 18 → iR (T i)) (hB : bOk B) : CW (((h.set (po + 8) (aI 18 T)).set (po + 6) (aI 64 B)).set po (oR po (lS Y) L (zN S) se de)) po Y (B, zR S, L, zN S, zD S, se, de) := by
  obtain ⟨w0, w1, ⟨mk, w2, w3⟩, ⟨T0, s1, s2, s3, s4, s5, s6⟩, ⟨U, w4⟩, ⟨p1, p2, p0, ⟨ct, dg, sc, sg, ed, bs, be, fi, fl, p3⟩, G, p4, p5⟩, w5⟩ := hW
  refine ⟨hs_self (hs_ne (by omega) (hs_ne (by omega) w0)), hs_ne (by omega) (hs_ne (by omega) (hs_ne (by omega) w1)), ⟨mk, hs_ne (by omega) (hs_ne (by omega) (hs_ne (by omega) w2)), w3⟩, ⟨T, hs_ne (by omega) (hs_ne (by omega) (hs_ne (by omega) s1)), hs_ne (by omega) (hs_self (hs_ne (by omega) s2)), hs_ne (by omega) (hs_ne (by omega) (hs_ne (by omega) s3)), hs_ne (by omega) (hs_ne (by omega) (hs_self s4)), hT, hB⟩, ⟨U, hs_ne (by omega) (hs_ne (by omega) (hs_ne (by omega) w4))⟩, ⟨p1, p2, p0, ⟨ct, dg, sc, sg, ed, bs, be, fi, fl, hs_ne (by omega) (hs_ne (by omega) (hs_ne (by omega) p3))⟩, G, hs_ne (by omega) (hs_ne (by omega) (hs_ne (by omega) p4)), p5⟩, fun i hi => ?_⟩
  obtain ⟨a, b⟩ := w5 i hi
  have := b
  obtain ⟨⟨a1, a2, a3⟩, -⟩ := this
  exact ⟨fAt_set (fAt_set (fAt_set a (by omega) (by omega) (by omega)) (by omega) (by omega) (by omega)) (by omega) (by omega) (by omega), b⟩
theorem CW_text {h : xH} {po : Nat} {Y : LY} {S : ST} {T : Nat → Int} (hW : CW h po Y S) (hT : ∀ i, i < 18 → iR (T i)) : CW (h.set (po + 8) (aI 18 T)) po Y S := by
  obtain ⟨w0, w1, ⟨mk, w2, w3⟩, ⟨T0, s1, s2, s3, s4, s5, s6⟩, ⟨U, w4⟩, ⟨p1, p2, p0, ⟨ct, dg, sc, sg, ed, bs, be, fi, fl, p3⟩, G, p4, p5⟩, w5⟩ := hW
  refine ⟨hs_ne (by omega) w0, hs_ne (by omega) w1, ⟨mk, hs_ne (by omega) w2, w3⟩, ⟨T, hs_ne (by omega) s1, hs_ne (by omega) s2, hs_ne (by omega) s3, hs_self s4, hT, s6⟩, ⟨U, hs_ne (by omega) w4⟩, ⟨p1, p2, p0, ⟨ct, dg, sc, sg, ed, bs, be, fi, fl, hs_ne (by omega) p3⟩, G, hs_ne (by omega) p4, p5⟩, fun i hi => ?_⟩
  obtain ⟨a, b⟩ := w5 i hi
  have := b
  obtain ⟨⟨a1, a2, a3⟩, -⟩ := this
  exact ⟨fAt_set a (by omega) (by omega) (by omega), b⟩
theorem CW_obj {h : xH} {po : Nat} {Y : LY} {S : ST} {L : Nat} {se de : Int} (hW : CW h po Y S) : CW (h.set po (oR po (lS Y) L (zN S) se de)) po Y (zB S, zR S, L, zN S, zD S, se, de) := by
  have h1 := hW.2.2.2.1
  obtain ⟨T, s1, s2, s3, s4, s5, s6⟩ := h1
  have := CW_step (L := L) (se := se) (de := de) hW s5 s6
  rw [hset_id s4, hset_id s2] at this
  exact this
theorem CW_byte {h : xH} {po : Nat} {Y : LY} {S : ST} {B : Nat → Int} (hW : CW h po Y S) (hB : bOk B) : CW (h.set (po + 6) (aI 64 B)) po Y (B, S.2) := by
  have h1 := hW.2.2.2.1
  obtain ⟨T, s1, s2, s3, s4, s5, s6⟩ := h1
  have := CW_step (B := B) (L := zL S) (se := zE S) (de := zF S) hW s5 hB
  rw [hset_id s4, hset_id (hs_ne (by omega) hW.1)] at this
  exact this
theorem CW_units {h : xH} {po : Nat} {Y : LY} {S : ST} {U : Nat → Int} (hW : CW h po Y S) : CW (h.set (po + 9) (aL 12 U)) po Y S := by
  obtain ⟨w0, w1, ⟨mk, w2, w3⟩, ⟨T, s1, s2, s3, s4, s5, s6⟩, ⟨U0, w4⟩, ⟨p1, p2, p0, ⟨ct, dg, sc, sg, ed, bs, be, fi, fl, p3⟩, G, p4, p5⟩, w5⟩ := hW
  refine ⟨hs_ne (by omega) w0, hs_ne (by omega) w1, ⟨mk, hs_ne (by omega) w2, w3⟩, ⟨T, hs_ne (by omega) s1, hs_ne (by omega) s2, hs_ne (by omega) s3, hs_ne (by omega) s4, s5, s6⟩, ⟨U, hs_self w4⟩, ⟨p1, p2, p0, ⟨ct, dg, sc, sg, ed, bs, be, fi, fl, hs_ne (by omega) p3⟩, G, hs_ne (by omega) p4, p5⟩, fun i hi => ?_⟩
  obtain ⟨a, b⟩ := w5 i hi
  have := b
  obtain ⟨⟨a1, a2, a3⟩, -⟩ := this
  exact ⟨fAt_set a (by omega) (by omega) (by omega), b⟩
/-- the class's world does not look at the model's cells -/
theorem CW_fr {h h' : xH} {po : Nat} {Y : LY} {S : ST} (hW : CW h po Y S) (hf : ∀ i, i < po + 10 ∨ po + 26 ≤ i → h'[i]? = h[i]?) : CW h' po Y S := by
  obtain ⟨w0, w1, ⟨mk, w2, w3⟩, ⟨T, s1, s2, s3, s4, s5, s6⟩, ⟨U, w4⟩, ⟨p1, p2, p0, ⟨ct, dg, sc, sg, ed, bs, be, fi, fl, p3⟩, G, p4, p5⟩, w5⟩ := hW
  refine ⟨by rw [hf _ (by omega)]; exact w0, by rw [hf _ (by omega)]; exact w1, ⟨mk, by rw [hf _ (by omega)]; exact w2, w3⟩, ⟨T, by rw [hf _ (by omega)]; exact s1, by rw [hf _ (by omega)]; exact s2, by rw [hf _ (by omega)]; exact s3, by rw [hf _ (by omega)]; exact s4, s5, s6⟩, ⟨U, by rw [hf _ (by omega)]; exact w4⟩, ⟨p1, p2, p0, ⟨ct, dg, sc, sg, ed, bs, be, fi, fl, by rw [hf _ (by omega)]; exact p3⟩, G, by rw [hf _ (by omega)]; exact p4, p5⟩, fun i hi => ?_⟩
  obtain ⟨⟨a, c⟩, b⟩ := w5 i hi
  have := b
  obtain ⟨⟨a1, a2, a3⟩, -⟩ := this
  refine ⟨⟨by rw [hf _ (by omega)]; exact a, fun h4 => ?_⟩, b⟩
  obtain ⟨⟨x1, x2, x3, x4, x5⟩, x6⟩ := c h4
  exact ⟨⟨x1, x2, x3, x4, by rw [hf _ (by omega)]; exact x5⟩, by rw [hf _ (by omega)]; exact x6⟩
