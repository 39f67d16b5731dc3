theorem xC.own {E : xEnv} {M : xM} {d K N : Nat} {p : Program} {R : Room} {s : State} {m : MethodId} {args : Array Value} {meth : Method} {c : Code} (C : xC E M d K N p R s m args meth c) : s.vm.findClass M.1.cls = some m.cls := C.2.2.2.2.2.1
theorem xC.max {E : xEnv} {M : xM} {d K N : Nat} {p : Program} {R : Room} {s : State} {m : MethodId} {args : Array Value} {meth : Method} {c : Code} (C : xC E M d K N p R s m args meth c) : c.maxLocals = M.2.2.1 := C.2.2.1
theorem xC.ret {E : xEnv} {M : xM} {d K N : Nat} {p : Program} {R : Room} {s : State} {m : MethodId} {args : Array Value} {meth : Method} {c : Code} (C : xC E M d K N p R s m args meth c) : meth.sig.returnType = M.2.2.2 := C.2.2.2.1
theorem xC.locks {E : xEnv} {M : xM} {d K N : Nat} {p : Program} {R : Room} {s : State} {m : MethodId} {args : Array Value} {meth : Method} {c : Code} (C : xC E M d K N p R s m args meth c) : meth.locks = false := C.2.2.2.2.1
theorem xC.name {E : xEnv} {M : xM} {d K N : Nat} {p : Program} {R : Room} {s : State} {m : MethodId} {args : Array Value} {meth : Method} {c : Code} (C : xC E M d K N p R s m args meth c) : (M.1.name = "<init>" → meth.name = "<init>") := C.2.2.2.2.2.2.1
theorem xC.words {E : xEnv} {M : xM} {d K N : Nat} {p : Program} {R : Room} {s : State} {m : MethodId} {args : Array Value} {meth : Method} {c : Code} (C : xC E M d K N p R s m args meth c) : ∀ w ∈ GW, w.before args s = true := C.2.2.2.2.2.2.2.1
theorem xC.kn {E : xEnv} {M : xM} {d K N : Nat} {p : Program} {R : Room} {s : State} {m : MethodId} {args : Array Value} {meth : Method} {c : Code} (C : xC E M d K N p R s m args meth c) : va_K (eD E) vwCl (eT E) s := C.2.2.2.2.2.2.2.2.1
theorem xC.fo {E : xEnv} {M : xM} {d K N : Nat} {p : Program} {R : Room} {s : State} {m : MethodId} {args : Array Value} {meth : Method} {c : Code} (C : xC E M d K N p R s m args meth c) : xF E s s.heap := C.2.2.2.2.2.2.2.2.2.1
theorem xC.base {E : xEnv} {M : xM} {d K N : Nat} {p : Program} {R : Room} {s : State} {m : MethodId} {args : Array Value} {meth : Method} {c : Code} (C : xC E M d K N p R s m args meth c) : E.2.1 ≤ s.heap.size := C.2.2.2.2.2.2.2.2.2.2.1
theorem xC.tys {E : xEnv} {M : xM} {d K N : Nat} {p : Program} {R : Room} {s : State} {m : MethodId} {args : Array Value} {meth : Method} {c : Code} (C : xC E M d K N p R s m args meth c) : (eT E).map (fun q => q.2) = xTy := C.2.2.2.2.2.2.2.2.2.2.2.1
theorem xC.room {E : xEnv} {M : xM} {d K N : Nat} {p : Program} {R : Room} {s : State} {m : MethodId} {args : Array Value} {meth : Method} {c : Code} (C : xC E M d K N p R s m args meth c) : d ≤ R.frames ∧ 40 * d ≤ R.locals ∧ K ≤ R.cells ∧ N ≤ R.slots := C.2.2.2.2.2.2.2.2.2.2.2.2
def xrf : Value → Bool
  | .ref _ => true
  | .retAddr _ => true
  | .null => true
  | _ => false
theorem xrf_or (E : xEnv) {v : Value} (h : xrf v = true) : xv E v = .null ∨ ∃ a, xv E v = .ref a := by
  cases v with
  | ref a => exact Or.inr ⟨_, rfl⟩
  | retAddr a => exact Or.inr ⟨_, rfl⟩
  | null => exact Or.inl rfl
  | _ => cases h
section XR
variable {E : xEnv} {M : xM} {d K N : Nat} {Z : xEnd} {post : Option Value → xH → Prop} {pc : Nat} {L : List (Option Value)} {st : List Value} {h : xH} {k n : Nat}
theorem x_iconst {i : Int} {v : Int32} (hd : decode M.2.1 pc = .ok (.iconst i, 1)) (hv : Int32.ofInt i = v) (kk : X E M d K N Z (pc + 1) L (.int v :: st) h k n) : X E M d K N Z pc L (st) h k n := by
  intro p e R s m args below meth c H locs ls C hP hL hS hk hn
  exact lv_iconst C.1 C.2.1 hd hv (kk p e R s m args below meth c H locs ls C hP hL hS hk hn)
theorem x_bipush {i : Int} {v : Int32} (hd : decode M.2.1 pc = .ok (.bipush i, 2)) (hv : (Int8.ofInt i).toInt32 = v) (kk : X E M d K N Z (pc + 2) L (.int v :: st) h k n) : X E M d K N Z pc L (st) h k n := by
  intro p e R s m args below meth c H locs ls C hP hL hS hk hn
  exact lv_bipush C.1 C.2.1 hd hv (kk p e R s m args below meth c H locs ls C hP hL hS hk hn)
theorem x_sipush {i : Int} {v : Int32} (hd : decode M.2.1 pc = .ok (.sipush i, 3)) (hv : (Int16.ofInt i).toInt32 = v) (kk : X E M d K N Z (pc + 3) L (.int v :: st) h k n) : X E M d K N Z pc L (st) h k n := by
  intro p e R s m args below meth c H locs ls C hP hL hS hk hn
  exact lv_sipush C.1 C.2.1 hd hv (kk p e R s m args below meth c H locs ls C hP hL hS hk hn)
theorem x_lconst {i : Fin 2} {v : Int64} (hd : decode M.2.1 pc = .ok (.lconst i, 1)) (hv : Int64.ofNat (i : Nat) = v) (kk : X E M d K N Z (pc + 1) L (.long v :: st) h k n) : X E M d K N Z pc L (st) h k n := by
  intro p e R s m args below meth c H locs ls C hP hL hS hk hn
  exact lv_lconst C.1 C.2.1 hd hv (kk p e R s m args below meth c H locs ls C hP hL hS hk hn)
theorem x_aconst_null (hd : decode M.2.1 pc = .ok (.aconst_null, 1)) (kk : X E M d K N Z (pc + 1) L (.null :: st) h k n) : X E M d K N Z pc L (st) h k n := by
  intro p e R s m args below meth c H locs ls C hP hL hS hk hn
  exact lv_null C.1 C.2.1 hd (kk p e R s m args below meth c H locs ls C hP hL hS hk hn)
theorem x_iload_n {q : Fin 4} {i : Nat} {x : Int32} (hd : decode M.2.1 pc = .ok (.iload_n q, 1)) (hi : (q : Nat) = i) (hl : L[i]? = some (some (.int x))) (kk : X E M d K N Z (pc + 1) L (.int x :: st) h k n) : X E M d K N Z pc L (st) h k n := by
  intro p e R s m args below meth c H locs ls C hP hL hS hk hn
  exact lv_iload_n C.1 C.2.1 hd hi (hL.at hl) (kk p e R s m args below meth c H locs ls C hP hL hS hk hn)
theorem x_iload {i : Nat} {x : Int32} (hd : decode M.2.1 pc = .ok (.iload i, 2)) (hl : L[i]? = some (some (.int x))) (kk : X E M d K N Z (pc + 2) L (.int x :: st) h k n) : X E M d K N Z pc L (st) h k n := by
  intro p e R s m args below meth c H locs ls C hP hL hS hk hn
  exact lv_iload C.1 C.2.1 hd (hL.at hl) (kk p e R s m args below meth c H locs ls C hP hL hS hk hn)
theorem x_lload_n {q : Fin 4} {i : Nat} {x : Int64} (hd : decode M.2.1 pc = .ok (.lload_n q, 1)) (hi : (q : Nat) = i) (hl : L[i]? = some (some (.long x))) (kk : X E M d K N Z (pc + 1) L (.long x :: st) h k n) : X E M d K N Z pc L (st) h k n := by
  intro p e R s m args below meth c H locs ls C hP hL hS hk hn
  exact lv_lload_n C.1 C.2.1 hd hi (hL.at hl) (kk p e R s m args below meth c H locs ls C hP hL hS hk hn)
theorem x_lload {i : Nat} {x : Int64} (hd : decode M.2.1 pc = .ok (.lload i, 2)) (hl : L[i]? = some (some (.long x))) (kk : X E M d K N Z (pc + 2) L (.long x :: st) h k n) : X E M d K N Z pc L (st) h k n := by
  intro p e R s m args below meth c H locs ls C hP hL hS hk hn
  exact lv_lload C.1 C.2.1 hd (hL.at hl) (kk p e R s m args below meth c H locs ls C hP hL hS hk hn)
theorem x_aload_n {q : Fin 4} {i : Nat} {v : Value} (hd : decode M.2.1 pc = .ok (.aload_n q, 1)) (hi : (q : Nat) = i) (hl : L[i]? = some (some v)) (hv : xrf v = true) (kk : X E M d K N Z (pc + 1) L (v :: st) h k n) : X E M d K N Z pc L st h k n := by
  intro p e R s m args below meth c H locs ls C hP hL hS hk hn
  have kk := kk p e R s m args below meth c H locs ls C hP hL hS hk hn
  have hl := hL.at hl
  cases v with
  | ref a => exact lv_aload_n C.1 C.2.1 hd hi hl kk
  | retAddr a => exact lv_aload_n C.1 C.2.1 hd hi hl kk
  | null => exact lv_aload_nN C.1 C.2.1 hd hi hl kk
  | _ => cases hv
theorem x_aload {i : Nat} {v : Value} (hd : decode M.2.1 pc = .ok (.aload i, 2)) (hl : L[i]? = some (some v)) (hv : xrf v = true) (kk : X E M d K N Z (pc + 2) L (v :: st) h k n) : X E M d K N Z pc L st h k n := by
  intro p e R s m args below meth c H locs ls C hP hL hS hk hn
  have kk := kk p e R s m args below meth c H locs ls C hP hL hS hk hn
  have hl := hL.at hl
  cases v with
  | ref a => exact lv_aload C.1 C.2.1 hd hl kk
  | retAddr a => exact lv_aload C.1 C.2.1 hd hl kk
  | null => exact lv_aloadN C.1 C.2.1 hd hl kk
  | _ => cases hv
theorem x_istore_n {q : Fin 4} {i : Nat} {x : Int32} (hd : decode M.2.1 pc = .ok (.istore_n q, 1)) (hi : (q : Nat) = i) (hn' : i < L.length) (kk : X E M d K N Z (pc + 1) (xs1 L i (.int x)) st h k n) : X E M d K N Z pc L (.int x :: st) h k n := by
  intro p e R s m args below meth c H locs ls C hP hL hS hk hn
  exact lv_istore_n C.1 C.2.1 hd hi hL.1 (by rw [← hL.2]; exact hn') rfl (fun ls' h' => kk p e R s m args below meth c H locs ls' C hP (xL_s1 hL.2 h') hS hk hn)
theorem x_istore {i : Nat} {x : Int32} (hd : decode M.2.1 pc = .ok (.istore i, 2)) (hn' : i < L.length) (kk : X E M d K N Z (pc + 2) (xs1 L i (.int x)) st h k n) : X E M d K N Z pc L (.int x :: st) h k n := by
  intro p e R s m args below meth c H locs ls C hP hL hS hk hn
  exact lv_istore C.1 C.2.1 hd hL.1 (by rw [← hL.2]; exact hn') rfl (fun ls' h' => kk p e R s m args below meth c H locs ls' C hP (xL_s1 hL.2 h') hS hk hn)
theorem x_lstore_n {q : Fin 4} {i : Nat} {x : Int64} (hd : decode M.2.1 pc = .ok (.lstore_n q, 1)) (hi : (q : Nat) = i) (hn' : i + 1 < L.length) (kk : X E M d K N Z (pc + 1) (xs2 L i (.long x)) st h k n) : X E M d K N Z pc L (.long x :: st) h k n := by
  intro p e R s m args below meth c H locs ls C hP hL hS hk hn
  exact lv_lstore_n C.1 C.2.1 hd hi hL.1 (by rw [← hL.2]; exact hn') rfl (fun ls' h' => kk p e R s m args below meth c H locs ls' C hP (xL_s2 hL.2 h') hS hk hn)
theorem x_lstore {i : Nat} {x : Int64} (hd : decode M.2.1 pc = .ok (.lstore i, 2)) (hn' : i + 1 < L.length) (kk : X E M d K N Z (pc + 2) (xs2 L i (.long x)) st h k n) : X E M d K N Z pc L (.long x :: st) h k n := by
  intro p e R s m args below meth c H locs ls C hP hL hS hk hn
  exact lv_lstore C.1 C.2.1 hd hL.1 (by rw [← hL.2]; exact hn') rfl (fun ls' h' => kk p e R s m args below meth c H locs ls' C hP (xL_s2 hL.2 h') hS hk hn)
theorem x_astore_n {q : Fin 4} {i : Nat} {v : Value} (hd : decode M.2.1 pc = .ok (.astore_n q, 1)) (hi : (q : Nat) = i) (hn' : i < L.length) (hv : xrf v = true) (kk : X E M d K N Z (pc + 1) (xs1 L i v) st h k n) : X E M d K N Z pc L (v :: st) h k n := by
  intro p e R s m args below meth c H locs ls C hP hL hS hk hn
  have hn'' : i < M.2.2.1 := by rw [← hL.2]; exact hn'
  cases v with
  | ref a => exact lv_astore_n C.1 C.2.1 hd hi hL.1 hn'' rfl (fun ls' h' => kk p e R s m args below meth c H locs ls' C hP (xL_s1 hL.2 h') hS hk hn)
  | retAddr a => exact lv_astore_n C.1 C.2.1 hd hi hL.1 hn'' rfl (fun ls' h' => kk p e R s m args below meth c H locs ls' C hP (xL_s1 (v := .retAddr a) hL.2 h') hS hk hn)
  | null => exact lv_astore_nN C.1 C.2.1 hd hi hL.1 hn'' rfl (fun ls' h' => kk p e R s m args below meth c H locs ls' C hP (xL_s1 (v := .null) hL.2 h') hS hk hn)
  | _ => cases hv
theorem x_astore {i : Nat} {v : Value} (hd : decode M.2.1 pc = .ok (.astore i, 2)) (hn' : i < L.length) (hv : xrf v = true) (kk : X E M d K N Z (pc + 2) (xs1 L i v) st h k n) : X E M d K N Z pc L (v :: st) h k n := by
  intro p e R s m args below meth c H locs ls C hP hL hS hk hn
  have hn'' : i < M.2.2.1 := by rw [← hL.2]; exact hn'
  cases v with
  | ref a => exact lv_astore C.1 C.2.1 hd hL.1 hn'' rfl (fun ls' h' => kk p e R s m args below meth c H locs ls' C hP (xL_s1 hL.2 h') hS hk hn)
  | retAddr a => exact lv_astore C.1 C.2.1 hd hL.1 hn'' rfl (fun ls' h' => kk p e R s m args below meth c H locs ls' C hP (xL_s1 (v := .retAddr a) hL.2 h') hS hk hn)
  | null => exact lv_astoreN C.1 C.2.1 hd hL.1 hn'' rfl (fun ls' h' => kk p e R s m args below meth c H locs ls' C hP (xL_s1 (v := .null) hL.2 h') hS hk hn)
  | _ => cases hv
theorem x_iinc {i : Nat} {z : Int} {x : Int32} (hd : decode M.2.1 pc = .ok (.iinc i z, 3)) (hl : L[i]? = some (some (.int x))) (kk : X E M d K N Z (pc + 3) (xs1 L i (.int (x + Int32.ofInt z))) st h k n) : X E M d K N Z pc L st h k n := by
  intro p e R s m args below meth c H locs ls C hP hL hS hk hn
  obtain ⟨j, hj⟩ := List.getElem?_of_mem (xl_mem E L 0 i _ hl)
  rw [Nat.zero_add] at hj
  exact lv_iinc C.1 C.2.1 hd hL.1 hj rfl (by rw [← hL.2]; exact (List.getElem?_eq_some_iff.mp hl).1) rfl (fun ls' h' => kk p e R s m args below meth c H locs ls' C hP (xL_s1 (v := .int (x + Int32.ofInt z)) hL.2 h') hS hk hn)
theorem x_iadd {x y : Int32} (hd : decode M.2.1 pc = .ok (.iadd, 1)) (kk : X E M d K N Z (pc + 1) L (.int (x + y) :: st) h k n) : X E M d K N Z pc L (.int y :: .int x :: st) h k n := by
  intro p e R s m args below meth c H locs ls C hP hL hS hk hn
  exact lv_iadd C.1 C.2.1 hd (kk p e R s m args below meth c H locs ls C hP hL hS hk hn)
theorem x_isub {x y : Int32} (hd : decode M.2.1 pc = .ok (.isub, 1)) (kk : X E M d K N Z (pc + 1) L (.int (x - y) :: st) h k n) : X E M d K N Z pc L (.int y :: .int x :: st) h k n := by
  intro p e R s m args below meth c H locs ls C hP hL hS hk hn
  exact lv_isub C.1 C.2.1 hd (kk p e R s m args below meth c H locs ls C hP hL hS hk hn)
theorem x_imul {x y : Int32} (hd : decode M.2.1 pc = .ok (.imul, 1)) (kk : X E M d K N Z (pc + 1) L (.int (x * y) :: st) h k n) : X E M d K N Z pc L (.int y :: .int x :: st) h k n := by
  intro p e R s m args below meth c H locs ls C hP hL hS hk hn
  exact lv_imul C.1 C.2.1 hd (kk p e R s m args below meth c H locs ls C hP hL hS hk hn)
theorem x_iand {x y : Int32} (hd : decode M.2.1 pc = .ok (.iand, 1)) (kk : X E M d K N Z (pc + 1) L (.int (x &&& y) :: st) h k n) : X E M d K N Z pc L (.int y :: .int x :: st) h k n := by
  intro p e R s m args below meth c H locs ls C hP hL hS hk hn
  exact lv_iand C.1 C.2.1 hd (kk p e R s m args below meth c H locs ls C hP hL hS hk hn)
theorem x_ior {x y : Int32} (hd : decode M.2.1 pc = .ok (.ior, 1)) (kk : X E M d K N Z (pc + 1) L (.int (x ||| y) :: st) h k n) : X E M d K N Z pc L (.int y :: .int x :: st) h k n := by
  intro p e R s m args below meth c H locs ls C hP hL hS hk hn
  exact lv_ior C.1 C.2.1 hd (kk p e R s m args below meth c H locs ls C hP hL hS hk hn)
theorem x_ixor {x y : Int32} (hd : decode M.2.1 pc = .ok (.ixor, 1)) (kk : X E M d K N Z (pc + 1) L (.int (x ^^^ y) :: st) h k n) : X E M d K N Z pc L (.int y :: .int x :: st) h k n := by
  intro p e R s m args below meth c H locs ls C hP hL hS hk hn
  exact lv_ixor C.1 C.2.1 hd (kk p e R s m args below meth c H locs ls C hP hL hS hk hn)
theorem x_ishl {x y : Int32} (hd : decode M.2.1 pc = .ok (.ishl, 1)) (kk : X E M d K N Z (pc + 1) L (.int (x <<< (y &&& 31)) :: st) h k n) : X E M d K N Z pc L (.int y :: .int x :: st) h k n := by
  intro p e R s m args below meth c H locs ls C hP hL hS hk hn
  exact lv_ishl C.1 C.2.1 hd (kk p e R s m args below meth c H locs ls C hP hL hS hk hn)
theorem x_ishr {x y : Int32} (hd : decode M.2.1 pc = .ok (.ishr, 1)) (kk : X E M d K N Z (pc + 1) L (.int (x >>> (y &&& 31)) :: st) h k n) : X E M d K N Z pc L (.int y :: .int x :: st) h k n := by
  intro p e R s m args below meth c H locs ls C hP hL hS hk hn
  exact lv_ishr C.1 C.2.1 hd (kk p e R s m args below meth c H locs ls C hP hL hS hk hn)
theorem x_iushr {x y : Int32} (hd : decode M.2.1 pc = .ok (.iushr, 1)) (kk : X E M d K N Z (pc + 1) L (.int (x.toUInt32 >>> (y.toUInt32 &&& Int32.toUInt32 31)).toInt32 :: st) h k n) : X E M d K N Z pc L (.int y :: .int x :: st) h k n := by
  intro p e R s m args below meth c H locs ls C hP hL hS hk hn
  exact lv_iushr C.1 C.2.1 hd rfl (kk p e R s m args below meth c H locs ls C hP hL hS hk hn)
theorem x_idiv {x y : Int32} (hd : decode M.2.1 pc = .ok (.idiv, 1)) (hne : ¬ y = 0) (kk : X E M d K N Z (pc + 1) L (.int (x / y) :: st) h k n) : X E M d K N Z pc L (.int y :: .int x :: st) h k n := by
  intro p e R s m args below meth c H locs ls C hP hL hS hk hn
  exact lv_idiv C.1 C.2.1 hd hne (kk p e R s m args below meth c H locs ls C hP hL hS hk hn)
theorem x_irem {x y : Int32} (hd : decode M.2.1 pc = .ok (.irem, 1)) (hne : ¬ y = 0) (kk : X E M d K N Z (pc + 1) L (.int (x - x / y * y) :: st) h k n) : X E M d K N Z pc L (.int y :: .int x :: st) h k n := by
  intro p e R s m args below meth c H locs ls C hP hL hS hk hn
  exact lv_irem C.1 C.2.1 hd hne (kk p e R s m args below meth c H locs ls C hP hL hS hk hn)
theorem x_ineg {x : Int32} (hd : decode M.2.1 pc = .ok (.ineg, 1)) (kk : X E M d K N Z (pc + 1) L (.int (-x) :: st) h k n) : X E M d K N Z pc L (.int x :: st) h k n := by
  intro p e R s m args below meth c H locs ls C hP hL hS hk hn
  exact lv_ineg C.1 C.2.1 hd (kk p e R s m args below meth c H locs ls C hP hL hS hk hn)
theorem x_ladd {x y : Int64} (hd : decode M.2.1 pc = .ok (.ladd, 1)) (kk : X E M d K N Z (pc + 1) L (.long (x + y) :: st) h k n) : X E M d K N Z pc L (.long y :: .long x :: st) h k n := by
  intro p e R s m args below meth c H locs ls C hP hL hS hk hn
  exact lv_ladd C.1 C.2.1 hd (kk p e R s m args below meth c H locs ls C hP hL hS hk hn)
theorem x_lsub {x y : Int64} (hd : decode M.2.1 pc = .ok (.lsub, 1)) (kk : X E M d K N Z (pc + 1) L (.long (x - y) :: st) h k n) : X E M d K N Z pc L (.long y :: .long x :: st) h k n := by
  intro p e R s m args below meth c H locs ls C hP hL hS hk hn
  exact lv_lsub C.1 C.2.1 hd (kk p e R s m args below meth c H locs ls C hP hL hS hk hn)
theorem x_lmul {x y : Int64} (hd : decode M.2.1 pc = .ok (.lmul, 1)) (kk : X E M d K N Z (pc + 1) L (.long (x * y) :: st) h k n) : X E M d K N Z pc L (.long y :: .long x :: st) h k n := by
  intro p e R s m args below meth c H locs ls C hP hL hS hk hn
  exact lv_lmul C.1 C.2.1 hd (kk p e R s m args below meth c H locs ls C hP hL hS hk hn)
theorem x_land {x y : Int64} (hd : decode M.2.1 pc = .ok (.land, 1)) (kk : X E M d K N Z (pc + 1) L (.long (x &&& y) :: st) h k n) : X E M d K N Z pc L (.long y :: .long x :: st) h k n := by
  intro p e R s m args below meth c H locs ls C hP hL hS hk hn
  exact lv_land C.1 C.2.1 hd (kk p e R s m args below meth c H locs ls C hP hL hS hk hn)
theorem x_lor {x y : Int64} (hd : decode M.2.1 pc = .ok (.lor, 1)) (kk : X E M d K N Z (pc + 1) L (.long (x ||| y) :: st) h k n) : X E M d K N Z pc L (.long y :: .long x :: st) h k n := by
  intro p e R s m args below meth c H locs ls C hP hL hS hk hn
  exact lv_lor C.1 C.2.1 hd (kk p e R s m args below meth c H locs ls C hP hL hS hk hn)
theorem x_lxor {x y : Int64} (hd : decode M.2.1 pc = .ok (.lxor, 1)) (kk : X E M d K N Z (pc + 1) L (.long (x ^^^ y) :: st) h k n) : X E M d K N Z pc L (.long y :: .long x :: st) h k n := by
  intro p e R s m args below meth c H locs ls C hP hL hS hk hn
  exact lv_lxor C.1 C.2.1 hd (kk p e R s m args below meth c H locs ls C hP hL hS hk hn)
theorem x_ldiv {x y : Int64} (hd : decode M.2.1 pc = .ok (.ldiv, 1)) (hne : ¬ y = 0) (kk : X E M d K N Z (pc + 1) L (.long (x / y) :: st) h k n) : X E M d K N Z pc L (.long y :: .long x :: st) h k n := by
  intro p e R s m args below meth c H locs ls C hP hL hS hk hn
  exact lv_ldiv C.1 C.2.1 hd hne (kk p e R s m args below meth c H locs ls C hP hL hS hk hn)
theorem x_lrem {x y : Int64} (hd : decode M.2.1 pc = .ok (.lrem, 1)) (hne : ¬ y = 0) (kk : X E M d K N Z (pc + 1) L (.long (x - x / y * y) :: st) h k n) : X E M d K N Z pc L (.long y :: .long x :: st) h k n := by
  intro p e R s m args below meth c H locs ls C hP hL hS hk hn
  exact lv_lrem C.1 C.2.1 hd hne (kk p e R s m args below meth c H locs ls C hP hL hS hk hn)
theorem x_lneg {x : Int64} (hd : decode M.2.1 pc = .ok (.lneg, 1)) (kk : X E M d K N Z (pc + 1) L (.long (-x) :: st) h k n) : X E M d K N Z pc L (.long x :: st) h k n := by
  intro p e R s m args below meth c H locs ls C hP hL hS hk hn
  exact lv_lneg C.1 C.2.1 hd (kk p e R s m args below meth c H locs ls C hP hL hS hk hn)
theorem x_lshl {x : Int64} {y : Int32} (hd : decode M.2.1 pc = .ok (.lshl, 1)) (kk : X E M d K N Z (pc + 1) L (.long (x <<< (y.toInt64 &&& 63)) :: st) h k n) : X E M d K N Z pc L (.int y :: .long x :: st) h k n := by
  intro p e R s m args below meth c H locs ls C hP hL hS hk hn
  exact lv_lshl C.1 C.2.1 hd rfl (kk p e R s m args below meth c H locs ls C hP hL hS hk hn)
theorem x_lshr {x : Int64} {y : Int32} (hd : decode M.2.1 pc = .ok (.lshr, 1)) (kk : X E M d K N Z (pc + 1) L (.long (x >>> (y.toInt64 &&& 63)) :: st) h k n) : X E M d K N Z pc L (.int y :: .long x :: st) h k n := by
  intro p e R s m args below meth c H locs ls C hP hL hS hk hn
  exact lv_lshr C.1 C.2.1 hd rfl (kk p e R s m args below meth c H locs ls C hP hL hS hk hn)
theorem x_i2l {x : Int32} (hd : decode M.2.1 pc = .ok (.i2l, 1)) (kk : X E M d K N Z (pc + 1) L (.long x.toInt64 :: st) h k n) : X E M d K N Z pc L (.int x :: st) h k n := by
  intro p e R s m args below meth c H locs ls C hP hL hS hk hn
  exact lv_i2l C.1 C.2.1 hd rfl (kk p e R s m args below meth c H locs ls C hP hL hS hk hn)
theorem x_l2i {x : Int64} (hd : decode M.2.1 pc = .ok (.l2i, 1)) (kk : X E M d K N Z (pc + 1) L (.int x.toInt32 :: st) h k n) : X E M d K N Z pc L (.long x :: st) h k n := by
  intro p e R s m args below meth c H locs ls C hP hL hS hk hn
  exact lv_l2i C.1 C.2.1 hd rfl (kk p e R s m args below meth c H locs ls C hP hL hS hk hn)
theorem x_i2c {x : Int32} (hd : decode M.2.1 pc = .ok (.i2c, 1)) (kk : X E M d K N Z (pc + 1) L (.int (x.toUInt32 % 65536).toInt32 :: st) h k n) : X E M d K N Z pc L (.int x :: st) h k n := by
  intro p e R s m args below meth c H locs ls C hP hL hS hk hn
  exact lv_i2c C.1 C.2.1 hd rfl (kk p e R s m args below meth c H locs ls C hP hL hS hk hn)
theorem x_i2b {x : Int32} (hd : decode M.2.1 pc = .ok (.i2b, 1)) (kk : X E M d K N Z (pc + 1) L (.int x.toInt8.toInt32 :: st) h k n) : X E M d K N Z pc L (.int x :: st) h k n := by
  intro p e R s m args below meth c H locs ls C hP hL hS hk hn
  exact lv_i2b C.1 C.2.1 hd rfl (kk p e R s m args below meth c H locs ls C hP hL hS hk hn)
theorem x_lcmp {x y : Int64} (hd : decode M.2.1 pc = .ok (.lcmp, 1)) (kk : X E M d K N Z (pc + 1) L (.int (lg_cmp x y) :: st) h k n) : X E M d K N Z pc L (.long y :: .long x :: st) h k n := by
  intro p e R s m args below meth c H locs ls C hP hL hS hk hn
  exact W.lcmp C.1 C.2.1 hd (kk p e R s m args below meth c H locs ls C hP hL hS hk hn)
theorem x_dup {v : Value} (hd : decode M.2.1 pc = .ok (.dup, 1)) (hv : v.category = 1) (kk : X E M d K N Z (pc + 1) L (v :: v :: st) h k n) : X E M d K N Z pc L (v :: st) h k n := by
  intro p e R s m args below meth c H locs ls C hP hL hS hk hn
  exact lv_dup C.1 C.2.1 hd (by rw [xv_cat]; exact hv) (kk p e R s m args below meth c H locs ls C hP hL hS hk hn)
theorem x_pop {v : Value} (hd : decode M.2.1 pc = .ok (.pop, 1)) (hv : v.category = 1) (kk : X E M d K N Z (pc + 1) L (st) h k n) : X E M d K N Z pc L (v :: st) h k n := by
  intro p e R s m args below meth c H locs ls C hP hL hS hk hn
  exact lv_pop C.1 C.2.1 hd (by rw [xv_cat]; exact hv) (kk p e R s m args below meth c H locs ls C hP hL hS hk hn)
theorem x_dup_x1 {v w : Value} (hd : decode M.2.1 pc = .ok (.dup_x1, 1)) (hv : v.category = 1) (hw : w.category = 1) (kk : X E M d K N Z (pc + 1) L (v :: w :: v :: st) h k n) : X E M d K N Z pc L (v :: w :: st) h k n := by
  intro p e R s m args below meth c H locs ls C hP hL hS hk hn
  exact lv_dup_x1 C.1 C.2.1 hd (by rw [xv_cat]; exact hv) (by rw [xv_cat]; exact hw) (kk p e R s m args below meth c H locs ls C hP hL hS hk hn)
theorem x_dup_x2 {v w u : Value} (hd : decode M.2.1 pc = .ok (.dup_x2, 1)) (hv : v.category = 1) (hw : w.category = 1) (hu : u.category = 1) (kk : X E M d K N Z (pc + 1) L (v :: w :: u :: v :: st) h k n) : X E M d K N Z pc L (v :: w :: u :: st) h k n := by
  intro p e R s m args below meth c H locs ls C hP hL hS hk hn
  exact lv_dup_x2 C.1 C.2.1 hd (by rw [xv_cat]; exact hv) (by rw [xv_cat]; exact hw) (by rw [xv_cat]; exact hu) (kk p e R s m args below meth c H locs ls C hP hL hS hk hn)
theorem x_dup2 {v w : Value} (hd : decode M.2.1 pc = .ok (.dup2, 1)) (hv : v.category = 1) (hw : w.category = 1) (kk : X E M d K N Z (pc + 1) L (v :: w :: v :: w :: st) h k n) : X E M d K N Z pc L (v :: w :: st) h k n := by
  intro p e R s m args below meth c H locs ls C hP hL hS hk hn
  exact lv_dup2_11 C.1 C.2.1 hd (by rw [xv_cat]; exact hv) (by rw [xv_cat]; exact hw) (kk p e R s m args below meth c H locs ls C hP hL hS hk hn)
theorem x_dup2l {x : Int64} (hd : decode M.2.1 pc = .ok (.dup2, 1)) (kk : X E M d K N Z (pc + 1) L (.long x :: .long x :: st) h k n) : X E M d K N Z pc L (.long x :: st) h k n := by
  intro p e R s m args below meth c H locs ls C hP hL hS hk hn
  exact lv_dup2_2 C.1 C.2.1 hd rfl (kk p e R s m args below meth c H locs ls C hP hL hS hk hn)
theorem x_if_eq {x : Int32} {off : Int} (tgt : Nat) (hd : decode M.2.1 pc = .ok (.ifCond .eq off, 3)) (ht : (pc : Int) + off = (tgt : Int)) (kt : x = 0 → X E M d K N Z tgt L st h k n) (kf : ¬ x = 0 → X E M d K N Z (pc + 3) L st h k n) : X E M d K N Z pc L (.int x :: st) h k n := by
  intro p e R s m args below meth c H locs ls C hP hL hS hk hn
  exact lv_if_eq C.1 C.2.1 hd ht (fun q => kt q p e R s m args below meth c H locs ls C hP hL hS hk hn) (fun q => kf q p e R s m args below meth c H locs ls C hP hL hS hk hn)
theorem x_icmp_eq {x y : Int32} {off : Int} (tgt : Nat) (hd : decode M.2.1 pc = .ok (.if_icmp .eq off, 3)) (ht : (pc : Int) + off = (tgt : Int)) (kt : x = y → X E M d K N Z tgt L st h k n) (kf : ¬ x = y → X E M d K N Z (pc + 3) L st h k n) : X E M d K N Z pc L (.int y :: .int x :: st) h k n := by
  intro p e R s m args below meth c H locs ls C hP hL hS hk hn
  exact lv_icmp_eq C.1 C.2.1 hd ht (fun q => kt q p e R s m args below meth c H locs ls C hP hL hS hk hn) (fun q => kf q p e R s m args below meth c H locs ls C hP hL hS hk hn)
theorem x_if_ne {x : Int32} {off : Int} (tgt : Nat) (hd : decode M.2.1 pc = .ok (.ifCond .ne off, 3)) (ht : (pc : Int) + off = (tgt : Int)) (kt : ¬ x = 0 → X E M d K N Z tgt L st h k n) (kf : x = 0 → X E M d K N Z (pc + 3) L st h k n) : X E M d K N Z pc L (.int x :: st) h k n := by
  intro p e R s m args below meth c H locs ls C hP hL hS hk hn
  exact lv_if_ne C.1 C.2.1 hd ht (fun q => kt q p e R s m args below meth c H locs ls C hP hL hS hk hn) (fun q => kf q p e R s m args below meth c H locs ls C hP hL hS hk hn)
theorem x_icmp_ne {x y : Int32} {off : Int} (tgt : Nat) (hd : decode M.2.1 pc = .ok (.if_icmp .ne off, 3)) (ht : (pc : Int) + off = (tgt : Int)) (kt : ¬ x = y → X E M d K N Z tgt L st h k n) (kf : x = y → X E M d K N Z (pc + 3) L st h k n) : X E M d K N Z pc L (.int y :: .int x :: st) h k n := by
  intro p e R s m args below meth c H locs ls C hP hL hS hk hn
  exact lv_icmp_ne C.1 C.2.1 hd ht (fun q => kt q p e R s m args below meth c H locs ls C hP hL hS hk hn) (fun q => kf q p e R s m args below meth c H locs ls C hP hL hS hk hn)
theorem x_if_lt {x : Int32} {off : Int} (tgt : Nat) (hd : decode M.2.1 pc = .ok (.ifCond .lt off, 3)) (ht : (pc : Int) + off = (tgt : Int)) (kt : x < 0 → X E M d K N Z tgt L st h k n) (kf : ¬ x < 0 → X E M d K N Z (pc + 3) L st h k n) : X E M d K N Z pc L (.int x :: st) h k n := by
  intro p e R s m args below meth c H locs ls C hP hL hS hk hn
  exact lv_if_lt C.1 C.2.1 hd ht (fun q => kt q p e R s m args below meth c H locs ls C hP hL hS hk hn) (fun q => kf q p e R s m args below meth c H locs ls C hP hL hS hk hn)
theorem x_icmp_lt {x y : Int32} {off : Int} (tgt : Nat) (hd : decode M.2.1 pc = .ok (.if_icmp .lt off, 3)) (ht : (pc : Int) + off = (tgt : Int)) (kt : x < y → X E M d K N Z tgt L st h k n) (kf : ¬ x < y → X E M d K N Z (pc + 3) L st h k n) : X E M d K N Z pc L (.int y :: .int x :: st) h k n := by
  intro p e R s m args below meth c H locs ls C hP hL hS hk hn
  exact lv_icmp_lt C.1 C.2.1 hd ht (fun q => kt q p e R s m args below meth c H locs ls C hP hL hS hk hn) (fun q => kf q p e R s m args below meth c H locs ls C hP hL hS hk hn)
theorem x_if_ge {x : Int32} {off : Int} (tgt : Nat) (hd : decode M.2.1 pc = .ok (.ifCond .ge off, 3)) (ht : (pc : Int) + off = (tgt : Int)) (kt : 0 ≤ x → X E M d K N Z tgt L st h k n) (kf : ¬ 0 ≤ x → X E M d K N Z (pc + 3) L st h k n) : X E M d K N Z pc L (.int x :: st) h k n := by
  intro p e R s m args below meth c H locs ls C hP hL hS hk hn
  exact lv_if_ge C.1 C.2.1 hd ht (fun q => kt q p e R s m args below meth c H locs ls C hP hL hS hk hn) (fun q => kf q p e R s m args below meth c H locs ls C hP hL hS hk hn)
theorem x_icmp_ge {x y : Int32} {off : Int} (tgt : Nat) (hd : decode M.2.1 pc = .ok (.if_icmp .ge off, 3)) (ht : (pc : Int) + off = (tgt : Int)) (kt : y ≤ x → X E M d K N Z tgt L st h k n) (kf : ¬ y ≤ x → X E M d K N Z (pc + 3) L st h k n) : X E M d K N Z pc L (.int y :: .int x :: st) h k n := by
  intro p e R s m args below meth c H locs ls C hP hL hS hk hn
  exact lv_icmp_ge C.1 C.2.1 hd ht (fun q => kt q p e R s m args below meth c H locs ls C hP hL hS hk hn) (fun q => kf q p e R s m args below meth c H locs ls C hP hL hS hk hn)
theorem x_if_gt {x : Int32} {off : Int} (tgt : Nat) (hd : decode M.2.1 pc = .ok (.ifCond .gt off, 3)) (ht : (pc : Int) + off = (tgt : Int)) (kt : 0 < x → X E M d K N Z tgt L st h k n) (kf : ¬ 0 < x → X E M d K N Z (pc + 3) L st h k n) : X E M d K N Z pc L (.int x :: st) h k n := by
  intro p e R s m args below meth c H locs ls C hP hL hS hk hn
  exact lv_if_gt C.1 C.2.1 hd ht (fun q => kt q p e R s m args below meth c H locs ls C hP hL hS hk hn) (fun q => kf q p e R s m args below meth c H locs ls C hP hL hS hk hn)
theorem x_icmp_gt {x y : Int32} {off : Int} (tgt : Nat) (hd : decode M.2.1 pc = .ok (.if_icmp .gt off, 3)) (ht : (pc : Int) + off = (tgt : Int)) (kt : y < x → X E M d K N Z tgt L st h k n) (kf : ¬ y < x → X E M d K N Z (pc + 3) L st h k n) : X E M d K N Z pc L (.int y :: .int x :: st) h k n := by
  intro p e R s m args below meth c H locs ls C hP hL hS hk hn
  exact lv_icmp_gt C.1 C.2.1 hd ht (fun q => kt q p e R s m args below meth c H locs ls C hP hL hS hk hn) (fun q => kf q p e R s m args below meth c H locs ls C hP hL hS hk hn)
theorem x_if_le {x : Int32} {off : Int} (tgt : Nat) (hd : decode M.2.1 pc = .ok (.ifCond .le off, 3)) (ht : (pc : Int) + off = (tgt : Int)) (kt : x ≤ 0 → X E M d K N Z tgt L st h k n) (kf : ¬ x ≤ 0 → X E M d K N Z (pc + 3) L st h k n) : X E M d K N Z pc L (.int x :: st) h k n := by
  intro p e R s m args below meth c H locs ls C hP hL hS hk hn
  exact lv_if_le C.1 C.2.1 hd ht (fun q => kt q p e R s m args below meth c H locs ls C hP hL hS hk hn) (fun q => kf q p e R s m args below meth c H locs ls C hP hL hS hk hn)
theorem x_icmp_le {x y : Int32} {off : Int} (tgt : Nat) (hd : decode M.2.1 pc = .ok (.if_icmp .le off, 3)) (ht : (pc : Int) + off = (tgt : Int)) (kt : x ≤ y → X E M d K N Z tgt L st h k n) (kf : ¬ x ≤ y → X E M d K N Z (pc + 3) L st h k n) : X E M d K N Z pc L (.int y :: .int x :: st) h k n := by
  intro p e R s m args below meth c H locs ls C hP hL hS hk hn
  exact lv_icmp_le C.1 C.2.1 hd ht (fun q => kt q p e R s m args below meth c H locs ls C hP hL hS hk hn) (fun q => kf q p e R s m args below meth c H locs ls C hP hL hS hk hn)
theorem x_goto {off : Int} (tgt : Nat) (hd : decode M.2.1 pc = .ok (.goto off, 3)) (ht : (pc : Int) + off = (tgt : Int)) (kk : X E M d K N Z tgt L st h k n) : X E M d K N Z pc L st h k n := by
  intro p e R s m args below meth c H locs ls C hP hL hS hk hn
  exact lv_goto C.1 C.2.1 hd ht (kk p e R s m args below meth c H locs ls C hP hL hS hk hn)
theorem x_ifnull {off : Int} {v : Value} (tgt : Nat) (hd : decode M.2.1 pc = .ok (.ifnull off, 3)) (hv : xrf v = true) (ht : (pc : Int) + off = (tgt : Int)) (kt : v = .null → X E M d K N Z tgt L st h k n) (kf : ¬ v = .null → X E M d K N Z (pc + 3) L st h k n) : X E M d K N Z pc L (v :: st) h k n := by
  intro p e R s m args below meth c H locs ls C hP hL hS hk hn
  cases v with
  | ref a => exact lv_ifnull C.1 C.2.1 hd (kf (fun q => by cases q) p e R s m args below meth c H locs ls C hP hL hS hk hn)
  | retAddr a => exact lv_ifnull C.1 C.2.1 hd (kf (fun q => by cases q) p e R s m args below meth c H locs ls C hP hL hS hk hn)
  | null => exact lv_ifnullN C.1 C.2.1 hd ht (kt rfl p e R s m args below meth c H locs ls C hP hL hS hk hn)
  | _ => cases hv
theorem x_ifnonnull {off : Int} {v : Value} (tgt : Nat) (hd : decode M.2.1 pc = .ok (.ifnonnull off, 3)) (hv : xrf v = true) (ht : (pc : Int) + off = (tgt : Int)) (kt : ¬ v = .null → X E M d K N Z tgt L st h k n) (kf : v = .null → X E M d K N Z (pc + 3) L st h k n) : X E M d K N Z pc L (v :: st) h k n := by
  intro p e R s m args below meth c H locs ls C hP hL hS hk hn
  cases v with
  | ref a => exact lv_ifnonnull C.1 C.2.1 hd ht (kt (fun q => by cases q) p e R s m args below meth c H locs ls C hP hL hS hk hn)
  | retAddr a => exact lv_ifnonnull C.1 C.2.1 hd ht (kt (fun q => by cases q) p e R s m args below meth c H locs ls C hP hL hS hk hn)
  | null => exact lv_ifnonnullN C.1 C.2.1 hd (kf rfl p e R s m args below meth c H locs ls C hP hL hS hk hn)
  | _ => cases hv
theorem x_tableOut {dflt lo hi : Int} {offs : Array Int} {len : Nat} {x : Int32} (tgt : Nat) (hd : decode M.2.1 pc = .ok (.tableswitch dflt lo hi offs, len)) (hq : x.toInt < lo ∨ hi < x.toInt) (ht : (pc : Int) + dflt = (tgt : Int)) (kk : X E M d K N Z tgt L st h k n) : X E M d K N Z pc L (.int x :: st) h k n := by
  intro p e R s m args below meth c H locs ls C hP hL hS hk hn
  exact lv_tableOut C.1 C.2.1 hd hq ht (kk p e R s m args below meth c H locs ls C hP hL hS hk hn)
theorem x_tableIn {dflt lo hi off : Int} {offs : Array Int} {len : Nat} {x : Int32} (tgt : Nat) (hd : decode M.2.1 pc = .ok (.tableswitch dflt lo hi offs, len)) (h1 : ¬ x.toInt < lo) (h2 : ¬ hi < x.toInt) (ho : offs[(x.toInt - lo).toNat]? = some off) (ht : (pc : Int) + off = (tgt : Int)) (kk : X E M d K N Z tgt L st h k n) : X E M d K N Z pc L (.int x :: st) h k n := by
  intro p e R s m args below meth c H locs ls C hP hL hS hk hn
  exact lv_tableIn C.1 C.2.1 hd h1 h2 ho ht (kk p e R s m args below meth c H locs ls C hP hL hS hk hn)
theorem x_lookup {dflt off : Int} {ps : Array (Int × Int)} {len : Nat} {x : Int32} (tgt : Nat) (hd : decode M.2.1 pc = .ok (.lookupswitch dflt ps, len)) (hp : (ps.toList.zip (ps.toList.drop 1)).all (fun (a, next) => a.1 < next.1) = true) (ho : Op.lookupswitch.offset ps.toList dflt x.toInt = off) (ht : (pc : Int) + off = (tgt : Int)) (kk : X E M d K N Z tgt L st h k n) : X E M d K N Z pc L (.int x :: st) h k n := by
  intro p e R s m args below meth c H locs ls C hP hL hS hk hn
  exact lv_lookup C.1 C.2.1 hd hp ho ht (kk p e R s m args below meth c H locs ls C hP hL hS hk hn)
theorem x_ldc {i : Nat} {v : Int32} (hd : decode M.2.1 pc = .ok (.ldc i, 2)) (hw : Cond.constant M.1.cls i v ∈ GW) (kk : X E M d K N Z (pc + 2) L (.int v :: st) h k n) : X E M d K N Z pc L st h k n := by
  intro p e R s m args below meth c H locs ls C hP hL hS hk hn
  exact lv_ldc C.1 C.2.1 C.own (C.words _ hw) hd (kk p e R s m args below meth c H locs ls C hP hL hS hk hn)
theorem x_ldc2 {i : Nat} {v : Int64} (hd : decode M.2.1 pc = .ok (.ldc2_w i, 3)) (hw : Cond.constantLong M.1.cls i v ∈ GW) (kk : X E M d K N Z (pc + 3) L (.long v :: st) h k n) : X E M d K N Z pc L st h k n := by
  intro p e R s m args below meth c H locs ls C hP hL hS hk hn
  exact lv_ldc2 C.1 C.2.1 C.own (C.words _ hw) hd (kk p e R s m args below meth c H locs ls C hP hL hS hk hn)
theorem x_ireturn {x : Int32} (hd : decode M.2.1 pc = .ok (.ireturn, 1)) (hr : M.2.2.2 = some .int) (kk : post (some (.int x)) h) : X E M d K N (xZ E K N post) pc L [.int x] h k n := by
  intro p e R s m args below meth c H locs ls C hP hL hS hk hn
  refine W.widen hk hn ?_
  exact W.iret C.1 C.2.1 (C.ret.trans hr) (fun t ht _ => ⟨⟨_, h, rfl, kk, by rw [ht]; exact hP⟩, hS.F ht⟩) hS.2.2 hd C.locks
theorem x_zreturn {x : Int32} (hd : decode M.2.1 pc = .ok (.ireturn, 1)) (hr : M.2.2.2 = some .boolean) (hx : narrow .boolean (.int x) = .int x) (kk : post (some (.int x)) h) : X E M d K N (xZ E K N post) pc L [.int x] h k n := by
  intro p e R s m args below meth c H locs ls C hP hL hS hk hn
  refine W.widen hk hn ?_
  exact W.zret C.1 C.2.1 (C.ret.trans hr) hx (fun t ht _ => ⟨⟨_, h, rfl, kk, by rw [ht]; exact hP⟩, hS.F ht⟩) hS.2.2 hd C.locks
theorem x_lreturn {x : Int64} (hd : decode M.2.1 pc = .ok (.lreturn, 1)) (hr : M.2.2.2 = some .long) (kk : post (some (.long x)) h) : X E M d K N (xZ E K N post) pc L [.long x] h k n := by
  intro p e R s m args below meth c H locs ls C hP hL hS hk hn
  refine W.widen hk hn ?_
  exact W.lret C.1 C.2.1 (C.ret.trans hr) (fun t ht _ => ⟨⟨_, h, rfl, kk, by rw [ht]; exact hP⟩, hS.F ht⟩) hS.2.2 hd C.locks
theorem x_return (hd : decode M.2.1 pc = .ok (.return_, 1)) (hr : M.2.2.2 = none) (kk : post (none) h) : X E M d K N (xZ E K N post) pc L [] h k n := by
  intro p e R s m args below meth c H locs ls C hP hL hS hk hn
  refine W.widen hk hn ?_
  exact W.vret C.1 C.2.1 (C.ret.trans hr) (fun t ht _ => ⟨⟨_, h, rfl, kk, by rw [ht]; exact hP⟩, hS.F ht⟩) hS.2.2 hd C.locks
theorem x_areturn {v : Value} {rt : FieldType} (hd : decode M.2.1 pc = .ok (.areturn, 1)) (hr : M.2.2.2 = some rt) (hrt : (∃ n, rt = .object n) ∨ ∃ t, rt = .array t) (hv : xrf v = true) (kk : post (some v) h) : X E M d K N (xZ E K N post) pc L [v] h k n := by
  intro p e R s m args below meth c H locs ls C hP hL hS hk hn
  refine W.widen hk hn ?_
  exact W.aret C.1 C.2.1 (C.ret.trans hr) hrt (xrf_or E hv) (fun t ht _ => ⟨⟨_, h, rfl, kk, by rw [ht]; exact hP⟩, hS.F ht⟩) hS.2.2 hd C.locks
end XR
