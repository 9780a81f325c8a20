/-- what all contracts here share: where the classes lie, the array classes (int[], long[], int[][], Sheet[]), where the String constants lie -/
abbrev KG : Type := va_G × (ClassId × ClassId × ClassId × ClassId) × (Nat → Nat) × (Nat → Nat)
abbrev kI (g : KG) : ClassId := g.2.1.1
abbrev kL (g : KG) : ClassId := g.2.1.2.1
abbrev kO (g : KG) : ClassId := g.2.1.2.2.1
abbrev kS (g : KG) : ClassId := g.2.1.2.2.2
abbrev kty (g : KG) : List (ClassId × FieldType) := [(kI g, .int), (kL g, .long), (kO g, .array .int), (kS g, .object RX1)]
def kLen : List Nat := [4, 3, 2, 4, 4, 3, 4, 9, 3, 8, 5, 6]
def kByt : List (List Int32) := [[119, 105, 110, 100], [100, 117, 101], [97, 116], [110, 111, 115, 101], [99, 111, 108, 100], [100, 105, 100], [99, 111, 111, 107], [98, 97, 114, 114, 105, 115, 116, 101, 114], [100, 111, 103], [112, 101, 114, 102, 117, 109, 101, 114], [104, 111, 117, 110, 100], [112, 101, 114, 115, 111, 110]]
def kStr : List (Nat × String) := [(38, "wind"), (47, "due"), (84, "at"), (90, "nose"), (95, "cold"), (100, "did"), (110, "cook"), (112, "barrister"), (114, "dog"), (116, "perfumer"), (118, "hound"), (120, "person")]
/-- what holds of the machine around a call: classes, nest links, the String constants; A: what may change -/
def kE (g : KG) (A : Nat → Prop) (U : State) : Prop :=
  va_K g.1 vwCl (kty g) U ∧ va_Nw (.methodLinkNest RX0 79 yX3_isUnder "NoseJury") U ∧ va_Nw (.methodLinkNest RX0 99 yX3_faded "NoseJury") U ∧ va_Z "java/lang/String" "COMPACT_STRINGS" "Z" (.int 1) A U U.heap ∧ vk_S 12 kLen kByt g.2.2.1 g.2.2.2 A U U.heap ∧ (∀ (i : Nat) (q : Nat × String), kStr[i]? = some q → vk_R RX2 q.1 q.2 (g.2.2.1 i) U) ∧ va_Zq "jdk/internal/util/Preconditions" "SIOOBE_FORMATTER" "Ljava/util/function/BiFunction;" A U U.heap
theorem kE.same {g : KG} {A : Nat → Prop} {u U : State} (hv : U.vm = u.vm) (hh : U.heap = u.heap) (h : kE g A u) : kE g A U := by
  obtain ⟨h1, h2, h3, h4, h5, h6, h7⟩ := h
  have al : u.vm.Alike U.vm := by rw [hv]; exact Vm.Alike.refl _
  exact ⟨va_K.moved al h1, va_Nw.same rfl hv.symm h2, va_Nw.same rfl hv.symm h3, by rw [hh]; exact va_Z.moved al h4, by rw [hh]; exact vk_S.moved al h5, fun i q hq => vk_R.same hv (h6 i q hq), by rw [hh]; exact va_Zq.moved al h7⟩
theorem kE.call {g : KG} {A B : Nat → Prop} {s U : State} {H : Heap} {locs : List Loc} (h : kE g A s) (hW : s.WarmedH U.vm) (hh : U.heap = H) (hS : va_S A s.heap H locs) (hB : ∀ q, B q → A q) : kE g B U := by
  obtain ⟨h1, h2, h3, h4, h5, h6, h7⟩ := h
  have hq : ∀ a : Nat, a < s.heap.size → ¬ A a → U.heap[a]? = s.heap[a]? := fun a ha hn => by rw [hh]; exact hS.2.1 a ha hn
  exact ⟨va_K.moved hW.alike h1, va_Nw.warmM hW h2, va_Nw.warmM hW h3, ((va_Z.moved hW.alike h4).kept hq).narrow hB, ((vk_S.moved hW.alike h5).kept hq).narrow hB, fun i q hq => vk_R.warm hW (h6 i q hq), ((va_Zq.moved hW.alike h7).kept hq).narrow hB⟩
abbrev KT : Type := va_W → List (Nat × Value) → Nat → List Value → Prop
/-- the walk's judgement: at pc with these locals and this stack, over any heap that holds the world ws, the machine comes to Q -/
def KJ (p : Program) (l : Launch) (e : Env) (R : Room) (s : State) (m : MethodId) (args : Array Value) (below : List Frame) (meth : Method) (c : Code) (g : KG) (A : Nat → Prop) (nL cs sl : Nat) (Q : State → Prop) : KT := fun ws lv pc st =>
  ∀ (H : Heap) (locs : List Loc) (ls : Array Slot), va_P g.1 vwCl ws H → va_D A ws → va_S A s.heap H locs → lv_has ls nL lv → W p l e R s m args below meth c H locs cs sl Q (F0 m pc ls st)
def KO (l : Launch) (R : Room) (cc : ByteArray) (own : String) (nL : Nat) (g : KG) (J : KT) : Prop :=
  ∃ (p : Program) (e : Env) (s : State) (m : MethodId) (args : Array Value) (below : List Frame) (meth : Method) (c : Code) (A : Nat → Prop) (cs sl : Nat) (Q : State → Prop), CallFix p m c cc nL s args wsL_law own ∧ kE g A s ∧ (∀ q, s.heap.size ≤ q → A q) ∧ cs ≤ R.cells ∧ sl ≤ R.slots ∧ J = KJ p l e R s m args below meth c g A nL cs sl Q
theorem kGood : wsL_law.all goodWord = true := by decide +kernel
theorem kGoodIn {y : MethodName} {cc : ByteArray} {n : Nat} {ret : Option FieldType} (h : Cond.code y cc n ret ∈ wsL_law) : GoodIn wsL_law (.code y cc n ret :: wsL_law) := fun w hw => by
  have hm : w ∈ wsL_law := (List.mem_cons.mp hw).elim (fun e => by rw [e]; exact h) id
  exact ⟨hm, good_of_word (List.all_eq_true.mp kGood w hm)⟩
section KR
variable {l : Launch} {R : Room} {cc : ByteArray} {own : String} {nL : Nat} {g : KG} {J : KT} {ws : va_W} {lv : List (Nat × Value)} {pc : Nat} {st : List Value}
theorem k_iconst (hJ : KO l R cc own nL g J) {n : Int} {v : Int32} (hd : decode cc pc = .ok (.iconst n, 1)) (hv : Int32.ofInt n = v) (k : J ws lv (pc + 1) (.int v :: st)) : J ws lv pc (st) := by
  obtain ⟨p, e, s, m, args, below, meth, c, A, cs, sl, Q, C, hE, hA, hcs, hsl, rfl⟩ := hJ
  exact fun H locs ls hP hD hS hl => lv_iconst C.1 C.2.1 hd hv (k H locs ls hP hD hS hl)
theorem k_bipush (hJ : KO l R cc own nL g J) {n : Int} {v : Int32} (hd : decode cc pc = .ok (.bipush n, 2)) (hv : (Int8.ofInt n).toInt32 = v) (k : J ws lv (pc + 2) (.int v :: st)) : J ws lv pc (st) := by
  obtain ⟨p, e, s, m, args, below, meth, c, A, cs, sl, Q, C, hE, hA, hcs, hsl, rfl⟩ := hJ
  exact fun H locs ls hP hD hS hl => lv_bipush C.1 C.2.1 hd hv (k H locs ls hP hD hS hl)
theorem k_sipush (hJ : KO l R cc own nL g J) {n : Int} {v : Int32} (hd : decode cc pc = .ok (.sipush n, 3)) (hv : (Int16.ofInt n).toInt32 = v) (k : J ws lv (pc + 3) (.int v :: st)) : J ws lv pc (st) := by
  obtain ⟨p, e, s, m, args, below, meth, c, A, cs, sl, Q, C, hE, hA, hcs, hsl, rfl⟩ := hJ
  exact fun H locs ls hP hD hS hl => lv_sipush C.1 C.2.1 hd hv (k H locs ls hP hD hS hl)
theorem k_lconst (hJ : KO l R cc own nL g J) {n : Fin 2} {v : Int64} (hd : decode cc pc = .ok (.lconst n, 1)) (hv : Int64.ofNat (n : Nat) = v) (k : J ws lv (pc + 1) (.long v :: st)) : J ws lv pc (st) := by
  obtain ⟨p, e, s, m, args, below, meth, c, A, cs, sl, Q, C, hE, hA, hcs, hsl, rfl⟩ := hJ
  exact fun H locs ls hP hD hS hl => lv_lconst C.1 C.2.1 hd hv (k H locs ls hP hD hS hl)
theorem k_ldc (hJ : KO l R cc own nL g J) {index : Nat} {v : Int32} (hd : decode cc pc = .ok (.ldc index, 2)) (hw : Cond.constant own index v ∈ wsL_law) (k : J ws lv (pc + 2) (.int v :: st)) : J ws lv pc (st) := by
  obtain ⟨p, e, s, m, args, below, meth, c, A, cs, sl, Q, C, hE, hA, hcs, hsl, rfl⟩ := hJ
  exact fun H locs ls hP hD hS hl => lv_ldc C.1 C.2.1 C.2.2.2.1 (C.2.2.2.2 _ hw) hd (k H locs ls hP hD hS hl)
theorem k_ldcw (hJ : KO l R cc own nL g J) {index : Nat} {v : Int32} (hd : decode cc pc = .ok (.ldc_w index, 3)) (hw : Cond.constant own index v ∈ wsL_law) (k : J ws lv (pc + 3) (.int v :: st)) : J ws lv pc (st) := by
  obtain ⟨p, e, s, m, args, below, meth, c, A, cs, sl, Q, C, hE, hA, hcs, hsl, rfl⟩ := hJ
  exact fun H locs ls hP hD hS hl => lv_ldcw C.1 C.2.1 C.2.2.2.1 (C.2.2.2.2 _ hw) hd (k H locs ls hP hD hS hl)
theorem k_ldc2 (hJ : KO l R cc own nL g J) {index : Nat} {v : Int64} (hd : decode cc pc = .ok (.ldc2_w index, 3)) (hw : Cond.constantLong own index v ∈ wsL_law) (k : J ws lv (pc + 3) (.long v :: st)) : J ws lv pc (st) := by
  obtain ⟨p, e, s, m, args, below, meth, c, A, cs, sl, Q, C, hE, hA, hcs, hsl, rfl⟩ := hJ
  exact fun H locs ls hP hD hS hl => lv_ldc2 C.1 C.2.1 C.2.2.2.1 (C.2.2.2.2 _ hw) hd (k H locs ls hP hD hS hl)
theorem k_iload_n (hJ : KO l R cc own nL g J) {k : Fin 4} {x : Int32} (hd : decode cc pc = .ok (.iload_n k, 1)) (j : Nat) (hj : lv[j]? = some ((k : Nat), .int x)) (k : J ws lv (pc + 1) (.int x :: st)) : J ws lv pc (st) := by
  obtain ⟨p, e, s, m, args, below, meth, c, A, cs, sl, Q, C, hE, hA, hcs, hsl, rfl⟩ := hJ
  exact fun H locs ls hP hD hS hl => lv_iload_n C.1 C.2.1 hd rfl (lv_at hl j hj) (k H locs ls hP hD hS hl)
theorem k_iload (hJ : KO l R cc own nL g J) {i : Nat} {x : Int32} (hd : decode cc pc = .ok (.iload i, 2)) (j : Nat) (hj : lv[j]? = some (i, .int x)) (k : J ws lv (pc + 2) (.int x :: st)) : J ws lv pc (st) := by
  obtain ⟨p, e, s, m, args, below, meth, c, A, cs, sl, Q, C, hE, hA, hcs, hsl, rfl⟩ := hJ
  exact fun H locs ls hP hD hS hl => lv_iload C.1 C.2.1 hd (lv_at hl j hj) (k H locs ls hP hD hS hl)
theorem k_lload_n (hJ : KO l R cc own nL g J) {k : Fin 4} {x : Int64} (hd : decode cc pc = .ok (.lload_n k, 1)) (j : Nat) (hj : lv[j]? = some ((k : Nat), .long x)) (k : J ws lv (pc + 1) (.long x :: st)) : J ws lv pc (st) := by
  obtain ⟨p, e, s, m, args, below, meth, c, A, cs, sl, Q, C, hE, hA, hcs, hsl, rfl⟩ := hJ
  exact fun H locs ls hP hD hS hl => lv_lload_n C.1 C.2.1 hd rfl (lv_at hl j hj) (k H locs ls hP hD hS hl)
theorem k_lload (hJ : KO l R cc own nL g J) {i : Nat} {x : Int64} (hd : decode cc pc = .ok (.lload i, 2)) (j : Nat) (hj : lv[j]? = some (i, .long x)) (k : J ws lv (pc + 2) (.long x :: st)) : J ws lv pc (st) := by
  obtain ⟨p, e, s, m, args, below, meth, c, A, cs, sl, Q, C, hE, hA, hcs, hsl, rfl⟩ := hJ
  exact fun H locs ls hP hD hS hl => lv_lload C.1 C.2.1 hd (lv_at hl j hj) (k H locs ls hP hD hS hl)
theorem k_aload_n (hJ : KO l R cc own nL g J) {k : Fin 4} {x : Nat} (hd : decode cc pc = .ok (.aload_n k, 1)) (j : Nat) (hj : lv[j]? = some ((k : Nat), .ref x)) (k : J ws lv (pc + 1) (.ref x :: st)) : J ws lv pc (st) := by
  obtain ⟨p, e, s, m, args, below, meth, c, A, cs, sl, Q, C, hE, hA, hcs, hsl, rfl⟩ := hJ
  exact fun H locs ls hP hD hS hl => lv_aload_n C.1 C.2.1 hd rfl (lv_at hl j hj) (k H locs ls hP hD hS hl)
theorem k_aload (hJ : KO l R cc own nL g J) {i : Nat} {x : Nat} (hd : decode cc pc = .ok (.aload i, 2)) (j : Nat) (hj : lv[j]? = some (i, .ref x)) (k : J ws lv (pc + 2) (.ref x :: st)) : J ws lv pc (st) := by
  obtain ⟨p, e, s, m, args, below, meth, c, A, cs, sl, Q, C, hE, hA, hcs, hsl, rfl⟩ := hJ
  exact fun H locs ls hP hD hS hl => lv_aload C.1 C.2.1 hd (lv_at hl j hj) (k H locs ls hP hD hS hl)
theorem k_istore_n (hJ : KO l R cc own nL g J) {k : Fin 4} {x : Int32} (hd : decode cc pc = .ok (.istore_n k, 1)) (hn : (k : Nat) < nL) (ks : List Nat) {lv1 : List (Nat × Value)} (hp : lv_pick (((k : Nat), Value.int x) :: lv.filter (fun q => !(q.1 == (k : Nat)) && !(q.1 + 1 == (k : Nat) && q.2.category == 2))) ks = lv1) (k1 : J ws lv1 (pc + 1) st) : J ws lv pc (.int x :: st) := by
  obtain ⟨p, e, s, m, args, below, meth, c, A, cs, sl, Q, C, hE, hA, hcs, hsl, rfl⟩ := hJ
  exact fun H locs ls hP hD hS hl => lv_istore_n C.1 C.2.1 hd rfl hl hn rfl (fun ls2 hl2 => k1 H locs ls2 hP hD hS (lv_sub hl2 ks hp))
theorem k_istore (hJ : KO l R cc own nL g J) {i : Nat} {x : Int32} (hd : decode cc pc = .ok (.istore i, 2)) (hn : i < nL) (ks : List Nat) {lv1 : List (Nat × Value)} (hp : lv_pick ((i, Value.int x) :: lv.filter (fun q => !(q.1 == i) && !(q.1 + 1 == i && q.2.category == 2))) ks = lv1) (k1 : J ws lv1 (pc + 2) st) : J ws lv pc (.int x :: st) := by
  obtain ⟨p, e, s, m, args, below, meth, c, A, cs, sl, Q, C, hE, hA, hcs, hsl, rfl⟩ := hJ
  exact fun H locs ls hP hD hS hl => lv_istore C.1 C.2.1 hd hl hn rfl (fun ls2 hl2 => k1 H locs ls2 hP hD hS (lv_sub hl2 ks hp))
theorem k_lstore_n (hJ : KO l R cc own nL g J) {k : Fin 4} {x : Int64} (hd : decode cc pc = .ok (.lstore_n k, 1)) (hn : (k : Nat) + 1 < nL) (ks : List Nat) {lv1 : List (Nat × Value)} (hp : lv_pick (((k : Nat), Value.long x) :: lv.filter (fun q => !(q.1 == (k : Nat)) && (!(q.1 == (k : Nat) + 1) && !(q.1 + 1 == (k : Nat) && q.2.category == 2)))) ks = lv1) (k1 : J ws lv1 (pc + 1) st) : J ws lv pc (.long x :: st) := by
  obtain ⟨p, e, s, m, args, below, meth, c, A, cs, sl, Q, C, hE, hA, hcs, hsl, rfl⟩ := hJ
  exact fun H locs ls hP hD hS hl => lv_lstore_n C.1 C.2.1 hd rfl hl hn rfl (fun ls2 hl2 => k1 H locs ls2 hP hD hS (lv_sub hl2 ks hp))
theorem k_lstore (hJ : KO l R cc own nL g J) {i : Nat} {x : Int64} (hd : decode cc pc = .ok (.lstore i, 2)) (hn : i + 1 < nL) (ks : List Nat) {lv1 : List (Nat × Value)} (hp : lv_pick ((i, Value.long x) :: lv.filter (fun q => !(q.1 == i) && (!(q.1 == i + 1) && !(q.1 + 1 == i && q.2.category == 2)))) ks = lv1) (k1 : J ws lv1 (pc + 2) st) : J ws lv pc (.long x :: st) := by
  obtain ⟨p, e, s, m, args, below, meth, c, A, cs, sl, Q, C, hE, hA, hcs, hsl, rfl⟩ := hJ
  exact fun H locs ls hP hD hS hl => lv_lstore C.1 C.2.1 hd hl hn rfl (fun ls2 hl2 => k1 H locs ls2 hP hD hS (lv_sub hl2 ks hp))
theorem k_astore_n (hJ : KO l R cc own nL g J) {k : Fin 4} {x : Nat} (hd : decode cc pc = .ok (.astore_n k, 1)) (hn : (k : Nat) < nL) (ks : List Nat) {lv1 : List (Nat × Value)} (hp : lv_pick (((k : Nat), Value.ref x) :: lv.filter (fun q => !(q.1 == (k : Nat)) && !(q.1 + 1 == (k : Nat) && q.2.category == 2))) ks = lv1) (k1 : J ws lv1 (pc + 1) st) : J ws lv pc (.ref x :: st) := by
  obtain ⟨p, e, s, m, args, below, meth, c, A, cs, sl, Q, C, hE, hA, hcs, hsl, rfl⟩ := hJ
  exact fun H locs ls hP hD hS hl => lv_astore_n C.1 C.2.1 hd rfl hl hn rfl (fun ls2 hl2 => k1 H locs ls2 hP hD hS (lv_sub hl2 ks hp))
theorem k_astore (hJ : KO l R cc own nL g J) {i : Nat} {x : Nat} (hd : decode cc pc = .ok (.astore i, 2)) (hn : i < nL) (ks : List Nat) {lv1 : List (Nat × Value)} (hp : lv_pick ((i, Value.ref x) :: lv.filter (fun q => !(q.1 == i) && !(q.1 + 1 == i && q.2.category == 2))) ks = lv1) (k1 : J ws lv1 (pc + 2) st) : J ws lv pc (.ref x :: st) := by
  obtain ⟨p, e, s, m, args, below, meth, c, A, cs, sl, Q, C, hE, hA, hcs, hsl, rfl⟩ := hJ
  exact fun H locs ls hP hD hS hl => lv_astore C.1 C.2.1 hd hl hn rfl (fun ls2 hl2 => k1 H locs ls2 hP hD hS (lv_sub hl2 ks hp))
theorem k_iinc (hJ : KO l R cc own nL g J) {i : Nat} {n : Int} {x v : Int32} (hd : decode cc pc = .ok (.iinc i n, 3)) (j : Nat) (hj : lv[j]? = some (i, .int x)) (hv : x + Int32.ofInt n = v) (hn : i < nL) (ks : List Nat) {lv1 : List (Nat × Value)} (hp : lv_pick ((i, Value.int v) :: lv.filter (fun q => !(q.1 == i) && !(q.1 + 1 == i && q.2.category == 2))) ks = lv1) (k1 : J ws lv1 (pc + 3) st) : J ws lv pc st := by
  obtain ⟨p, e, s, m, args, below, meth, c, A, cs, sl, Q, C, hE, hA, hcs, hsl, rfl⟩ := hJ
  exact fun H locs ls hP hD hS hl => lv_iinc C.1 C.2.1 hd hl hj hv hn rfl (fun ls2 hl2 => k1 H locs ls2 hP hD hS (lv_sub hl2 ks hp))
theorem k_lv (hJ : KO l R cc own nL g J) (ks : List Nat) {lv1 : List (Nat × Value)} (hp : lv_pick lv ks = lv1) (k1 : J ws lv1 pc st) : J ws lv pc st := by
  obtain ⟨p, e, s, m, args, below, meth, c, A, cs, sl, Q, C, hE, hA, hcs, hsl, rfl⟩ := hJ
  exact fun H locs ls hP hD hS hl => k1 H locs ls hP hD hS (lv_sub hl ks hp)
theorem k_iadd (hJ : KO l R cc own nL g J) {x y : Int32} (hd : decode cc pc = .ok (.iadd, 1)) (k : J ws lv (pc + 1) (.int (x + y) :: st)) : J ws lv pc (.int y :: .int x :: st) := by
  obtain ⟨p, e, s, m, args, below, meth, c, A, cs, sl, Q, C, hE, hA, hcs, hsl, rfl⟩ := hJ
  exact fun H locs ls hP hD hS hl => lv_iadd C.1 C.2.1 hd (k H locs ls hP hD hS hl)
theorem k_isub (hJ : KO l R cc own nL g J) {x y : Int32} (hd : decode cc pc = .ok (.isub, 1)) (k : J ws lv (pc + 1) (.int (x - y) :: st)) : J ws lv pc (.int y :: .int x :: st) := by
  obtain ⟨p, e, s, m, args, below, meth, c, A, cs, sl, Q, C, hE, hA, hcs, hsl, rfl⟩ := hJ
  exact fun H locs ls hP hD hS hl => lv_isub C.1 C.2.1 hd (k H locs ls hP hD hS hl)
theorem k_imul (hJ : KO l R cc own nL g J) {x y : Int32} (hd : decode cc pc = .ok (.imul, 1)) (k : J ws lv (pc + 1) (.int (x * y) :: st)) : J ws lv pc (.int y :: .int x :: st) := by
  obtain ⟨p, e, s, m, args, below, meth, c, A, cs, sl, Q, C, hE, hA, hcs, hsl, rfl⟩ := hJ
  exact fun H locs ls hP hD hS hl => lv_imul C.1 C.2.1 hd (k H locs ls hP hD hS hl)
theorem k_iand (hJ : KO l R cc own nL g J) {x y : Int32} (hd : decode cc pc = .ok (.iand, 1)) (k : J ws lv (pc + 1) (.int (x &&& y) :: st)) : J ws lv pc (.int y :: .int x :: st) := by
  obtain ⟨p, e, s, m, args, below, meth, c, A, cs, sl, Q, C, hE, hA, hcs, hsl, rfl⟩ := hJ
  exact fun H locs ls hP hD hS hl => lv_iand C.1 C.2.1 hd (k H locs ls hP hD hS hl)
theorem k_ior (hJ : KO l R cc own nL g J) {x y : Int32} (hd : decode cc pc = .ok (.ior, 1)) (k : J ws lv (pc + 1) (.int (x ||| y) :: st)) : J ws lv pc (.int y :: .int x :: st) := by
  obtain ⟨p, e, s, m, args, below, meth, c, A, cs, sl, Q, C, hE, hA, hcs, hsl, rfl⟩ := hJ
  exact fun H locs ls hP hD hS hl => lv_ior C.1 C.2.1 hd (k H locs ls hP hD hS hl)
theorem k_ishl (hJ : KO l R cc own nL g J) {x y : Int32} (hd : decode cc pc = .ok (.ishl, 1)) (k : J ws lv (pc + 1) (.int (x <<< (y &&& 31)) :: st)) : J ws lv pc (.int y :: .int x :: st) := by
  obtain ⟨p, e, s, m, args, below, meth, c, A, cs, sl, Q, C, hE, hA, hcs, hsl, rfl⟩ := hJ
  exact fun H locs ls hP hD hS hl => lv_ishl C.1 C.2.1 hd (k H locs ls hP hD hS hl)
theorem k_ishr (hJ : KO l R cc own nL g J) {x y : Int32} (hd : decode cc pc = .ok (.ishr, 1)) (k : J ws lv (pc + 1) (.int (x >>> (y &&& 31)) :: st)) : J ws lv pc (.int y :: .int x :: st) := by
  obtain ⟨p, e, s, m, args, below, meth, c, A, cs, sl, Q, C, hE, hA, hcs, hsl, rfl⟩ := hJ
  exact fun H locs ls hP hD hS hl => lv_ishr C.1 C.2.1 hd (k H locs ls hP hD hS hl)
theorem k_ladd (hJ : KO l R cc own nL g J) {x y : Int64} (hd : decode cc pc = .ok (.ladd, 1)) (k : J ws lv (pc + 1) (.long (x + y) :: st)) : J ws lv pc (.long y :: .long x :: st) := by
  obtain ⟨p, e, s, m, args, below, meth, c, A, cs, sl, Q, C, hE, hA, hcs, hsl, rfl⟩ := hJ
  exact fun H locs ls hP hD hS hl => lv_ladd C.1 C.2.1 hd (k H locs ls hP hD hS hl)
theorem k_lmul (hJ : KO l R cc own nL g J) {x y : Int64} (hd : decode cc pc = .ok (.lmul, 1)) (k : J ws lv (pc + 1) (.long (x * y) :: st)) : J ws lv pc (.long y :: .long x :: st) := by
  obtain ⟨p, e, s, m, args, below, meth, c, A, cs, sl, Q, C, hE, hA, hcs, hsl, rfl⟩ := hJ
  exact fun H locs ls hP hD hS hl => lv_lmul C.1 C.2.1 hd (k H locs ls hP hD hS hl)
theorem k_land (hJ : KO l R cc own nL g J) {x y : Int64} (hd : decode cc pc = .ok (.land, 1)) (k : J ws lv (pc + 1) (.long (x &&& y) :: st)) : J ws lv pc (.long y :: .long x :: st) := by
  obtain ⟨p, e, s, m, args, below, meth, c, A, cs, sl, Q, C, hE, hA, hcs, hsl, rfl⟩ := hJ
  exact fun H locs ls hP hD hS hl => lv_land C.1 C.2.1 hd (k H locs ls hP hD hS hl)
theorem k_lor (hJ : KO l R cc own nL g J) {x y : Int64} (hd : decode cc pc = .ok (.lor, 1)) (k : J ws lv (pc + 1) (.long (x ||| y) :: st)) : J ws lv pc (.long y :: .long x :: st) := by
  obtain ⟨p, e, s, m, args, below, meth, c, A, cs, sl, Q, C, hE, hA, hcs, hsl, rfl⟩ := hJ
  exact fun H locs ls hP hD hS hl => lv_lor C.1 C.2.1 hd (k H locs ls hP hD hS hl)
theorem k_idiv (hJ : KO l R cc own nL g J) {x y : Int32} (hd : decode cc pc = .ok (.idiv, 1)) (hne : ¬ y = 0) (k : J ws lv (pc + 1) (.int (x / y) :: st)) : J ws lv pc (.int y :: .int x :: st) := by
  obtain ⟨p, e, s, m, args, below, meth, c, A, cs, sl, Q, C, hE, hA, hcs, hsl, rfl⟩ := hJ
  exact fun H locs ls hP hD hS hl => lv_idiv C.1 C.2.1 hd hne (k H locs ls hP hD hS hl)
theorem k_irem (hJ : KO l R cc own nL g J) {x y : Int32} (hd : decode cc pc = .ok (.irem, 1)) (hne : ¬ y = 0) (k : J ws lv (pc + 1) (.int (x - x / y * y) :: st)) : J ws lv pc (.int y :: .int x :: st) := by
  obtain ⟨p, e, s, m, args, below, meth, c, A, cs, sl, Q, C, hE, hA, hcs, hsl, rfl⟩ := hJ
  exact fun H locs ls hP hD hS hl => lv_irem C.1 C.2.1 hd hne (k H locs ls hP hD hS hl)
theorem k_ineg (hJ : KO l R cc own nL g J) {x : Int32} (hd : decode cc pc = .ok (.ineg, 1)) (k : J ws lv (pc + 1) (.int (-x) :: st)) : J ws lv pc (.int x :: st) := by
  obtain ⟨p, e, s, m, args, below, meth, c, A, cs, sl, Q, C, hE, hA, hcs, hsl, rfl⟩ := hJ
  exact fun H locs ls hP hD hS hl => lv_ineg C.1 C.2.1 hd (k H locs ls hP hD hS hl)
theorem k_i2l (hJ : KO l R cc own nL g J) {x : Int32} {v : Int64} (hd : decode cc pc = .ok (.i2l, 1)) (hv : x.toInt64 = v) (k : J ws lv (pc + 1) (.long v :: st)) : J ws lv pc (.int x :: st) := by
  obtain ⟨p, e, s, m, args, below, meth, c, A, cs, sl, Q, C, hE, hA, hcs, hsl, rfl⟩ := hJ
  exact fun H locs ls hP hD hS hl => lv_i2l C.1 C.2.1 hd hv (k H locs ls hP hD hS hl)
theorem k_l2i (hJ : KO l R cc own nL g J) {x : Int64} {v : Int32} (hd : decode cc pc = .ok (.l2i, 1)) (hv : x.toInt32 = v) (k : J ws lv (pc + 1) (.int v :: st)) : J ws lv pc (.long x :: st) := by
  obtain ⟨p, e, s, m, args, below, meth, c, A, cs, sl, Q, C, hE, hA, hcs, hsl, rfl⟩ := hJ
  exact fun H locs ls hP hD hS hl => lv_l2i C.1 C.2.1 hd hv (k H locs ls hP hD hS hl)
theorem k_i2b (hJ : KO l R cc own nL g J) {x v : Int32} (hd : decode cc pc = .ok (.i2b, 1)) (hv : x.toInt8.toInt32 = v) (k : J ws lv (pc + 1) (.int v :: st)) : J ws lv pc (.int x :: st) := by
  obtain ⟨p, e, s, m, args, below, meth, c, A, cs, sl, Q, C, hE, hA, hcs, hsl, rfl⟩ := hJ
  exact fun H locs ls hP hD hS hl => lv_i2b C.1 C.2.1 hd hv (k H locs ls hP hD hS hl)
theorem k_i2s (hJ : KO l R cc own nL g J) {x v : Int32} (hd : decode cc pc = .ok (.i2s, 1)) (hv : x.toInt16.toInt32 = v) (k : J ws lv (pc + 1) (.int v :: st)) : J ws lv pc (.int x :: st) := by
  obtain ⟨p, e, s, m, args, below, meth, c, A, cs, sl, Q, C, hE, hA, hcs, hsl, rfl⟩ := hJ
  exact fun H locs ls hP hD hS hl => lv_i2s C.1 C.2.1 hd hv (k H locs ls hP hD hS hl)
theorem k_i2c (hJ : KO l R cc own nL g J) {x v : Int32} (hd : decode cc pc = .ok (.i2c, 1)) (hv : (x.toUInt32 % 65536).toInt32 = v) (k : J ws lv (pc + 1) (.int v :: st)) : J ws lv pc (.int x :: st) := by
  obtain ⟨p, e, s, m, args, below, meth, c, A, cs, sl, Q, C, hE, hA, hcs, hsl, rfl⟩ := hJ
  exact fun H locs ls hP hD hS hl => lv_i2c C.1 C.2.1 hd hv (k H locs ls hP hD hS hl)
theorem k_iushr (hJ : KO l R cc own nL g J) {x y v : Int32} (hd : decode cc pc = .ok (.iushr, 1)) (hv : (x.toUInt32 >>> (y.toUInt32 &&& Int32.toUInt32 31)).toInt32 = v) (k : J ws lv (pc + 1) (.int v :: st)) : J ws lv pc (.int y :: .int x :: st) := by
  obtain ⟨p, e, s, m, args, below, meth, c, A, cs, sl, Q, C, hE, hA, hcs, hsl, rfl⟩ := hJ
  exact fun H locs ls hP hD hS hl => lv_iushr C.1 C.2.1 hd hv (k H locs ls hP hD hS hl)
theorem k_lshl (hJ : KO l R cc own nL g J) {x v : Int64} {y : Int32} (hd : decode cc pc = .ok (.lshl, 1)) (hv : x <<< (y.toInt64 &&& 63) = v) (k : J ws lv (pc + 1) (.long v :: st)) : J ws lv pc (.int y :: .long x :: st) := by
  obtain ⟨p, e, s, m, args, below, meth, c, A, cs, sl, Q, C, hE, hA, hcs, hsl, rfl⟩ := hJ
  exact fun H locs ls hP hD hS hl => lv_lshl C.1 C.2.1 hd hv (k H locs ls hP hD hS hl)
theorem k_lcmp (hJ : KO l R cc own nL g J) {x y : Int64} (hd : decode cc pc = .ok (.lcmp, 1)) (k : J ws lv (pc + 1) (.int (lg_cmp x y) :: st)) : J ws lv pc (.long y :: .long x :: st) := by
  obtain ⟨p, e, s, m, args, below, meth, c, A, cs, sl, Q, C, hE, hA, hcs, hsl, rfl⟩ := hJ
  exact fun H locs ls hP hD hS hl => W.lcmp C.1 C.2.1 hd (k H locs ls hP hD hS hl)
theorem k_dup (hJ : KO l R cc own nL g J) {va : Value} (hd : decode cc pc = .ok (.dup, 1)) (h1 : va.category = 1) (k : J ws lv (pc + 1) (va :: va :: st)) : J ws lv pc (va :: st) := by
  obtain ⟨p, e, s, m, args, below, meth, c, A, cs, sl, Q, C, hE, hA, hcs, hsl, rfl⟩ := hJ
  exact fun H locs ls hP hD hS hl => lv_dup C.1 C.2.1 hd h1 (k H locs ls hP hD hS hl)
theorem k_pop (hJ : KO l R cc own nL g J) {va : Value} (hd : decode cc pc = .ok (.pop, 1)) (h1 : va.category = 1) (k : J ws lv (pc + 1) (st)) : J ws lv pc (va :: st) := by
  obtain ⟨p, e, s, m, args, below, meth, c, A, cs, sl, Q, C, hE, hA, hcs, hsl, rfl⟩ := hJ
  exact fun H locs ls hP hD hS hl => lv_pop C.1 C.2.1 hd h1 (k H locs ls hP hD hS hl)
theorem k_dup2 (hJ : KO l R cc own nL g J) {va vb : Value} (hd : decode cc pc = .ok (.dup2, 1)) (h1 : va.category = 1) (h2 : vb.category = 1) (k : J ws lv (pc + 1) (va :: vb :: va :: vb :: st)) : J ws lv pc (va :: vb :: st) := by
  obtain ⟨p, e, s, m, args, below, meth, c, A, cs, sl, Q, C, hE, hA, hcs, hsl, rfl⟩ := hJ
  exact fun H locs ls hP hD hS hl => lv_dup2_11 C.1 C.2.1 hd h1 h2 (k H locs ls hP hD hS hl)
theorem k_icmp_eq (hJ : KO l R cc own nL g J) {x y : Int32} {off : Int} {tgt : Nat} (hd : decode cc pc = .ok (.if_icmp .eq off, 3)) (ht : (pc : Int) + off = (tgt : Int)) (kt : x = y → J ws lv tgt st) (kf : ¬ x = y → J ws lv (pc + 3) st) : J ws lv pc (.int y :: .int x :: st) := by
  obtain ⟨p, e, s, m, args, below, meth, c, A, cs, sl, Q, C, hE, hA, hcs, hsl, rfl⟩ := hJ
  exact fun H locs ls hP hD hS hl => lv_icmp_eq C.1 C.2.1 hd ht (fun h => kt h H locs ls hP hD hS hl) (fun h => kf h H locs ls hP hD hS hl)
theorem k_if_eq (hJ : KO l R cc own nL g J) {x : Int32} {off : Int} {tgt : Nat} (hd : decode cc pc = .ok (.ifCond .eq off, 3)) (ht : (pc : Int) + off = (tgt : Int)) (kt : x = 0 → J ws lv tgt st) (kf : ¬ x = 0 → J ws lv (pc + 3) st) : J ws lv pc (.int x :: st) := by
  obtain ⟨p, e, s, m, args, below, meth, c, A, cs, sl, Q, C, hE, hA, hcs, hsl, rfl⟩ := hJ
  exact fun H locs ls hP hD hS hl => lv_if_eq C.1 C.2.1 hd ht (fun h => kt h H locs ls hP hD hS hl) (fun h => kf h H locs ls hP hD hS hl)
theorem k_icmp_ne (hJ : KO l R cc own nL g J) {x y : Int32} {off : Int} {tgt : Nat} (hd : decode cc pc = .ok (.if_icmp .ne off, 3)) (ht : (pc : Int) + off = (tgt : Int)) (kt : ¬ x = y → J ws lv tgt st) (kf : x = y → J ws lv (pc + 3) st) : J ws lv pc (.int y :: .int x :: st) := by
  obtain ⟨p, e, s, m, args, below, meth, c, A, cs, sl, Q, C, hE, hA, hcs, hsl, rfl⟩ := hJ
  exact fun H locs ls hP hD hS hl => lv_icmp_ne C.1 C.2.1 hd ht (fun h => kt h H locs ls hP hD hS hl) (fun h => kf h H locs ls hP hD hS hl)
theorem k_if_ne (hJ : KO l R cc own nL g J) {x : Int32} {off : Int} {tgt : Nat} (hd : decode cc pc = .ok (.ifCond .ne off, 3)) (ht : (pc : Int) + off = (tgt : Int)) (kt : ¬ x = 0 → J ws lv tgt st) (kf : x = 0 → J ws lv (pc + 3) st) : J ws lv pc (.int x :: st) := by
  obtain ⟨p, e, s, m, args, below, meth, c, A, cs, sl, Q, C, hE, hA, hcs, hsl, rfl⟩ := hJ
  exact fun H locs ls hP hD hS hl => lv_if_ne C.1 C.2.1 hd ht (fun h => kt h H locs ls hP hD hS hl) (fun h => kf h H locs ls hP hD hS hl)
theorem k_icmp_lt (hJ : KO l R cc own nL g J) {x y : Int32} {off : Int} {tgt : Nat} (hd : decode cc pc = .ok (.if_icmp .lt off, 3)) (ht : (pc : Int) + off = (tgt : Int)) (kt : x < y → J ws lv tgt st) (kf : ¬ x < y → J ws lv (pc + 3) st) : J ws lv pc (.int y :: .int x :: st) := by
  obtain ⟨p, e, s, m, args, below, meth, c, A, cs, sl, Q, C, hE, hA, hcs, hsl, rfl⟩ := hJ
  exact fun H locs ls hP hD hS hl => lv_icmp_lt C.1 C.2.1 hd ht (fun h => kt h H locs ls hP hD hS hl) (fun h => kf h H locs ls hP hD hS hl)
theorem k_if_lt (hJ : KO l R cc own nL g J) {x : Int32} {off : Int} {tgt : Nat} (hd : decode cc pc = .ok (.ifCond .lt off, 3)) (ht : (pc : Int) + off = (tgt : Int)) (kt : x < 0 → J ws lv tgt st) (kf : ¬ x < 0 → J ws lv (pc + 3) st) : J ws lv pc (.int x :: st) := by
  obtain ⟨p, e, s, m, args, below, meth, c, A, cs, sl, Q, C, hE, hA, hcs, hsl, rfl⟩ := hJ
  exact fun H locs ls hP hD hS hl => lv_if_lt C.1 C.2.1 hd ht (fun h => kt h H locs ls hP hD hS hl) (fun h => kf h H locs ls hP hD hS hl)
theorem k_icmp_ge (hJ : KO l R cc own nL g J) {x y : Int32} {off : Int} {tgt : Nat} (hd : decode cc pc = .ok (.if_icmp .ge off, 3)) (ht : (pc : Int) + off = (tgt : Int)) (kt : y ≤ x → J ws lv tgt st) (kf : ¬ y ≤ x → J ws lv (pc + 3) st) : J ws lv pc (.int y :: .int x :: st) := by
  obtain ⟨p, e, s, m, args, below, meth, c, A, cs, sl, Q, C, hE, hA, hcs, hsl, rfl⟩ := hJ
  exact fun H locs ls hP hD hS hl => lv_icmp_ge C.1 C.2.1 hd ht (fun h => kt h H locs ls hP hD hS hl) (fun h => kf h H locs ls hP hD hS hl)
theorem k_if_ge (hJ : KO l R cc own nL g J) {x : Int32} {off : Int} {tgt : Nat} (hd : decode cc pc = .ok (.ifCond .ge off, 3)) (ht : (pc : Int) + off = (tgt : Int)) (kt : 0 ≤ x → J ws lv tgt st) (kf : ¬ 0 ≤ x → J ws lv (pc + 3) st) : J ws lv pc (.int x :: st) := by
  obtain ⟨p, e, s, m, args, below, meth, c, A, cs, sl, Q, C, hE, hA, hcs, hsl, rfl⟩ := hJ
  exact fun H locs ls hP hD hS hl => lv_if_ge C.1 C.2.1 hd ht (fun h => kt h H locs ls hP hD hS hl) (fun h => kf h H locs ls hP hD hS hl)
theorem k_icmp_gt (hJ : KO l R cc own nL g J) {x y : Int32} {off : Int} {tgt : Nat} (hd : decode cc pc = .ok (.if_icmp .gt off, 3)) (ht : (pc : Int) + off = (tgt : Int)) (kt : y < x → J ws lv tgt st) (kf : ¬ y < x → J ws lv (pc + 3) st) : J ws lv pc (.int y :: .int x :: st) := by
  obtain ⟨p, e, s, m, args, below, meth, c, A, cs, sl, Q, C, hE, hA, hcs, hsl, rfl⟩ := hJ
  exact fun H locs ls hP hD hS hl => lv_icmp_gt C.1 C.2.1 hd ht (fun h => kt h H locs ls hP hD hS hl) (fun h => kf h H locs ls hP hD hS hl)
theorem k_if_gt (hJ : KO l R cc own nL g J) {x : Int32} {off : Int} {tgt : Nat} (hd : decode cc pc = .ok (.ifCond .gt off, 3)) (ht : (pc : Int) + off = (tgt : Int)) (kt : 0 < x → J ws lv tgt st) (kf : ¬ 0 < x → J ws lv (pc + 3) st) : J ws lv pc (.int x :: st) := by
  obtain ⟨p, e, s, m, args, below, meth, c, A, cs, sl, Q, C, hE, hA, hcs, hsl, rfl⟩ := hJ
  exact fun H locs ls hP hD hS hl => lv_if_gt C.1 C.2.1 hd ht (fun h => kt h H locs ls hP hD hS hl) (fun h => kf h H locs ls hP hD hS hl)
theorem k_icmp_le (hJ : KO l R cc own nL g J) {x y : Int32} {off : Int} {tgt : Nat} (hd : decode cc pc = .ok (.if_icmp .le off, 3)) (ht : (pc : Int) + off = (tgt : Int)) (kt : x ≤ y → J ws lv tgt st) (kf : ¬ x ≤ y → J ws lv (pc + 3) st) : J ws lv pc (.int y :: .int x :: st) := by
  obtain ⟨p, e, s, m, args, below, meth, c, A, cs, sl, Q, C, hE, hA, hcs, hsl, rfl⟩ := hJ
  exact fun H locs ls hP hD hS hl => lv_icmp_le C.1 C.2.1 hd ht (fun h => kt h H locs ls hP hD hS hl) (fun h => kf h H locs ls hP hD hS hl)
theorem k_if_le (hJ : KO l R cc own nL g J) {x : Int32} {off : Int} {tgt : Nat} (hd : decode cc pc = .ok (.ifCond .le off, 3)) (ht : (pc : Int) + off = (tgt : Int)) (kt : x ≤ 0 → J ws lv tgt st) (kf : ¬ x ≤ 0 → J ws lv (pc + 3) st) : J ws lv pc (.int x :: st) := by
  obtain ⟨p, e, s, m, args, below, meth, c, A, cs, sl, Q, C, hE, hA, hcs, hsl, rfl⟩ := hJ
  exact fun H locs ls hP hD hS hl => lv_if_le C.1 C.2.1 hd ht (fun h => kt h H locs ls hP hD hS hl) (fun h => kf h H locs ls hP hD hS hl)
theorem k_goto (hJ : KO l R cc own nL g J) {off : Int} {tgt : Nat} (hd : decode cc pc = .ok (.goto off, 3)) (ht : (pc : Int) + off = (tgt : Int)) (k : J ws lv tgt st) : J ws lv pc st := by
  obtain ⟨p, e, s, m, args, below, meth, c, A, cs, sl, Q, C, hE, hA, hcs, hsl, rfl⟩ := hJ
  exact fun H locs ls hP hD hS hl => lv_goto C.1 C.2.1 hd ht (k H locs ls hP hD hS hl)
theorem k_tabIn (hJ : KO l R cc own nL g J) {dflt lo hi : Int} {offs : Array Int} {len : Nat} {x : Int32} {off : Int} {tgt : Nat} (hd : decode cc pc = .ok (.tableswitch dflt lo hi offs, len)) (h1 : ¬ x.toInt < lo) (h2 : ¬ hi < x.toInt) (ho : offs[(x.toInt - lo).toNat]? = some off) (ht : (pc : Int) + off = (tgt : Int)) (k : J ws lv tgt st) : J ws lv pc (.int x :: st) := by
  obtain ⟨p, e, s, m, args, below, meth, c, A, cs, sl, Q, C, hE, hA, hcs, hsl, rfl⟩ := hJ
  exact fun H locs ls hP hD hS hl => lv_tableIn C.1 C.2.1 hd h1 h2 ho ht (k H locs ls hP hD hS hl)
theorem k_tabOut (hJ : KO l R cc own nL g J) {dflt lo hi : Int} {offs : Array Int} {len : Nat} {x : Int32} {tgt : Nat} (hd : decode cc pc = .ok (.tableswitch dflt lo hi offs, len)) (h : x.toInt < lo ∨ hi < x.toInt) (ht : (pc : Int) + dflt = (tgt : Int)) (k : J ws lv tgt st) : J ws lv pc (.int x :: st) := by
  obtain ⟨p, e, s, m, args, below, meth, c, A, cs, sl, Q, C, hE, hA, hcs, hsl, rfl⟩ := hJ
  exact fun H locs ls hP hD hS hl => lv_tableOut C.1 C.2.1 hd h ht (k H locs ls hP hD hS hl)
theorem k_get (hJ : KO l R cc own nL g J) {C : String} {T : u_T} {N ci index a : Nat} {fs : List Value} {v : Value} (q0 : Nat) (he : ws[q0]? = some (a, .inr (ci, fs))) (k : Nat) (hv : fs[k]? = some v) (hc : vwCl[ci]? = some (C, T, N)) (hin : ∀ w ∈ u_ws C T N, w ∈ wsL_law) (hk : k < N) (hw : Cond.fieldLink own index (T k).1 (T k).2.1 (T k).2.2.1 ∈ wsL_law) (hd : decode cc pc = .ok (.getfield index, 3)) (k1 : J ws lv (pc + 3) (v :: st)) : J ws lv pc (.ref a :: st) := by
  obtain ⟨p, e, s, m, args, below, meth, c, A, cs, sl, Q, K, hE, hA, hcs, hsl, rfl⟩ := hJ
  exact fun H locs ls hP hD hS hl => va_get K.1 K.2.1 K.2.2.2.2 hin K.2.2.2.1 hE.1 hP q0 he hc k hk (K.2.2.2.2 _ hw) (fun _ h => h) hv hd (k1 H locs ls hP hD hS hl)
theorem k_put (hJ : KO l R cc own nL g J) {C : String} {T : u_T} {N ci index a : Nat} {fs : List Value} {v : Value} {ty : FieldType} {ws2 : va_W} (q0 : Nat) (he : ws[q0]? = some (a, .inr (ci, fs))) (k : Nat) (hws : ws.set q0 (a, .inr (ci, fs.set k v)) = ws2) (hc : vwCl[ci]? = some (C, T, N)) (hin : ∀ w ∈ u_ws C T N, w ∈ wsL_law) (ty0 : Nat → FieldType) (hty : ∀ k, k < N → parseFieldDescriptor (T k).2.2.1 = some (ty0 k)) (hnm : ∀ a, a < N → ∀ b, b < N → a ≠ b → (T a).2.1 ≠ (T b).2.1) (hk : k < N) (hw : Cond.fieldLink own index (T k).1 (T k).2.1 (T k).2.2.1 ∈ wsL_law) (hfin : (T k).2.2.2 = false) (hdt : parseFieldDescriptor (T k).2.2.1 = some ty) (hn : narrow ty v = v) (hfit : fits ty v = true) (hl0 : k < fs.length) (hd : decode cc pc = .ok (.putfield index, 3)) (k1 : J ws2 lv (pc + 3) st) : J ws lv pc (v :: .ref a :: st) := by
  obtain ⟨p, e, s, m, args, below, meth, c, A, cs, sl, Q, K, hE, hA, hcs, hsl, rfl⟩ := hJ
  subst hws
  exact fun H locs ls hP hD hS hl => va_put K.1 K.2.1 K.2.2.2.2 hin ty0 hty hnm K.2.2.2.1 hE.1 hP hD hS q0 he hc k hk (K.2.2.2.2 _ hw) (fun _ h => h) hfin hdt hn hfit hl0 hd (fun H1 locs1 hP1 hD1 hS1 => k1 H1 locs1 ls hP1 hD1 hS1 hl)
theorem k_iald (hJ : KO l R cc own nL g J) {a n : Nat} {f : Nat → Int32} {v : Int32} (q0 : Nat) (he : ws[q0]? = some (a, .inl (kI g, n, .inl f))) (i : Nat) (hi : i < n) (hn : n < 2 ^ 31) (hv : f i = v) (hd : decode cc pc = .ok (.iaload, 1)) (k1 : J ws lv (pc + 1) (.int v :: st)) : J ws lv pc (.int (nI i) :: .ref a :: st) := by
  obtain ⟨p, e, s, m, args, below, meth, c, A, cs, sl, Q, C, hE, hA, hcs, hsl, rfl⟩ := hJ
  subst hv
  exact fun H locs ls hP hD hS hl => va_iald C.1 C.2.1 hE.1 hP q0 0 he rfl (vp_in_nI hi hn) hd (by rw [nI_clamp (Nat.lt_trans hi hn)]; exact k1 H locs ls hP hD hS hl)
theorem k_lald (hJ : KO l R cc own nL g J) {a n : Nat} {f : Nat → Int64} {v : Int64} (q0 : Nat) (he : ws[q0]? = some (a, .inl (kL g, n, .inr (.inl f)))) (i : Nat) (hi : i < n) (hn : n < 2 ^ 31) (hv : f i = v) (hd : decode cc pc = .ok (.laload, 1)) (k1 : J ws lv (pc + 1) (.long v :: st)) : J ws lv pc (.int (nI i) :: .ref a :: st) := by
  obtain ⟨p, e, s, m, args, below, meth, c, A, cs, sl, Q, C, hE, hA, hcs, hsl, rfl⟩ := hJ
  subst hv
  exact fun H locs ls hP hD hS hl => va_lald C.1 C.2.1 hE.1 hP q0 1 he rfl (vp_in_nI hi hn) hd (by rw [nI_clamp (Nat.lt_trans hi hn)]; exact k1 H locs ls hP hD hS hl)
theorem k_aald (hJ : KO l R cc own nL g J) {a n b : Nat} {f : Nat → Option Nat} (q0 : Nat) (he : ws[q0]? = some (a, .inl (kO g, n, .inr (.inr (.inr (.inr f)))))) (i : Nat) (hi : i < n) (hn : n < 2 ^ 31) (hv : f i = some b) (hd : decode cc pc = .ok (.aaload, 1)) (k1 : J ws lv (pc + 1) (.ref b :: st)) : J ws lv pc (.int (nI i) :: .ref a :: st) := by
  obtain ⟨p, e, s, m, args, below, meth, c, A, cs, sl, Q, C, hE, hA, hcs, hsl, rfl⟩ := hJ
  intro H locs ls hP hD hS hl
  have hin := vp_in_nI hi hn
  exact W.aald (v := .ref b) (ty := .array .int) C.1 C.2.1 (hP q0 _ he) ((hE.1.2 2 _ rfl).1 n (fun j => va_rf (f j))) rfl (fun q => by cases q) (by show ¬ (nI i < 0 ∨ (arrV _ _ _).slots.size ≤ _); rw [arrV_size]; exact hin) (by show (arrV _ _ _).slots[_]? = _; rw [nI_clamp (Nat.lt_trans hi hn), arrV_read _ _ hi, hv]; rfl) rfl rfl hd (k1 H locs ls hP hD hS hl)
theorem k_aaldS (hJ : KO l R cc own nL g J) {a n b : Nat} {f : Nat → Option Nat} (q0 : Nat) (he : ws[q0]? = some (a, .inl (kS g, n, .inr (.inr (.inr (.inr f)))))) (i : Nat) (hi : i < n) (hn : n < 2 ^ 31) (hv : f i = some b) (hd : decode cc pc = .ok (.aaload, 1)) (k1 : J ws lv (pc + 1) (.ref b :: st)) : J ws lv pc (.int (nI i) :: .ref a :: st) := by
  obtain ⟨p, e, s, m, args, below, meth, c, A, cs, sl, Q, C, hE, hA, hcs, hsl, rfl⟩ := hJ
  exact fun H locs ls hP hD hS hl => va_aldq C.1 C.2.1 hE.1 hP q0 3 he rfl (vp_in_nI hi hn) hd (by rw [nI_clamp (Nat.lt_trans hi hn), hv]; exact k1 H locs ls hP hD hS hl)
theorem k_iast (hJ : KO l R cc own nL g J) {a n : Nat} {f : Nat → Int32} {x : Int32} {ws2 : va_W} (q0 : Nat) (he : ws[q0]? = some (a, .inl (kI g, n, .inl f))) (i : Nat) (hi : i < n) (hn : n < 2 ^ 31) (hws : ws.set q0 (a, .inl (kI g, n, .inl (upd f i x))) = ws2) (hd : decode cc pc = .ok (.iastore, 1)) (k1 : J ws2 lv (pc + 1) st) : J ws lv pc (.int x :: .int (nI i) :: .ref a :: st) := by
  obtain ⟨p, e, s, m, args, below, meth, c, A, cs, sl, Q, C, hE, hA, hcs, hsl, rfl⟩ := hJ
  subst hws
  exact fun H locs ls hP hD hS hl => va_iast C.1 C.2.1 hE.1 hP hD hS q0 0 he rfl (vp_in_nI hi hn) hd (by rw [nI_clamp (Nat.lt_trans hi hn)]; exact fun H1 locs1 hP1 hD1 hS1 => k1 H1 locs1 ls hP1 hD1 hS1 hl)
theorem k_last (hJ : KO l R cc own nL g J) {a n : Nat} {f : Nat → Int64} {x : Int64} {ws2 : va_W} (q0 : Nat) (he : ws[q0]? = some (a, .inl (kL g, n, .inr (.inl f)))) (i : Nat) (hi : i < n) (hn : n < 2 ^ 31) (hws : ws.set q0 (a, .inl (kL g, n, .inr (.inl (vp_updL f i x)))) = ws2) (hd : decode cc pc = .ok (.lastore, 1)) (k1 : J ws2 lv (pc + 1) st) : J ws lv pc (.long x :: .int (nI i) :: .ref a :: st) := by
  obtain ⟨p, e, s, m, args, below, meth, c, A, cs, sl, Q, C, hE, hA, hcs, hsl, rfl⟩ := hJ
  subst hws
  exact fun H locs ls hP hD hS hl => va_last C.1 C.2.1 hE.1 hP hD hS q0 1 he rfl (vp_in_nI hi hn) hd (by rw [nI_clamp (Nat.lt_trans hi hn)]; exact fun H1 locs1 hP1 hD1 hS1 => k1 H1 locs1 ls hP1 hD1 hS1 hl)
theorem k_alen (hJ : KO l R cc own nL g J) {a : Nat} {cA : ClassId} {x : vp_A} {ty : FieldType} {v : Int32} (q0 t0 : Nat) (he : ws[q0]? = some (a, .inl (cA, x))) (ht : (kty g)[t0]? = some (cA, ty)) (hv : Int32.ofNat x.1 = v) (hd : decode cc pc = .ok (.arraylength, 1)) (k1 : J ws lv (pc + 1) (.int v :: st)) : J ws lv pc (.ref a :: st) := by
  obtain ⟨p, e, s, m, args, below, meth, c, A, cs, sl, Q, C, hE, hA, hcs, hsl, rfl⟩ := hJ
  exact fun H locs ls hP hD hS hl => va_alen C.1 C.2.1 hE.1 hP q0 t0 he ht hv hd (k1 H locs ls hP hD hS hl)
end KR
