/-- what a constructor needs besides: the arrays over Sheet and over int[] -/
def kE2 (g : KG) (A : Nat → Prop) (U : State) : Prop := kE g A U ∧ va_AO RX1 U ∧ va_AOA .int U
theorem kE2.call {g : KG} {A B : Nat → Prop} {s U : State} {H : Heap} {locs : List Loc} (h : kE2 g A s) (hW : s.WarmedH U.vm) (hh : U.heap = H) (hS : va_S A s.heap H locs) (hB : ∀ q, B q → A q) : kE2 g B U := ⟨kE.call h.1 hW hh hS hB, va_AO.moved hW.alike h.2.1, va_AOA.moved hW.alike h.2.2⟩
theorem kE2.same {g : KG} {A : Nat → Prop} {u U : State} (hv : U.vm = u.vm) (hh : U.heap = u.heap) (h : kE2 g A u) : kE2 g A U := ⟨kE.same hv hh h.1, va_AO.moved (by rw [hv]; exact Vm.Alike.refl _) h.2.1, va_AOA.moved (by rw [hv]; exact Vm.Alike.refl _) h.2.2⟩
/-- a constructor's contract: mc cells and ms slots come -/
def CC (l : Launch) (y : MethodName) (cc : ByteArray) (nL : Nat) (rm : Room) (g : KG) (av : List Value) (ws : va_W) {S : Type} (ws1 : S → va_W) (mc ms : Nat) : Prop :=
  ∀ sz : Nat, Met l y (.code y cc nL none :: wsL_law) rm (va_Pc av (fun U => U.heap.size = sz ∧ va_P g.1 vwCl ws U.heap ∧ kE2 g (va_A ws sz) U ∧ va_D (fun _ => True) ws)) (kQ oV (fun _ _ => True) (fun u t => va_P g.1 vwCl (ws1 u) t.heap ∧ va_D (va_A ws sz) (ws1 u)) (va_A ws sz)) mc ms (va_A ws sz)
/-- the judgements of a method that makes cells: by how many cells and slots it has made -/
def KO2 (i : Bool) (l : Launch) (R : Room) (cc : ByteArray) (own : String) (nL : Nat) (g : KG) (J : Nat → Nat → KT) : Prop :=
  ∃ (p : Program) (e : Env) (s : State) (m : MethodId) (args : Array Value) (below : List Frame) (meth : Method) (c : Code) (A : Nat → Prop) (Q : State → Prop), CallFix p m c cc nL s args wsL_law own ∧ kE2 g A s ∧ (∀ q, s.heap.size ≤ q → A q) ∧ (i = true → meth.name = "<init>") ∧ J = fun cs sl => KJ p l e R s m args below meth c g A nL cs sl Q
section KM
variable {i : Bool} {l : Launch} {R rm : Room} {cc c1 : ByteArray} {own : String} {nL n1 index cs sl a : Nat} {g : KG} {J : Nat → Nat → KT} {ws wc : va_W} {lv : List (Nat × Value)} {pc : Nat} {st : List Value} {y : MethodName}
theorem KO2.at (hJ : KO2 i l R cc own nL g J) (hc : cs ≤ R.cells) (hs : sl ≤ R.slots) : KO l R cc own nL g (J cs sl) := by
  obtain ⟨p, e, s, m, args, below, meth, c, A, Q, K, hE, hA, hI, rfl⟩ := hJ
  exact ⟨p, e, s, m, args, below, meth, c, A, cs, sl, Q, K, hE.1, hA, hc, hs, rfl⟩
theorem m_obj (hJ : KO2 i l R cc own nL g J) (hlk : Cond.methodLink own index Lib.objectInit ∈ wsL_law) (hin : Cond.instanceMethod Lib.objectInit ∈ wsL_law) (hco : Cond.code Lib.objectInit ⟨#[0xb1]⟩ 1 none ∈ wsL_law) (hf : 1 ≤ R.frames) (hlo : 20 ≤ R.locals) (hdep : (st.map (fun v => v.category)).sum ≤ 8) (hd : decode cc pc = .ok (.invokespecial index, 3)) (k : J cs sl ws lv (pc + 3) st) : J cs sl ws lv pc (.ref a :: st) := by
  obtain ⟨p, e, s, m, args, below, meth, c, A, Q, K, hE, hA, hI, rfl⟩ := hJ
  intro H locs ls hP hD hS hl
  exact W.objInit K.1 K.2.1 K.2.2.2.1 (K.2.2.2.2 _ hlk) (K.2.2.2.2 _ hin) (K.2.2.2.2 _ hco) rfl (hl.1.trans K.2.2.1.symm) rfl hd hf (by have := lv_room (m := m) (pc := pc) (ls := ls) hdep; omega) (k H locs ls hP hD hS hl)
theorem m_newI (hJ : KO2 i l R cc own nL g J) (n : Nat) (hn : n ≤ 1000) (harr : Cond.arrayClass .int ∈ wsL_law) (hc : cs + 1 ≤ R.cells) (hs : sl + n ≤ R.slots) (hd : decode cc pc = .ok (.newarray .int, 2)) (k : ∀ q, J (cs + 1) (sl + n) (ws ++ [(q, .inl (kI g, n, .inl (fun _ => nI 0)))]) lv (pc + 2) (.ref q :: st)) : J cs sl ws lv pc (.int (nI n) :: st) := by
  obtain ⟨p, e, s, m, args, below, meth, c, A, Q, K, hE, hA, hI, rfl⟩ := hJ
  intro H locs ls hP hD hS hl
  refine va_newa K.1 K.2.1 (K.2.2.2.2 _ harr) (ty := .int) rfl hE.1.1 hP hD hS hA (a0 := (n, .inl (fun _ => nI 0))) (fun _ => rfl) (nI_pos (by omega)) (nI_clamp (by omega)) (by show n * 4 ≤ _; omega) hc hs hd (fun q cA H1 hK1 hP1 hD1 hS1 => ?_)
  have e1 : s.vm.findClass ("[" ++ FieldType.int.toString) = some cA := (hK1.2 4 _ rfl).2
  have e2 : s.vm.findClass ("[" ++ FieldType.int.toString) = some (kI g) := (hE.1.1.2 0 _ rfl).2
  cases e1.symm.trans e2
  exact k q H1 locs ls hP1 hD1 hS1 hl
theorem m_newL (hJ : KO2 i l R cc own nL g J) (n : Nat) (hn : n ≤ 1000) (harr : Cond.arrayClass .long ∈ wsL_law) (hc : cs + 1 ≤ R.cells) (hs : sl + n ≤ R.slots) (hd : decode cc pc = .ok (.newarray .long, 2)) (k : ∀ q, J (cs + 1) (sl + n) (ws ++ [(q, .inl (kL g, n, .inr (.inl (fun _ => 0))))]) lv (pc + 2) (.ref q :: st)) : J cs sl ws lv pc (.int (nI n) :: st) := by
  obtain ⟨p, e, s, m, args, below, meth, c, A, Q, K, hE, hA, hI, rfl⟩ := hJ
  intro H locs ls hP hD hS hl
  refine va_newa K.1 K.2.1 (K.2.2.2.2 _ harr) (ty := .long) rfl hE.1.1 hP hD hS hA (a0 := (n, .inr (.inl (fun _ => 0)))) (fun _ => rfl) (nI_pos (by omega)) (nI_clamp (by omega)) (by show n * 8 ≤ _; omega) hc hs hd (fun q cA H1 hK1 hP1 hD1 hS1 => ?_)
  have e1 : s.vm.findClass ("[" ++ FieldType.long.toString) = some cA := (hK1.2 4 _ rfl).2
  have e2 : s.vm.findClass ("[" ++ FieldType.long.toString) = some (kL g) := (hE.1.1.2 1 _ rfl).2
  cases e1.symm.trans e2
  exact k q H1 locs ls hP1 hD1 hS1 hl
end KM
