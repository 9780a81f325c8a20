theorem va_AOA.spec {t : FieldType} {s : State} (h : va_AOA t s) : ∃ comp c k, s.vm.findClass (FieldType.array t).toString = some comp ∧ (s.vm.classes.findIdx? fun (x : Class) => match x.kind with | .array component _ => component == comp | _ => false) = some c ∧ s.vm.classes[c]? = some k ∧ k.kind = .array comp (.array t) ∧ s.vm.findClass ("[" ++ (FieldType.array t).toString) = some c := by
  unfold va_AOA Cond.before at h
  simp only [Cond.holds, Cond.value, beq_iff_eq] at h
  cases hc : s.vm.findClass (FieldType.array t).toString with
  | none => simp [hc] at h
  | some comp =>
    simp only [hc, Option.bind_some, Option.bind_eq_some_iff, Option.map_eq_some_iff] at h
    obtain ⟨c, hi, k, hk, hb⟩ := h
    obtain ⟨hlt, hp, -⟩ := Array.findIdx?_eq_some_iff_getElem.mp hi
    have hkk : s.vm.classes[c] = k := (Array.getElem?_eq_some_iff.mp hk).2
    rw [hkk] at hp
    cases hkind : k.kind with
    | array component ty =>
      rw [hkind] at hb hp
      simp at hb hp
      exact ⟨comp, c, k, rfl, hi, hk, by rw [hkind, hp, hb.1], hb.2⟩
    | _ => rw [hkind] at hb; simp at hb
theorem va_AOA.moved {t : FieldType} {u U : State} (hvm : u.vm.Alike U.vm) (h : va_AOA t u) : va_AOA t U := by
  obtain ⟨comp, c, k, h1, h2, h3, h4, h5⟩ := h.spec
  obtain ⟨k', hk', he⟩ := hvm.2.2 _ _ h3
  have hi : (U.vm.classes.findIdx? fun (x : Class) => match x.kind with | .array component _ => component == comp | _ => false) = some c := by
    have b1 := va_idx_bare U.vm comp
    have b2 := va_idx_bare u.vm comp
    first | rw [hvm.bare_eq] at b1 | rw [← hvm.bare_eq] at b1
    exact b1.symm.trans (b2.trans h2)
  have hkind : k'.kind = .array comp (.array t) := by rw [he]; exact h4
  have f1 : U.vm.findClass (FieldType.array t).toString = some comp := by rw [hvm.findClass]; exact h1
  have f2 : U.vm.findClass ("[" ++ (FieldType.array t).toString) = some c := by rw [hvm.findClass]; exact h5
  unfold va_AOA Cond.before Cond.holds
  simp only [Cond.value]
  rw [f1, Option.bind_some]
  refine (congrArg (fun o : Option Nat => (o.bind (fun c => (U.vm.classes[c]?).map fun (k : Class) => match k.kind with | .array _ ty => decide (ty = FieldType.array t) && decide (U.vm.findClass ("[" ++ (FieldType.array t).toString) = some c) | _ => false) == some true)) hi).trans ?_
  simp [hk', hkind, f2]
/-- what a constructor needs besides: the arrays over Sheet and over int[] -/
def kE2 (g : KG) (A : Nat → Prop) (U : State) : Prop := kE g A U ∧ va_AO RX1 U ∧ va_AOA .int U
theorem kE2.call {g : KG} {A B : Nat → Prop} {s U : State} {H : Heap} {locs : List Loc} (h : kE2 g A s) (hW : s.WarmedH U.vm) (hh : U.heap = H) (hS : va_S A s.heap H locs) (hB : ∀ q, B q → A q) : kE2 g B U := ⟨kE.call h.1 hW hh hS hB, va_AO.moved hW.alike h.2.1, va_AOA.moved hW.alike h.2.2⟩
theorem kE2.same {g : KG} {A : Nat → Prop} {u U : State} (hv : U.vm = u.vm) (hh : U.heap = u.heap) (h : kE2 g A u) : kE2 g A U := ⟨kE.same hv hh h.1, va_AO.moved (by rw [hv]; exact Vm.Alike.refl _) h.2.1, va_AOA.moved (by rw [hv]; exact Vm.Alike.refl _) h.2.2⟩
theorem kBlind2 {g : KG} {av : List Value} {sz : Nat} {wc : va_W} : FrameBlind (va_Pc av (fun U => U.heap.size = sz ∧ va_P g.1 vwCl wc U.heap ∧ kE2 g (va_A wc sz) U ∧ va_D (fun _ => True) wc)) := fun a U gf mk q => by
  obtain ⟨q0, q1, qP, qE, qD⟩ := q
  exact ⟨q0, q1, qP, kE2.same (u := U) rfl rfl qE, qD⟩
theorem kD_app {A : Nat → Prop} {L M : va_W} (h1 : va_D A L) (h2 : va_D A M) (h3 : ∀ p ∈ L, ∀ q ∈ M, p.1 ≠ q.1) : va_D A (L ++ M) := by
  refine ⟨fun i j p q hi hj e => ?_, fun k q hk => ?_⟩
  · rw [List.getElem?_append] at hi hj
    split at hi <;> split at hj
    · exact h1.1 i j p q hi hj e
    · exact absurd e (h3 p (List.mem_of_getElem? hi) q (List.mem_of_getElem? hj))
    · exact absurd e.symm (h3 q (List.mem_of_getElem? hj) p (List.mem_of_getElem? hi))
    · have := h2.1 _ _ p q hi hj e; omega
  · rw [List.getElem?_append] at hk
    split at hk
    · exact h1.2 k q hk
    · exact h2.2 _ q hk
theorem kD_all {A B : Nat → Prop} {L : va_W} (h : va_D A L) (hB : ∀ q, A q → B q) : va_D B L := ⟨h.1, fun k q hk => hB _ (h.2 k q hk)⟩
/-- behind a constructor: its world in place of the new cell, at the end -/
theorem kJoin {A : Nat → Prop} {D : va_G} {cl : List vw_C} {X wc w1 : va_W} {H H1 : Heap} (hP : va_P D cl (X ++ wc) H) (hD : va_D A (X ++ wc)) (hk : ∀ q : Nat, q < H.size → ¬ va_A wc H.size q → H1[q]? = H[q]?) (hF : ∀ q, va_A wc H.size q → A q) (hP1 : va_P D cl w1 H1) (hD1 : va_D (va_A wc H.size) w1) : va_P D cl (X ++ w1) H1 ∧ va_D A (X ++ w1) := by
  have hlt : ∀ q ∈ X, q.1 < H.size := fun q hq => (kP_mem.mp hP q (List.mem_append_left _ hq)).lt
  have hno : ∀ q ∈ X, ¬ va_A wc H.size q.1 := fun q hq => by
    rintro (⟨k, e, h⟩ | h)
    · exact kD_ne hD hq (List.mem_of_getElem? h) rfl
    · exact absurd (hlt q hq) (Nat.not_lt.mpr h)
  refine ⟨kP_mem.mpr (fun q hq => ?_), kD_app (kD_pre hD) (kD_all hD1 hF) (fun p hp q hq e => ?_)⟩
  · rcases List.mem_append.mp hq with h | h
    · exact (kP_mem.mp hP q (List.mem_append_left _ h)).kept (hk q.1 (hlt q h) (hno q h))
    · exact kP_mem.mp hP1 q h
  · obtain ⟨k, hk⟩ := List.getElem?_of_mem hq
    exact hno p hp (by rw [e]; exact hD1.2 k q hk)
theorem arrV_cong {c : ClassId} {N : Nat} {f f2 : Nat → Value} (h : ∀ j, j < N → f j = f2 j) : arrV c N f = arrV c N f2 := by
  have e : (fun j : Fin N => f j.val) = fun j : Fin N => f2 j.val := funext (fun j => h j.val j.isLt)
  unfold arrV
  rw [e]
/-- a constructor's contract: mc cells and ms slots come -/
def CC (l : Launch) (y : MethodName) (cc : ByteArray) (nL : Nat) (rm : Room) (g : KG) (av : List Value) (ws : va_W) {S : Type} (post : S → Prop) (ws1 : S → va_W) (mc ms : Nat) : Prop :=
  ∀ sz : Nat, Met l y (.code y cc nL none :: wsL_law) rm (va_Pc av (fun U => U.heap.size = sz ∧ va_P g.1 vwCl ws U.heap ∧ kE2 g (va_A ws sz) U ∧ va_D (fun _ => True) ws)) (va_Qv post (fun u t => va_P g.1 vwCl (ws1 u) t.heap ∧ va_D (va_A ws sz) (ws1 u)) (va_A ws sz)) mc ms (va_A ws sz)
/-- the judgements of a method that makes cells: by how many cells and slots it has made -/
def KO2 (i : Bool) (l : Launch) (R : Room) (cc : ByteArray) (own : String) (nL : Nat) (g : KG) (J : Nat → Nat → KT) : Prop :=
  ∃ (p : Program) (e : Env) (s : State) (m : MethodId) (args : Array Value) (below : List Frame) (meth : Method) (c : Code) (A : Nat → Prop) (Q : State → Prop), CallFix p m c cc nL s args wsL_law own ∧ kE2 g A s ∧ (∀ q, s.heap.size ≤ q → A q) ∧ (i = true → meth.name = "<init>") ∧ J = fun cs sl => KJ p l e R s m args below meth c g A nL cs sl Q
abbrev rmC (h mc ms : Nat) : Room := { frames := h, cells := mc, slots := ms, locals := 40 * h }
section KM
variable {i : Bool} {l : Launch} {R rm : Room} {cc c1 : ByteArray} {own : String} {nL n1 index cs sl cs2 sl2 a : Nat} {g : KG} {J : Nat → Nat → KT} {ws ws2 wc X : va_W} {lv : List (Nat × Value)} {pc : Nat} {st fs : List Value} {y : MethodName}
theorem KO2.at (hJ : KO2 i l R cc own nL g J) (hc : cs ≤ R.cells) (hs : sl ≤ R.slots) : KO l R cc own nL g (J cs sl) := by
  obtain ⟨p, e, s, m, args, below, meth, c, A, Q, K, hE, hA, hI, rfl⟩ := hJ
  exact ⟨p, e, s, m, args, below, meth, c, A, cs, sl, Q, K, hE.1, hA, hc, hs, rfl⟩
theorem m_widen (hJ : KO2 i l R cc own nL g J) (h1 : cs ≤ cs2) (h2 : sl ≤ sl2) (k : J cs2 sl2 ws lv pc st) : J cs sl ws lv pc st := by
  obtain ⟨p, e, s, m, args, below, meth, c, A, Q, K, hE, hA, hI, rfl⟩ := hJ
  exact fun H locs ls hP hD hS hl => W.widen h1 h2 (k H locs ls hP hD hS hl)
theorem m_sub (hJ : KO2 i l R cc own nL g J) (is : List Nat) (hn : va_nd is = true) (hs : is.map (fun i => ws[i]?) = ws2.map some) (k : J cs sl ws2 lv pc st) : J cs sl ws lv pc st := by
  obtain ⟨p, e, s, m, args, below, meth, c, A, Q, K, hE, hA, hI, rfl⟩ := hJ
  refine fun H locs ls hP hD hS hl => k H locs ls (kP_mem.mpr (fun q hq => ?_)) (hD.sub is hn hs) hS hl
  have h1 : some q ∈ is.map (fun i => ws[i]?) := by rw [hs]; exact List.mem_map_of_mem hq
  obtain ⟨j, -, hj⟩ := List.mem_map.mp h1
  exact hP j q hj
theorem m_cell (hJ : KO2 i l R cc own nL g J) {cA : ClassId} {x x2 : vp_A} (q0 : Nat) (he : ws[q0]? = some (a, .inl (cA, x))) (hx : vp_cell cA x = vp_cell cA x2) (hws : ws.set q0 (a, .inl (cA, x2)) = ws2) (k : J cs sl ws2 lv pc st) : J cs sl ws lv pc st := by
  obtain ⟨p, e, s, m, args, below, meth, c, A, Q, K, hE, hA, hI, rfl⟩ := hJ
  subst hws
  intro H locs ls hP hD hS hl
  refine k H locs ls (kP_mem.mpr (fun q hq => ?_)) (hD.set he) hS hl
  rcases List.mem_or_eq_of_mem_set hq with h | h
  · exact kP_mem.mp hP q h
  · rw [h]
    show H[a]? = some (vp_cell cA x2)
    rw [← hx]
    exact hP q0 _ he
theorem m_obj (hJ : KO2 i l R cc own nL g J) (hlk : Cond.methodLink own index Lib.objectInit ∈ wsL_law) (hf : 1 ≤ R.frames) (hlo : 20 ≤ R.locals) (hdep : (st.map (fun v => v.category)).sum ≤ 8) (hd : decode cc pc = .ok (.invokespecial index, 3)) (k : J cs sl ws lv (pc + 3) st) : J cs sl ws lv pc (.ref a :: st) := by
  obtain ⟨p, e, s, m, args, below, meth, c, A, Q, K, hE, hA, hI, rfl⟩ := hJ
  intro H locs ls hP hD hS hl
  exact W.objInit K.1 K.2.1 K.2.2.2.1 (K.2.2.2.2 _ hlk) (K.2.2.2.2 _ (inr_1 _ (List.mem_of_getElem? (i := 11) rfl))) (K.2.2.2.2 _ (inr_1 _ (List.mem_of_getElem? (i := 12) rfl))) rfl (hl.1.trans K.2.2.1.symm) rfl hd hf (by have := lv_room (m := m) (pc := pc) (ls := ls) (rest := .ref a :: st) hdep; omega) (k H locs ls hP hD hS hl)
theorem m_new (hJ : KO2 i l R cc own nL g J) {C : String} {T : u_T} {N ci : Nat} (fs : List Value) (hc : vwCl[ci]? = some (C, T, N)) (hin : ∀ w ∈ u_ws C T N, w ∈ wsL_law) (ty : Nat → FieldType) (hty : ∀ k, k < N → parseFieldDescriptor (T k).2.2.1 = some (ty k)) (hcl : Cond.classLink own index C ∈ wsL_law) (hinst : Cond.instantiable C N ∈ wsL_law) (hini : Cond.initialized C ∈ wsL_law) (hfs : ∀ j, j < N → defaultValue (ty j) = vp_V fs j) (hcc : cs + 1 ≤ R.cells) (hss : sl + N ≤ R.slots) (hd : decode cc pc = .ok (.new index, 3)) (k : ∀ q, J (cs + 1) (sl + N) (ws ++ [(q, .inr (ci, fs))]) lv (pc + 3) (.ref q :: st)) : J cs sl ws lv pc st := by
  obtain ⟨p, e, s, m, args, below, meth, c, A, Q, K, hE, hA, hI, rfl⟩ := hJ
  intro H locs ls hP hD hS hl
  exact va_new K.1 K.2.1 K.2.2.2.2 hin ty hty K.2.2.2.1 (K.2.2.2.2 _ hcl) (K.2.2.2.2 _ hinst) (K.2.2.2.2 _ hini) hE.1.1 hP hD hS hA hc hfs hcc hss hd (fun q H1 hP1 hD1 hS1 => k q H1 locs ls hP1 hD1 hS1 hl)
theorem m_newI (hJ : KO2 i l R cc own nL g J) (n : Nat) (hn : n ≤ 1000) (hc : cs + 1 ≤ R.cells) (hs : sl + n ≤ R.slots) (hd : decode cc pc = .ok (.newarray .int, 2)) (k : ∀ q, J (cs + 1) (sl + n) (ws ++ [(q, .inl (kI g, n, .inl (fun _ => nI 0)))]) lv (pc + 2) (.ref q :: st)) : J cs sl ws lv pc (.int (nI n) :: st) := by
  obtain ⟨p, e, s, m, args, below, meth, c, A, Q, K, hE, hA, hI, rfl⟩ := hJ
  intro H locs ls hP hD hS hl
  refine va_newa (atype := .int) K.1 K.2.1 (K.2.2.2.2 _ (inr_2 _ (List.mem_of_getElem? (i := 3) rfl))) (ty := .int) rfl hE.1.1 hP hD hS hA (a0 := (n, .inl (fun _ => nI 0))) (fun _ => rfl) (nI_pos (by omega)) (nI_clamp (by omega)) (by show n * 4 ≤ _; omega) hc hs hd (fun q cA H1 hK1 hP1 hD1 hS1 => ?_)
  have e1 : s.vm.findClass ("[" ++ FieldType.int.toString) = some cA := (hK1.2 4 _ rfl).2
  have e2 : s.vm.findClass ("[" ++ FieldType.int.toString) = some (kI g) := (hE.1.1.2 0 _ rfl).2
  cases e1.symm.trans e2
  exact k q H1 locs ls hP1 hD1 hS1 hl
theorem m_newL (hJ : KO2 i l R cc own nL g J) (n : Nat) (hn : n ≤ 1000) (hc : cs + 1 ≤ R.cells) (hs : sl + n ≤ R.slots) (hd : decode cc pc = .ok (.newarray .long, 2)) (k : ∀ q, J (cs + 1) (sl + n) (ws ++ [(q, .inl (kL g, n, .inr (.inl (fun _ => 0))))]) lv (pc + 2) (.ref q :: st)) : J cs sl ws lv pc (.int (nI n) :: st) := by
  obtain ⟨p, e, s, m, args, below, meth, c, A, Q, K, hE, hA, hI, rfl⟩ := hJ
  intro H locs ls hP hD hS hl
  refine va_newa (atype := .long) K.1 K.2.1 (K.2.2.2.2 _ (inr_3 _ (List.mem_of_getElem? (i := 13) rfl))) (ty := .long) rfl hE.1.1 hP hD hS hA (a0 := (n, .inr (.inl (fun _ => 0)))) (fun _ => rfl) (nI_pos (by omega)) (nI_clamp (by omega)) (by show n * 8 ≤ _; omega) hc hs hd (fun q cA H1 hK1 hP1 hD1 hS1 => ?_)
  have e1 : s.vm.findClass ("[" ++ FieldType.long.toString) = some cA := (hK1.2 4 _ rfl).2
  have e2 : s.vm.findClass ("[" ++ FieldType.long.toString) = some (kL g) := (hE.1.1.2 1 _ rfl).2
  cases e1.symm.trans e2
  exact k q H1 locs ls hP1 hD1 hS1 hl
theorem m_newS (hJ : KO2 i l R cc own nL g J) (n : Nat) (hn : n ≤ 1000) (hcl : Cond.classLink own index RX1 ∈ wsL_law) (hc : cs + 1 ≤ R.cells) (hs : sl + n ≤ R.slots) (hd : decode cc pc = .ok (.anewarray index, 3)) (k : ∀ q, J (cs + 1) (sl + n) (ws ++ [(q, .inl (kS g, n, .inr (.inr (.inr (.inr (fun _ => none))))))]) lv (pc + 3) (.ref q :: st)) : J cs sl ws lv pc (.int (nI n) :: st) := by
  obtain ⟨p, e, s, m, args, below, meth, c, A, Q, K, hE, hA, hI, rfl⟩ := hJ
  intro H locs ls hP hD hS hl
  refine va_newq K.1 K.2.1 K.2.2.2.1 (K.2.2.2.2 _ hcl) hE.2.1 hE.1.1 hP hD hS hA (nI_pos (by omega)) (nI_clamp (by omega)) (by omega) hc hs hd (fun q cA H1 hK1 hP1 hD1 hS1 => ?_)
  obtain ⟨_, _, -, -, -, e1⟩ := (hK1.2 4 _ rfl).2
  obtain ⟨_, _, -, -, -, e2⟩ := (hE.1.1.2 3 _ rfl).2
  cases e1.symm.trans e2
  exact k q H1 locs ls hP1 hD1 hS1 hl
theorem m_rows {r : Nat → Nat} {N : Nat} {f : Nat → va_E} {z : va_E} : va_pl ([] ++ (List.range N).map r) (vr_up f ((List.range N).map r) z) = (List.range N).map (fun i => (r i, z)) := by
  unfold va_pl
  rw [List.nil_append, List.map_map]
  refine List.map_congr_left (fun i hi => ?_)
  show (r i, vr_up f ((List.range N).map r) z (r i)) = (r i, z)
  rw [vr_up_in (List.mem_map_of_mem hi)]
theorem m_mna (hJ : KO2 i l R cc own nL g J) (hcl : Cond.classLink own index "[[I" ∈ wsL_law) (hc : cs + (1 + 6) ≤ R.cells) (hs : sl + (6 + 6 * 8) ≤ R.slots) (hd : decode cc pc = .ok (.multianewarray index 2, 4)) (k : ∀ q (r : Nat → Nat), J (cs + 1 + 6) (sl + 6 + 6 * 8) (ws ++ ([(q, .inl (kO g, 6, .inr (.inr (.inr (.inr (fun i => some (r i)))))))] ++ (List.range 6).map (fun i => (r i, .inl (kI g, 8, .inl (fun _ => nI 0)))))) lv (pc + 4) (.ref q :: st)) : J cs sl ws lv pc (.int (nI 8) :: .int (nI 6) :: st) := by
  obtain ⟨p, e, s, m, args, below, meth, c, A, Q, K, hE, hA, hI, rfl⟩ := hJ
  intro H locs ls hP hD hS hl
  have ew : ws = ws ++ va_pl [] (fun _ => Sum.inr (0, [])) := (List.append_nil ws).symm
  have e2 : s.vm.findClass ("[" ++ FieldType.int.toString) = some (kI g) := (hE.1.1.2 0 _ rfl).2
  rw [ew] at hP hD
  refine va_mna (X := ws) (L := []) (f := fun _ => Sum.inr (0, [])) (ty := .int) (cy := kI g) (N' := 6) (K' := 8) (z := (8, .inl (fun _ => nI 0))) K.1 K.2.1 K.2.2.2.1 (K.2.2.2.2 _ hcl) hE.2.2 (K.2.2.2.2 _ (inr_2 _ (List.mem_of_getElem? (i := 3) rfl))) e2 hE.1.1 hP hD hS hA (nI_pos (by decide)) (nI_pos (by decide)) (nI_clamp (by decide)) (nI_clamp (by decide)) (by decide) (by decide) (by decide) (by decide) (by decide) hc hs (fun c => ?_) hd (fun q r cA H1 hr1 hr2 hK1 hP1 hD1 hS1 => ?_)
  · first | rfl | exact arrV_new c 8 (.int 0) | (show _ = arrV c 8 (fun _ => .int (nI 0)); exact arrV_new c 8 (.int 0))
  · have e3 : s.vm.findClass ("[" ++ (FieldType.array .int).toString) = some cA := (hK1.2 4 _ rfl).2
    have e4 : s.vm.findClass ("[" ++ (FieldType.array .int).toString) = some (kO g) := (hE.1.1.2 2 _ rfl).2
    cases e3.symm.trans e4
    rw [m_rows, List.append_assoc] at hP1 hD1
    refine k q r H1 locs ls (kP_mem.mpr (fun x hx => ?_)) (kD_congr (by simp only [List.map_append, List.map_cons, List.map_nil]) hD1) hS1 hl
    have hm := kP_mem.mp hP1
    rcases List.mem_append.mp hx with h | h
    · exact hm x (List.mem_append_left _ h)
    · rcases List.mem_append.mp h with h | h
      · rw [List.mem_singleton.mp h]
        have hq := hm _ (List.mem_append_right ws (List.mem_append_left _ (List.mem_singleton.mpr rfl)))
        refine Eq.trans hq (congrArg some ?_)
        exact arrV_cong (fun j hj => by show va_rf (if j < 6 then some (r j) else none) = va_rf (some (r j)); rw [if_pos hj])
      · exact hm x (List.mem_append_right _ (List.mem_append_right _ h))
theorem m_putF (hJ : KO2 true l R cc own nL g J) {C : String} {T : u_T} {N ci : Nat} {v : Value} {ty : FieldType} (q0 : Nat) (he : ws[q0]? = some (a, .inr (ci, fs))) (k : Nat) (hws : ws.set q0 (a, .inr (ci, fs.set k v)) = ws2) (hc : vwCl[ci]? = some (C, T, N)) (hin : ∀ w ∈ u_ws C T N, w ∈ wsL_law) (ty0 : Nat → FieldType) (hty : ∀ k, k < N → parseFieldDescriptor (T k).2.2.1 = some (ty0 k)) (hnm : ∀ a, a < N → ∀ b, b < N → a ≠ b → (T a).2.1 ≠ (T b).2.1) (hk : k < N) (hw : Cond.fieldLink own index (T k).1 (T k).2.1 (T k).2.2.1 ∈ wsL_law) (hfin : (T k).2.2.2 = true) (hdecl : (T k).1 = own) (hdt : parseFieldDescriptor (T k).2.2.1 = some ty) (hn : narrow ty v = v) (hfit : fits ty v = true) (hl0 : k < fs.length) (hd : decode cc pc = .ok (.putfield index, 3)) (k1 : J cs sl ws2 lv (pc + 3) st) : J cs sl ws lv pc (v :: .ref a :: st) := by
  obtain ⟨p, e, s, m, args, below, meth, c, A, Q, K, hE, hA, hI, rfl⟩ := hJ
  subst hws
  exact fun H locs ls hP hD hS hl => va_putF K.1 K.2.1 K.2.2.2.2 hin ty0 hty hnm K.2.2.2.1 hE.1.1 hP hD hS q0 he hc k hk (K.2.2.2.2 _ hw) (fun _ h => h) hfin (hI rfl) hdecl hdt hn hfit hl0 hd (fun H1 locs1 hP1 hD1 hS1 => k1 H1 locs1 ls hP1 hD1 hS1 hl)
theorem m_astS (hJ : KO2 i l R cc own nL g J) {n v j : Nat} {vs : List Value} {f : Nat → Option Nat} (q0 qk : Nat) (ha : ws[q0]? = some (a, .inl (kS g, n, .inr (.inr (.inr (.inr f)))))) (hv : ws[qk]? = some (v, .inr (1, vs))) (hj : j < n) (hn : n < 2 ^ 31) (hws : ws.set q0 (a, .inl (kS g, n, .inr (.inr (.inr (.inr (va_up f j (some v))))))) = ws2) (hd : decode cc pc = .ok (.aastore, 1)) (k1 : J cs sl ws2 lv (pc + 1) st) : J cs sl ws lv pc (.ref v :: .int (nI j) :: .ref a :: st) := by
  obtain ⟨p, e, s, m, args, below, meth, c, A, Q, K, hE, hA, hI, rfl⟩ := hJ
  subst hws
  exact fun H locs ls hP hD hS hl => va_astq K.1 K.2.1 hE.1.1 hP hD hS q0 3 qk 1 (r := (RX1, TX1, 3)) ha rfl hv rfl (vp_in_nI hj hn) hd (by rw [nI_clamp (Nat.lt_trans hj hn)]; exact fun H1 locs1 hP1 hD1 hS1 => k1 H1 locs1 ls hP1 hD1 hS1 hl)
theorem m_callI {S : Type} {post : S → Prop} {wc1 : S → va_W} {mc ms : Nat} {b : Nat} (hJ : KO2 i l R cc own nL g J) (hM : CC l y c1 n1 rm g [.ref b] wc post wc1 mc ms) (hy : y.name = "<init>" ∧ y.cls ≠ "java/lang/invoke/MethodHandle" ∧ y.cls ≠ "java/lang/invoke/VarHandle" ∧ (parseMethodDescriptor y.desc).map (fun d => d.parameters.length) = some 0) (hin : Cond.instanceMethod y ∈ wsL_law) (hini : Cond.initialized y.cls ∈ wsL_law) (hco : Cond.code y c1 n1 none ∈ wsL_law) (hlk : Cond.methodLink own index y ∈ wsL_law) (hrc : rm.cells = mc) (hrs : rm.slots = ms) (hR : rm.frames + 1 ≤ R.frames ∧ 8 + (n1 + 11) + rm.locals ≤ R.locals) (hcc : cs + mc ≤ R.cells) (hss : sl + ms ≤ R.slots) (hdep : (st.map (fun v => v.category)).sum ≤ 8) (hd : decode cc pc = .ok (.invokespecial index, 3)) (k : ∀ u, post u → J (cs + mc) (sl + ms) (X ++ wc1 u) lv (pc + 3) st) : J cs sl (X ++ wc) lv pc (.ref b :: st) := by
  obtain ⟨p, e, s, m, args, below, meth, c, A, Q, K, hE, hA, hI, rfl⟩ := hJ
  intro H locs ls hP hD hS hl
  have hts := K.2.2.2.2
  have hDc : va_D A wc := kD_suf hD
  have hPc : va_P g.1 vwCl wc H := kP_mem.mpr (fun q hq => kP_mem.mp hP q (List.mem_append_right _ hq))
  have hF := kA_free hDc hS hA
  refine va_callv (va_runI (As := []) (rest := st) K (hM H.size) (cwI 0 hts (kGoodIn hco) rfl hrc hrs (hts _ hini) (hts _ hlk) (hts _ hin) hy.1 hy.2 hR) ⟨kBlind2, fun U hU hW => ⟨rfl, by rw [hU], by rw [hU]; exact hPc, kE2.call hE hW hU hS hF, hDc.weaken (fun _ _ _ _ => trivial)⟩⟩ rfl rfl hl.1 rfl (lv_room hdep) hd ⟨hcc, hss⟩) hS (fun q _ h => hF q h) hF (fun u t H1 locs1 ht hvm hp hB hz1 hk1 hS1 => ?_)
  obtain ⟨hP1, hD1⟩ := hB
  rw [ht] at hP1
  obtain ⟨hP2, hD2⟩ := kJoin hP hD hk1 hF hP1 hD1
  exact k u hp H1 locs1 ls hP2 hD2 hS1 hl
end KM
theorem m_body {l : Launch} {rm : Room} {cc : ByteArray} {nL : Nat} {g : KG} {ws : va_W} {av : List Value} {y : MethodName} {S : Type} {post : S → Prop} {ws1 : S → va_W} {mc ms : Nat} (hy : plainName y.cls = true) (hy1 : y.name = "<init>") (hlen : (lg_sl av).length ≤ nL) (body : ∀ J : Nat → Nat → KT, KO2 true l rm cc y.cls nL g J → (∀ (lv : List (Nat × Value)) (pc : Nat) (u : S), decode cc pc = .ok (.return_, 1) → post u → J mc ms (ws1 u) lv pc []) → J 0 0 ws (lv_args 0 av) 0 []) : CC l y cc nL rm g av ws post ws1 mc ms := by
  intro sz
  refine Met.ofW (cc := cc) (maxL := nL) (ret := none) hy rfl ?_
  intro p e s m args below meth c s₁ B hml hv
  obtain ⟨rfl, hsz, hP, hE, hD0⟩ := hv
  have hts := atoms_spec (ws := Cond.code y cc nL none :: wsL_law) B.pre
  have K : CallFix p m c cc nL s av.toArray wsL_law y.cls := ⟨B.exec, B.bytes, hml, findClass_of_methodNamed B.named, fun w hw => hts w (List.mem_cons_of_mem _ hw)⟩
  have hlocks := B.notSynchronized
  have hr := B.returns
  have hnm : meth.name = "<init>" := (name_of_methodNamed B.named B.method).1.trans hy1
  subst hsz
  have hD := hD0.self (sz := s.heap.size)
  have hl := lv_entry av (n := nL) hlen
  rw [lg_entry_eq]
  exact body (fun cs sl => KJ p l e rm s m av.toArray below meth c g (va_A ws s.heap.size) nL cs sl (MQ below (va_Qv post (fun u t => va_P g.1 vwCl (ws1 u) t.heap ∧ va_D (va_A ws s.heap.size) (ws1 u)) (va_A ws s.heap.size)) av.toArray s mc ms (va_A ws s.heap.size))) ⟨p, e, s, m, _, below, meth, c, _, _, K, hE, fun q h => Or.inr h, fun _ => hnm, rfl⟩ (fun lv pc u hd hp H locs ls hP hD hS hl => W.vret K.1 K.2.1 hr (fun t ht hW => ⟨⟨u, rfl, hp, by show va_P g.1 vwCl (ws1 u) t.heap; rw [ht]; exact hP, hD⟩, hS.F ht⟩) hS.2.2 hd hlocks) s.heap [] _ hP hD va_S.rf hl
