/-- a contract's end: an answer, a world behind it, nothing outside A changed -/
def kQ {α S : Type} (ov : α → Option Value) (post : α → S → Prop) (B : S → State → Prop) (A : Nat → Prop) : Array Value → State → Outcome → State → Prop := fun _ st oc t => (∃ (r : α) (u : S), oc = .returned (ov r) ∧ post r u ∧ B u t) ∧ va_F A st t
/-- a contract here: from the world ws, with these arguments, the method answers r and leaves the world ws1 u, with post r u; no cell is made -/
def CT (l : Launch) (y : MethodName) (cc : ByteArray) (nL : Nat) (ret : Option FieldType) (rm : Room) (g : KG) (av : List Value) (ws : va_W) {α S : Type} (ov : α → Option Value) (post : α → S → Prop) (ws1 : S → va_W) : Prop :=
  ∀ sz : Nat, Met l y (.code y cc nL ret :: wsL_law) rm (va_Pc av (fun U => U.heap.size = sz ∧ va_P g.1 vwCl ws U.heap ∧ kE g (va_A ws sz) U ∧ va_D (fun _ => True) ws)) (kQ ov post (fun u t => va_P g.1 vwCl (ws1 u) t.heap) (va_A ws sz)) 0 0 (va_A ws sz)
abbrev oI : Int32 → Option Value := fun r => some (.int r)
abbrev oL : Int64 → Option Value := fun r => some (.long r)
abbrev oA : Nat → Option Value := fun r => some (.ref r)
abbrev oV : Unit → Option Value := fun _ => none
/-- contracts whose answer and world are known -/
abbrev CI (l : Launch) (y : MethodName) (cc : ByteArray) (nL : Nat) (ret : Option FieldType) (rm : Room) (g : KG) (av : List Value) (ws : va_W) (r : Int32) (ws1 : va_W) : Prop := CT l y cc nL ret rm g av ws (S := Unit) oI (fun x _ => x = r) (fun _ => ws1)
abbrev CL (l : Launch) (y : MethodName) (cc : ByteArray) (nL : Nat) (ret : Option FieldType) (rm : Room) (g : KG) (av : List Value) (ws : va_W) (r : Int64) (ws1 : va_W) : Prop := CT l y cc nL ret rm g av ws (S := Unit) oL (fun x _ => x = r) (fun _ => ws1)
abbrev CA (l : Launch) (y : MethodName) (cc : ByteArray) (nL : Nat) (ret : Option FieldType) (rm : Room) (g : KG) (av : List Value) (ws : va_W) (r : Nat) (ws1 : va_W) : Prop := CT l y cc nL ret rm g av ws (S := Unit) oA (fun x _ => x = r) (fun _ => ws1)
abbrev CV (l : Launch) (y : MethodName) (cc : ByteArray) (nL : Nat) (ret : Option FieldType) (rm : Room) (g : KG) (av : List Value) (ws : va_W) (ws1 : va_W) : Prop := CT l y cc nL ret rm g av ws (S := Unit) oV (fun _ _ => True) (fun _ => ws1)
/-- a part of a world, all in one stretch, becomes another with the same addresses -/
def Fr (ws wc wc1 ws2 : va_W) : Prop := ∃ L M : va_W, ws = L ++ (wc ++ M) ∧ ws2 = L ++ (wc1 ++ M) ∧ wc1.map Prod.fst = wc.map Prod.fst
theorem Fr.all {wc wc1 : va_W} (h : wc1.map Prod.fst = wc.map Prod.fst) : Fr wc wc wc1 wc1 := ⟨[], [], by simp, by simp, h⟩
theorem Fr.none {ws : va_W} : Fr ws [] [] ws := ⟨ws, [], by simp, by simp, rfl⟩
theorem Fr.mid {L M wc wc1 : va_W} (h : wc1.map Prod.fst = wc.map Prod.fst) : Fr (L ++ (wc ++ M)) wc wc1 (L ++ (wc1 ++ M)) := ⟨L, M, rfl, rfl, h⟩
theorem kP_mem {D : va_G} {cl : List vw_C} {ws : va_W} {H : Heap} : va_P D cl ws H ↔ ∀ q ∈ ws, va_at D cl q H := ⟨fun h q hq => by
  obtain ⟨k, hk⟩ := List.getElem?_of_mem hq
  exact h k q hk, fun h k q hk => h q (List.mem_of_getElem? hk)⟩
theorem kD_pre {A : Nat → Prop} {L M : va_W} (h : va_D A (L ++ M)) : va_D A L := by
  have key : ∀ (i : Nat) (q : Nat × va_E), L[i]? = some q → (L ++ M)[i]? = some q := fun i q hi => by
    rw [List.getElem?_append_left (List.getElem?_eq_some_iff.mp hi).1]; exact hi
  exact ⟨fun i j p q hi hj e => h.1 i j p q (key i p hi) (key j q hj) e, fun k q hk => h.2 k q (key k q hk)⟩
theorem kD_suf {A : Nat → Prop} {L M : va_W} (h : va_D A (L ++ M)) : va_D A M := by
  have key : ∀ (i : Nat) (q : Nat × va_E), M[i]? = some q → (L ++ M)[L.length + i]? = some q := fun i q hi => by
    rw [List.getElem?_append_right (by omega)]
    rw [show L.length + i - L.length = i by omega]
    exact hi
  exact ⟨fun i j p q hi hj e => by have := h.1 _ _ p q (key i p hi) (key j q hj) e; omega, fun k q hk => h.2 _ q (key k q hk)⟩
theorem kD_ne {A : Nat → Prop} {L M : va_W} (h : va_D A (L ++ M)) {p q : Nat × va_E} (hp : p ∈ L) (hq : q ∈ M) : p.1 ≠ q.1 := by
  obtain ⟨i, hi⟩ := List.getElem?_of_mem hp
  obtain ⟨j, hj⟩ := List.getElem?_of_mem hq
  have hl := (List.getElem?_eq_some_iff.mp hi).1
  intro e
  have := h.1 i (L.length + j) p q (by rw [List.getElem?_append_left hl]; exact hi) (by
    rw [List.getElem?_append_right (by omega)]
    rw [show L.length + j - L.length = j by omega]
    exact hj) e
  omega
theorem kD_congr {A : Nat → Prop} {v w : va_W} (e : w.map Prod.fst = v.map Prod.fst) (h : va_D A v) : va_D A w := by
  have key : ∀ (i : Nat) (q : Nat × va_E), w[i]? = some q → ∃ q0, v[i]? = some q0 ∧ q0.1 = q.1 := fun i q hi => by
    have h1 : (w.map Prod.fst)[i]? = some q.1 := by rw [List.getElem?_map, hi]; rfl
    rw [e, List.getElem?_map] at h1
    cases hv : v[i]? with
    | none => rw [hv] at h1; cases h1
    | some q0 => rw [hv] at h1; exact ⟨q0, rfl, Option.some.inj h1⟩
  refine ⟨fun i j p q hi hj hpq => ?_, fun k q hk => ?_⟩
  · obtain ⟨p0, h1, h2⟩ := key i p hi
    obtain ⟨q0, h3, h4⟩ := key j q hj
    exact h.1 i j p0 q0 h1 h3 (h2.trans (hpq.trans h4.symm))
  · obtain ⟨q0, h1, h2⟩ := key k q hk
    rw [← h2]
    exact h.2 k q0 h1
theorem Fr.P {D : va_G} {cl : List vw_C} {A : Nat → Prop} {ws wc wc1 ws2 : va_W} {H H1 : Heap} (f : Fr ws wc wc1 ws2) (hP : va_P D cl ws H) (hD : va_D A ws) (hk : ∀ q : Nat, q < H.size → ¬ va_A wc H.size q → H1[q]? = H[q]?) (h1 : va_P D cl wc1 H1) : va_P D cl ws2 H1 := by
  obtain ⟨L, M, rfl, rfl, -⟩ := f
  have hk2 : ∀ q ∈ L ++ (wc ++ M), (∀ x ∈ wc, x.1 ≠ q.1) → va_at D cl q H1 := fun q hq hx => by
    have a := kP_mem.mp hP q hq
    refine a.kept (hk q.1 a.lt ?_)
    rintro (⟨k, e, h⟩ | h)
    · exact hx (q.1, e) (List.mem_of_getElem? h) rfl
    · exact absurd a.lt (Nat.not_lt.mpr h)
  refine kP_mem.mpr (fun q hq => ?_)
  rcases List.mem_append.mp hq with h | h
  · exact hk2 q (List.mem_append_left _ h) (fun x hx e => kD_ne hD h (List.mem_append_left _ hx) e.symm)
  · rcases List.mem_append.mp h with h | h
    · exact kP_mem.mp h1 q h
    · exact hk2 q (List.mem_append_right _ (List.mem_append_right _ h)) (fun x hx e => kD_ne (kD_suf hD) hx h e)
theorem Fr.D {A : Nat → Prop} {ws wc wc1 ws2 : va_W} (f : Fr ws wc wc1 ws2) (hD : va_D A ws) : va_D A ws2 := by
  obtain ⟨L, M, rfl, rfl, e⟩ := f
  exact kD_congr (by simp only [List.map_append, e]) hD
theorem Fr.sub {D : va_G} {cl : List vw_C} {ws wc wc1 ws2 : va_W} {H : Heap} (f : Fr ws wc wc1 ws2) (hP : va_P D cl ws H) : va_P D cl wc H := by
  obtain ⟨L, M, rfl, rfl, -⟩ := f
  exact kP_mem.mpr (fun q hq => kP_mem.mp hP q (List.mem_append_right _ (List.mem_append_left _ hq)))
theorem Fr.subD {A : Nat → Prop} {ws wc wc1 ws2 : va_W} (f : Fr ws wc wc1 ws2) (hD : va_D A ws) : va_D A wc := by
  obtain ⟨L, M, rfl, rfl, -⟩ := f
  exact kD_pre (kD_suf hD)
theorem kA_free {A : Nat → Prop} {wc : va_W} {H0 H : Heap} {locs : List Loc} (hD : va_D A wc) (hS : va_S A H0 H locs) (hA : ∀ q, H0.size ≤ q → A q) : ∀ q, va_A wc H.size q → A q := by
  rintro q (⟨k, e, h⟩ | h)
  · exact hD.2 k (q, e) h
  · exact hA q (Nat.le_trans hS.1 h)
/-- what is known of a method: its words, how many arguments it takes -/
def kMV (y : MethodName) (cc : ByteArray) (nL : Nat) (ret : Option FieldType) (n : Nat) : Prop := .instanceMethod y ∈ wsL_law ∧ .selects y.cls y y ∈ wsL_law ∧ .initialized y.cls ∈ wsL_law ∧ .code y cc nL ret ∈ wsL_law ∧ y.cls ≠ "java/lang/invoke/MethodHandle" ∧ y.cls ≠ "java/lang/invoke/VarHandle" ∧ (parseMethodDescriptor y.desc).map (fun d => d.parameters.length) = some n
def kMS (y : MethodName) (cc : ByteArray) (nL : Nat) (ret : Option FieldType) (n : Nat) : Prop := .static y ∈ wsL_law ∧ .initialized y.cls ∈ wsL_law ∧ .code y cc nL ret ∈ wsL_law ∧ y.cls ≠ "java/lang/invoke/MethodHandle" ∧ y.cls ≠ "java/lang/invoke/VarHandle" ∧ (parseMethodDescriptor y.desc).map (fun d => d.parameters.length) = some n
abbrev kRm (R rm : Room) (nL : Nat) : Prop := rm.cells = 0 ∧ rm.slots = 0 ∧ rm.frames + 1 ≤ R.frames ∧ 8 + (nL + 11) + rm.locals ≤ R.locals
theorem kBlind {g : KG} {av : List Value} {sz : Nat} {wc : va_W} : FrameBlind (va_Pc av (fun U => U.heap.size = sz ∧ va_P g.1 vwCl wc U.heap ∧ kE g (va_A wc sz) U ∧ va_D (fun _ => True) wc)) := fun a U gf mk q => by
  obtain ⟨q0, q1, qP, qE, qD⟩ := q
  exact ⟨q0, q1, qP, kE.same (u := U) rfl rfl qE, qD⟩
section KA
variable {p : Program} {l : Launch} {e : Env} {R : Room} {s : State} {m : MethodId} {args : Array Value} {below : List Frame} {meth : Method} {c : Code} {H : Heap} {locs : List Loc} {cs sl : Nat} {Q : State → Prop}
variable {g : KG} {A : Nat → Prop} {nL pc : Nat} {ls : Array Slot} {lv : List (Nat × Value)} {st st0 : List Value} {a : Array Value} {ws wc : va_W}
theorem k_after {α S : Type} {ov : α → Option Value} {post : α → S → Prop} {wc1 ws2 : S → va_W} (hr : va_Run p l e R s m args below meth c H locs cs sl 0 0 (F0 m pc ls st0) st (kQ ov post (fun u t => va_P g.1 vwCl (wc1 u) t.heap) (va_A wc H.size) a) (va_A wc H.size)) (hP : va_P g.1 vwCl ws H) (hD : va_D A ws) (hS : va_S A s.heap H locs) (hA : ∀ q, s.heap.size ≤ q → A q) (hl : lv_has ls nL lv) (fr : ∀ u, Fr ws wc (wc1 u) (ws2 u))
    (kk : ∀ (r : α) (u : S), post r u → KJ p l e R s m args below meth c g A nL cs sl Q (ws2 u) lv (pc + 3) ((ov r).toList ++ st)) : W p l e R s m args below meth c H locs cs sl Q (F0 m pc ls st0) := by
  intro T hT X
  obtain ⟨v, st₀, t, T', Lc, h0, X', hL, e1, e2, ⟨⟨r, u, hv, hp, hb⟩, hz, hk⟩, stp⟩ := hr T hT X
  cases hv
  rw [h0] at hz hk
  have hF := kA_free ((fr u).subD hD) hS hA
  have hP2 : va_P g.1 vwCl (ws2 u) T'.heap := (fr u).P hP hD (fun q h1 h2 => by rw [e1]; exact hk q h1 h2) (by rw [e1]; exact hb)
  obtain ⟨t2, a1, b1⟩ := kk r u hp T'.heap (locs ++ Lc) ls hP2 ((fr u).D hD)
    ⟨Nat.le_trans hS.1 (by rw [e1]; exact hz), fun q h1 h2 => by rw [e1, hk q (Nat.lt_of_lt_of_le h1 hS.1) (fun z => h2 (hF q z))]; exact hS.2.1 q h1 h2, fun q hq => by
      rcases List.mem_append.mp hq with h | h
      · exact hS.2.2 q h
      · exact hF _ (hL q h)⟩ hl T' rfl X'
  exact ⟨t2, stp t2 a1, b1⟩
end KA
section KB
variable {l : Launch} {R rm : Room} {cc c1 : ByteArray} {own : String} {nL n1 n index b : Nat} {g : KG} {J : KT} {ws wc : va_W} {lv : List (Nat × Value)} {pc : Nat} {st st0 As fs : List Value} {y : MethodName} {ret : Option FieldType} {q : vw_C} {ci : Nat}
theorem k_callV {α S : Type} [Nonempty S] {ov : α → Option Value} {post : α → S → Prop} {wc1 ws2 : S → va_W} (hJ : KO l R cc own nL g J) (hM : CT l y c1 n1 ret rm g (.ref b :: As) wc ov post wc1) (fr : ∀ u, Fr ws wc (wc1 u) (ws2 u)) (hy : kMV y c1 n1 ret n) (hlk : Cond.methodLink own index y ∈ wsL_law) (q0 : Nat) (he : ws[q0]? = some (b, .inr (ci, fs))) (hc : vwCl[ci]? = some q) (hq : q.1 = y.cls) (hrm : kRm R rm n1) (hst : st0 = As.reverse ++ .ref b :: st) (hn : As.length = n) (hdep : (st.map (fun v => v.category)).sum ≤ 8) (hd : decode cc pc = .ok (.invokevirtual index, 3))
    (kk : ∀ (r : α) (u : S), post r u → J (ws2 u) lv (pc + 3) ((ov r).toList ++ st)) : J ws lv pc st0 := by
  obtain ⟨p, e, s, m, args, below, meth, c, A, cs, sl, Q, K, hE, hA, hcs, hsl, rfl⟩ := hJ
  intro H locs ls hP hD hS hl
  obtain ⟨i1, i2, i3, i4, i5, i6, i7⟩ := hy
  obtain ⟨r1, r2, r3, r4⟩ := hrm
  obtain ⟨u0⟩ := ‹Nonempty S›
  have hts := K.2.2.2.2
  have cw : CallW R s args own y.cls index y c1 n1 ret (.code y c1 n1 ret :: wsL_law) rm 0 0 n := ⟨callB_of n hts (kGoodIn i4) rfl r1 r2 (hts _ i3) (hts _ hlk) ⟨i5, i6, i7⟩ ⟨r3, r4⟩, hts _ i1, hts _ i2⟩
  have rcv := va_recv hE.1 hP (ci := ci) (q0 := q0) hc he
  rw [hq] at rcv
  exact k_after (va_runV K (hM H.size) cw ⟨kBlind, rcv, fun U hU hW => ⟨rfl, by rw [hU], by rw [hU]; exact (fr u0).sub hP, kE.call hE hW hU hS (kA_free ((fr u0).subD hD) hS hA), ((fr u0).subD hD).weaken (fun _ _ _ _ => trivial)⟩⟩ rfl hn hl.1 hst (lv_room hdep) hd ⟨hcs, hsl⟩) hP hD hS hA hl fr kk
theorem k_callS {α S : Type} [Nonempty S] {ov : α → Option Value} {post : α → S → Prop} {wc1 ws2 : S → va_W} (hJ : KO l R cc own nL g J) (hM : CT l y c1 n1 ret rm g As wc ov post wc1) (fr : ∀ u, Fr ws wc (wc1 u) (ws2 u)) (hy : kMS y c1 n1 ret n) (hlk : Cond.methodLink own index y ∈ wsL_law) (hrm : kRm R rm n1) (hst : st0 = As.reverse ++ st) (hn : As.length = n) (hdep : (st.map (fun v => v.category)).sum ≤ 8) (hd : decode cc pc = .ok (.invokestatic index, 3))
    (kk : ∀ (r : α) (u : S), post r u → J (ws2 u) lv (pc + 3) ((ov r).toList ++ st)) : J ws lv pc st0 := by
  obtain ⟨p, e, s, m, args, below, meth, c, A, cs, sl, Q, K, hE, hA, hcs, hsl, rfl⟩ := hJ
  intro H locs ls hP hD hS hl
  obtain ⟨i1, i3, i4, i5, i6, i7⟩ := hy
  obtain ⟨r1, r2, r3, r4⟩ := hrm
  obtain ⟨u0⟩ := ‹Nonempty S›
  have hts := K.2.2.2.2
  have cw : CallB R s args own index y c1 n1 ret (.code y c1 n1 ret :: wsL_law) rm 0 0 n ∧ (Cond.static y).before args s = true := ⟨callB_of n hts (kGoodIn i4) rfl r1 r2 (hts _ i3) (hts _ hlk) ⟨i5, i6, i7⟩ ⟨r3, r4⟩, hts _ i1⟩
  exact k_after (va_runS K (hM H.size) cw ⟨kBlind, fun U hU hW => ⟨rfl, by rw [hU], by rw [hU]; exact (fr u0).sub hP, kE.call hE hW hU hS (kA_free ((fr u0).subD hD) hS hA), ((fr u0).subD hD).weaken (fun _ _ _ _ => trivial)⟩⟩ rfl hn hl.1 hst (lv_room hdep) hd ⟨hcs, hsl⟩) hP hD hS hA hl fr kk
/-- a private static method of the nest's host, called out of Hall: its link is one of kE's -/
theorem k_callN {α S : Type} [Nonempty S] {ov : α → Option Value} {post : α → S → Prop} {wc1 ws2 : S → va_W} (hJ : KO l R cc own nL g J) (hM : CT l y c1 n1 ret rm g As wc ov post wc1) (fr : ∀ u, Fr ws wc (wc1 u) (ws2 u)) (hy : kMS y c1 n1 ret n) (hlk : ∀ (A : Nat → Prop) (U : State), kE g A U → va_Nw (.methodLinkNest own index y "NoseJury") U) (hrm : kRm R rm n1) (hst : st0 = As.reverse ++ st) (hn : As.length = n) (hdep : (st.map (fun v => v.category)).sum ≤ 8) (hd : decode cc pc = .ok (.invokestatic index, 3))
    (kk : ∀ (r : α) (u : S), post r u → J (ws2 u) lv (pc + 3) ((ov r).toList ++ st)) : J ws lv pc st0 := by
  obtain ⟨p, e, s, m, args, below, meth, c, A, cs, sl, Q, K, hE, hA, hcs, hsl, rfl⟩ := hJ
  intro H locs ls hP hD hS hl
  obtain ⟨i1, i3, i4, i5, i6, i7⟩ := hy
  obtain ⟨r1, r2, r3, r4⟩ := hrm
  obtain ⟨u0⟩ := ‹Nonempty S›
  have hts := K.2.2.2.2
  have cw : va_CN R s args own index y "NoseJury" c1 n1 ret (.code y c1 n1 ret :: wsL_law) rm 0 0 n ∧ (Cond.static y).before args s = true ∧ True := ⟨va_cnB n hts (kGoodIn i4) rfl r1 r2 (hlk A s hE) (hts _ i3) ⟨i5, i6, i7⟩ ⟨r3, r4⟩, hts _ i1, trivial⟩
  exact k_after (va_runSN K (hM H.size) cw ⟨kBlind, fun U hU hW => ⟨rfl, by rw [hU], by rw [hU]; exact (fr u0).sub hP, kE.call hE hW hU hS (kA_free ((fr u0).subD hD) hS hA), ((fr u0).subD hD).weaken (fun _ _ _ _ => trivial)⟩⟩ rfl hn hl.1 hst (lv_room hdep) hd ⟨hcs, hsl⟩) hP hD hS hA hl fr kk
end KB
section KC
variable {l : Launch} {rm : Room} {cc : ByteArray} {nL : Nat} {g : KG} {ws : va_W} {av : List Value} {y : MethodName} {S : Type}
theorem k_bodyI {ws1 : S → va_W} {post : Int32 → S → Prop} {ty : FieldType} (hy : plainName y.cls = true) (hlen : (lg_sl av).length ≤ nL) (hty : ∀ r u, post r u → narrow ty (.int r) = .int r)
    (body : ∀ J : KT, KO l rm cc y.cls nL g J → (∀ (lv : List (Nat × Value)) (pc : Nat) (r : Int32) (u : S), decode cc pc = .ok (.ireturn, 1) → post r u → J (ws1 u) lv pc [.int r]) → J ws (lv_args 0 av) 0 []) : CT l y cc nL (some ty) rm g av ws oI post ws1 := by
  intro sz
  refine Met.ofW (cc := cc) (maxL := nL) (ret := some ty) hy rfl ?_
  intro p e s m args below meth c s₁ B hml hv
  obtain ⟨rfl, hsz, hP, hE, hD0⟩ := hv
  have hts := atoms_spec (ws := Cond.code y cc nL (some ty) :: wsL_law) B.pre
  have K : CallFix p m c cc nL s av.toArray wsL_law y.cls := ⟨B.exec, B.bytes, hml, findClass_of_methodNamed B.named, fun w hw => hts w (List.mem_cons_of_mem _ hw)⟩
  have hlocks := B.notSynchronized
  have hr := B.returns
  subst hsz
  have hD := hD0.self (sz := s.heap.size)
  have hl := lv_entry av (n := nL) hlen
  rw [lg_entry_eq]
  exact body (KJ p l e rm s m av.toArray below meth c g (va_A ws s.heap.size) nL 0 0 (MQ below (kQ oI post (fun u t => va_P g.1 vwCl (ws1 u) t.heap) (va_A ws s.heap.size)) av.toArray s 0 0 (va_A ws s.heap.size))) ⟨p, e, s, m, _, below, meth, c, _, 0, 0, _, K, hE, fun q h => Or.inr h, Nat.zero_le _, Nat.zero_le _, rfl⟩ (fun lv pc r u hd hp H locs ls hP hD hS hl => W.zret K.1 K.2.1 hr (hty r u hp) (fun t ht hW => ⟨⟨r, u, rfl, hp, by show va_P g.1 vwCl (ws1 u) t.heap; rw [ht]; exact hP⟩, hS.F ht⟩) hS.2.2 hd hlocks) s.heap [] _ hP hD va_S.rf hl
theorem k_bodyL {ws1 : S → va_W} {post : Int64 → S → Prop} (hy : plainName y.cls = true) (hlen : (lg_sl av).length ≤ nL) 
    (body : ∀ J : KT, KO l rm cc y.cls nL g J → (∀ (lv : List (Nat × Value)) (pc : Nat) (r : Int64) (u : S), decode cc pc = .ok (.lreturn, 1) → post r u → J (ws1 u) lv pc [.long r]) → J ws (lv_args 0 av) 0 []) : CT l y cc nL (some .long) rm g av ws oL post ws1 := by
  intro sz
  refine Met.ofW (cc := cc) (maxL := nL) (ret := some .long) hy rfl ?_
  intro p e s m args below meth c s₁ B hml hv
  obtain ⟨rfl, hsz, hP, hE, hD0⟩ := hv
  have hts := atoms_spec (ws := Cond.code y cc nL (some .long) :: wsL_law) B.pre
  have K : CallFix p m c cc nL s av.toArray wsL_law y.cls := ⟨B.exec, B.bytes, hml, findClass_of_methodNamed B.named, fun w hw => hts w (List.mem_cons_of_mem _ hw)⟩
  have hlocks := B.notSynchronized
  have hr := B.returns
  subst hsz
  have hD := hD0.self (sz := s.heap.size)
  have hl := lv_entry av (n := nL) hlen
  rw [lg_entry_eq]
  exact body (KJ p l e rm s m av.toArray below meth c g (va_A ws s.heap.size) nL 0 0 (MQ below (kQ oL post (fun u t => va_P g.1 vwCl (ws1 u) t.heap) (va_A ws s.heap.size)) av.toArray s 0 0 (va_A ws s.heap.size))) ⟨p, e, s, m, _, below, meth, c, _, 0, 0, _, K, hE, fun q h => Or.inr h, Nat.zero_le _, Nat.zero_le _, rfl⟩ (fun lv pc r u hd hp H locs ls hP hD hS hl => W.lret K.1 K.2.1 hr (fun t ht hW => ⟨⟨r, u, rfl, hp, by show va_P g.1 vwCl (ws1 u) t.heap; rw [ht]; exact hP⟩, hS.F ht⟩) hS.2.2 hd hlocks) s.heap [] _ hP hD va_S.rf hl
theorem k_bodyV {ws1 : S → va_W} {post : Unit → S → Prop} (hy : plainName y.cls = true) (hlen : (lg_sl av).length ≤ nL) 
    (body : ∀ J : KT, KO l rm cc y.cls nL g J → (∀ (lv : List (Nat × Value)) (pc : Nat) (r : Unit) (u : S), decode cc pc = .ok (.return_, 1) → post r u → J (ws1 u) lv pc []) → J ws (lv_args 0 av) 0 []) : CT l y cc nL (none) rm g av ws oV post ws1 := by
  intro sz
  refine Met.ofW (cc := cc) (maxL := nL) (ret := none) hy rfl ?_
  intro p e s m args below meth c s₁ B hml hv
  obtain ⟨rfl, hsz, hP, hE, hD0⟩ := hv
  have hts := atoms_spec (ws := Cond.code y cc nL (none) :: wsL_law) B.pre
  have K : CallFix p m c cc nL s av.toArray wsL_law y.cls := ⟨B.exec, B.bytes, hml, findClass_of_methodNamed B.named, fun w hw => hts w (List.mem_cons_of_mem _ hw)⟩
  have hlocks := B.notSynchronized
  have hr := B.returns
  subst hsz
  have hD := hD0.self (sz := s.heap.size)
  have hl := lv_entry av (n := nL) hlen
  rw [lg_entry_eq]
  exact body (KJ p l e rm s m av.toArray below meth c g (va_A ws s.heap.size) nL 0 0 (MQ below (kQ oV post (fun u t => va_P g.1 vwCl (ws1 u) t.heap) (va_A ws s.heap.size)) av.toArray s 0 0 (va_A ws s.heap.size))) ⟨p, e, s, m, _, below, meth, c, _, 0, 0, _, K, hE, fun q h => Or.inr h, Nat.zero_le _, Nat.zero_le _, rfl⟩ (fun lv pc r u hd hp H locs ls hP hD hS hl => W.vret K.1 K.2.1 hr (fun t ht hW => ⟨⟨r, u, rfl, hp, by show va_P g.1 vwCl (ws1 u) t.heap; rw [ht]; exact hP⟩, hS.F ht⟩) hS.2.2 hd hlocks) s.heap [] _ hP hD va_S.rf hl
theorem k_bodyA {ws1 : S → va_W} {post : Nat → S → Prop} {cn : String} (hy : plainName y.cls = true) (hlen : (lg_sl av).length ≤ nL) 
    (body : ∀ J : KT, KO l rm cc y.cls nL g J → (∀ (lv : List (Nat × Value)) (pc : Nat) (r : Nat) (u : S), decode cc pc = .ok (.areturn, 1) → post r u → J (ws1 u) lv pc [.ref r]) → J ws (lv_args 0 av) 0 []) : CT l y cc nL (some (.object cn)) rm g av ws oA post ws1 := by
  intro sz
  refine Met.ofW (cc := cc) (maxL := nL) (ret := some (.object cn)) hy rfl ?_
  intro p e s m args below meth c s₁ B hml hv
  obtain ⟨rfl, hsz, hP, hE, hD0⟩ := hv
  have hts := atoms_spec (ws := Cond.code y cc nL (some (.object cn)) :: wsL_law) B.pre
  have K : CallFix p m c cc nL s av.toArray wsL_law y.cls := ⟨B.exec, B.bytes, hml, findClass_of_methodNamed B.named, fun w hw => hts w (List.mem_cons_of_mem _ hw)⟩
  have hlocks := B.notSynchronized
  have hr := B.returns
  subst hsz
  have hD := hD0.self (sz := s.heap.size)
  have hl := lv_entry av (n := nL) hlen
  rw [lg_entry_eq]
  exact body (KJ p l e rm s m av.toArray below meth c g (va_A ws s.heap.size) nL 0 0 (MQ below (kQ oA post (fun u t => va_P g.1 vwCl (ws1 u) t.heap) (va_A ws s.heap.size)) av.toArray s 0 0 (va_A ws s.heap.size))) ⟨p, e, s, m, _, below, meth, c, _, 0, 0, _, K, hE, fun q h => Or.inr h, Nat.zero_le _, Nat.zero_le _, rfl⟩ (fun lv pc r u hd hp H locs ls hP hD hS hl => W.aret K.1 K.2.1 hr (Or.inl ⟨_, rfl⟩) (Or.inr ⟨_, rfl⟩) (fun t ht hW => ⟨⟨r, u, rfl, hp, by show va_P g.1 vwCl (ws1 u) t.heap; rw [ht]; exact hP⟩, hS.F ht⟩) hS.2.2 hd hlocks) s.heap [] _ hP hD va_S.rf hl
end KC
