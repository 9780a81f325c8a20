/-- the law's walk: as KO, and the script of L ints xs lies at sc, which nothing changes -/
def KLw (l : Launch) (R : Room) (cc : ByteArray) (own : String) (nL : Nat) (g : KG) (sc L : Nat) (xs : Nat → Int32) (J : KT) : Prop :=
  ∃ (p : Program) (e : Env) (s : State) (m : MethodId) (args : Array Value) (below : List Frame) (meth : Method) (c : Code) (A : Nat → Prop) (cs sl : Nat) (Q : State → Prop), CallFix p m c cc nL s args wsL_law own ∧ kE g A s ∧ (∀ q, s.heap.size ≤ q → A q) ∧ cs ≤ R.cells ∧ sl ≤ R.slots ∧ va_X sc L xs s s.heap ∧ sc < s.heap.size ∧ ¬ A sc ∧ J = KJ p l e R s m args below meth c g A nL cs sl Q
section LW
variable {l : Launch} {R : Room} {cc : ByteArray} {own : String} {nL : Nat} {g : KG} {sc L : Nat} {xs : Nat → Int32} {J : KT} {ws : va_W} {lv : List (Nat × Value)} {pc : Nat} {st : List Value}
theorem KLw.ko (hJ : KLw l R cc own nL g sc L xs J) : KO l R cc own nL g J := by
  obtain ⟨p, e, s, m, args, below, meth, c, A, cs, sl, Q, C, hE, hA, hcs, hsl, hX, hb, hbA, rfl⟩ := hJ
  exact ⟨p, e, s, m, args, below, meth, c, A, cs, sl, Q, C, hE, hA, hcs, hsl, rfl⟩
theorem l_sld (hJ : KLw l R cc own nL g sc L xs J) {i : Nat} (hd : decode cc pc = .ok (.iaload, 1)) (hL : L ≤ 3072) (hi : i < L) (k : J ws lv (pc + 1) (.int (xs i) :: st)) : J ws lv pc (.int (nI i) :: .ref sc :: st) := by
  obtain ⟨p, e, s, m, args, below, meth, c, A, cs, sl, Q, C, hE, hA, hcs, hsl, hX, hb, hbA, rfl⟩ := hJ
  exact fun H locs ls hP hD hS hl => va_sld C.1 C.2.1 hX hb hbA hS (vp_in_nI hi (by omega)) hd (by rw [nI_clamp (by omega)]; exact k H locs ls hP hD hS hl)
theorem l_slen (hJ : KLw l R cc own nL g sc L xs J) (hd : decode cc pc = .ok (.arraylength, 1)) (k : J ws lv (pc + 1) (.int (nI L) :: st)) : J ws lv pc (.ref sc :: st) := by
  obtain ⟨p, e, s, m, args, below, meth, c, A, cs, sl, Q, C, hE, hA, hcs, hsl, hX, hb, hbA, rfl⟩ := hJ
  exact fun H locs ls hP hD hS hl => va_slen C.1 C.2.1 hX hb hbA hS hd (k H locs ls hP hD hS hl)
end LW
theorem clW_map {g : KG} {a aK aL aT : Nat → Nat} {kf kf2 : Bool} {ct ct2 : Nat → Int32} {k k2 : Nat → Nat} {lk lk2 : Nat → Int32} {m m2 : Nat → Nat} {lm lm2 : Nat → Int32} {t t2 : Nat → Nat} {lt lt2 : Nat → Int32} {tp tp2 : Nat → Nat} {tl nx tk sr va tl2 nx2 tk2 sr2 va2 : Nat} {sb sz sb2 sz2 : Nat → Nat} {nu nu2 : Nat → Nat → Int64} : (clsW g a aK aL aT kf2 ct2 k2 lk2 m2 lm2 t2 lt2 tp2 tl2 nx2 tk2 sr2 va2 sb2 sz2 nu2).map Prod.fst = (clsW g a aK aL aT kf ct k lk m lm t lt tp tl nx tk sr va sb sz nu).map Prod.fst := rfl
theorem clA_map {g : KG} {a aK aL aT : Nat → Nat} : ∀ (s s2 : KS) (j j2 : CJ), (clsA g a aK aL aT s2 j2).map Prod.fst = (clsA g a aK aL aT s j).map Prod.fst := by
  rintro ⟨m, k, kf, tp, tl, sb, sz, nu, ct⟩ ⟨m2, k2, kf2, tp2, tl2, sb2, sz2, nu2, ct2⟩ ⟨jk, lk, lm, t, lt, nx, tk, sr, va⟩ ⟨jk2, lk2, lm2, t2, lt2, nx2, tk2, sr2, va2⟩
  exact clW_map
theorem mdA_map {g : KG} {b : Nat → Nat} : ∀ (s s2 : KS) (j j2 : MJ), (modA g b s2 j2).map Prod.fst = (modA g b s j).map Prod.fst := by
  rintro ⟨m, k, kf, tp, tl, sb, sz, nu, ct⟩ ⟨m2, k2, kf2, tp2, tl2, sb2, sz2, nu2, ct2⟩ ⟨fj, mj, fr, to, va, iw, jk, th, ai, ot, mo⟩ ⟨fj2, mj2, fr2, to2, va2, iw2, jk2, th2, ai2, ot2, mo2⟩
  exact mw_map
theorem clA_0 {g : KG} {a aK aL aT : Nat → Nat} {X : va_W} : ∀ (s : KS) (j : CJ), ∃ fs, (clsA g a aK aL aT s j ++ X)[0]? = some (a 0, .inr (3, fs)) := by
  rintro ⟨m, k, kf, tp, tl, sb, sz, nu, ct⟩ ⟨jk, lk, lm, t, lt, nx, tk, sr, va⟩
  exact ⟨_, rfl⟩
theorem clA_len {g : KG} {a aK aL aT : Nat → Nat} : ∀ (s : KS) (j : CJ), (clsA g a aK aL aT s j).length = 52 := by
  rintro ⟨m, k, kf, tp, tl, sb, sz, nu, ct⟩ ⟨jk, lk, lm, t, lt, nx, tk, sr, va⟩
  rfl
theorem mdA_0 {g : KG} {b : Nat → Nat} : ∀ (s : KS) (j : MJ), ∃ fs, (modA g b s j)[0]? = some (b 0, .inr (4, fs)) := by
  rintro ⟨m, k, kf, tp, tl, sb, sz, nu, ct⟩ ⟨fj, mj, fr, to, va, iw, jk, th, ai, ot, mo⟩
  exact ⟨_, rfl⟩
theorem mdA_52 {g : KG} {a aK aL aT b : Nat → Nat} (s s2 : KS) (j : CJ) (j2 : MJ) : ∃ fs, (clsA g a aK aL aT s j ++ modA g b s2 j2)[52]? = some (b 0, .inr (4, fs)) := by
  obtain ⟨fs, h⟩ := mdA_0 (g := g) (b := b) s2 j2
  refine ⟨fs, ?_⟩
  rw [List.getElem?_append_right (by rw [clA_len]; exact Nat.le_refl _), clA_len]
  exact h
theorem Fr.suf {X wc wc1 : va_W} (h : wc1.map Prod.fst = wc.map Prod.fst) : Fr (X ++ wc) wc wc1 (X ++ wc1) := ⟨X, [], by simp, by simp, h⟩
theorem Fr.pre {X wc wc1 : va_W} (h : wc1.map Prod.fst = wc.map Prod.fst) : Fr (wc ++ X) wc wc1 (wc1 ++ X) := ⟨[], X, rfl, rfl, h⟩
section LC
variable {l : Launch} {R rm : Room} {cc c1 : ByteArray} {own : String} {nL n1 n index : Nat} {g : KG} {J : KT} {lv : List (Nat × Value)} {pc : Nat} {st st0 As : List Value} {y : MethodName} {ret : Option FieldType} {a aK aL aT b : Nat → Nat} {s s2 : KS} {jc : CJ} {jm : MJ}
theorem l_cls {α : Type} {ov : α → Option Value} {post : α → CJ → Prop} (hJ : KO l R cc own nL g J) (hM : CT l y c1 n1 ret rm g (.ref (a 0) :: As) (clsA g a aK aL aT s jc) ov post (fun j => clsA g a aK aL aT s2 j)) (hy : kMV y c1 n1 ret n) (hlk : Cond.methodLink own index y ∈ wsL_law) (hq : RX3 = y.cls) (hrm : kRm R rm n1) (hst : st0 = As.reverse ++ .ref (a 0) :: st) (hn : As.length = n) (hdep : (st.map (fun v => v.category)).sum ≤ 8) (hd : decode cc pc = .ok (.invokevirtual index, 3))
    (kk : ∀ (r : α) (u : CJ), post r u → J (clsA g a aK aL aT s2 u ++ modA g b s jm) lv (pc + 3) ((ov r).toList ++ st)) : J (clsA g a aK aL aT s jc ++ modA g b s jm) lv pc st0 := by
  obtain ⟨fs, he⟩ := clA_0 (g := g) (a := a) (aK := aK) (aL := aL) (aT := aT) (X := modA g b s jm) s jc
  haveI : Nonempty CJ := ⟨jc⟩
  exact k_callV (ws2 := fun u => clsA g a aK aL aT s2 u ++ modA g b s jm) hJ hM (fun u => Fr.pre (clA_map _ _ _ _)) hy hlk 0 he (q := (RX3, TX3, 7)) rfl hq hrm hst hn hdep hd kk
theorem l_mod {α : Type} {ov : α → Option Value} {post : α → MJ → Prop} (hJ : KO l R cc own nL g J) (hM : CT l y c1 n1 ret rm g (.ref (b 0) :: As) (modA g b s jm) ov post (fun j => modA g b s2 j)) (hy : kMV y c1 n1 ret n) (hlk : Cond.methodLink own index y ∈ wsL_law) (hq : RX4 = y.cls) (hrm : kRm R rm n1) (hst : st0 = As.reverse ++ .ref (b 0) :: st) (hn : As.length = n) (hdep : (st.map (fun v => v.category)).sum ≤ 8) (hd : decode cc pc = .ok (.invokevirtual index, 3))
    (kk : ∀ (r : α) (u : MJ), post r u → J (clsA g a aK aL aT s2 jc ++ modA g b s2 u) lv (pc + 3) ((ov r).toList ++ st)) : J (clsA g a aK aL aT s2 jc ++ modA g b s jm) lv pc st0 := by
  obtain ⟨fs, he⟩ := mdA_52 (g := g) (a := a) (aK := aK) (aL := aL) (aT := aT) (b := b) s2 s jc jm
  haveI : Nonempty MJ := ⟨jm⟩
  exact k_callV (ws2 := fun u => clsA g a aK aL aT s2 jc ++ modA g b s2 u) hJ hM (fun u => Fr.suf (mdA_map _ _ _ _)) hy hlk 52 he (q := (RX4, TX4, 19)) rfl hq hrm hst hn hdep hd kk
end LC
theorem lg_cmp_s (x : Int64) : lg_cmp x x = 0 := by
  unfold lg_cmp
  rw [if_neg (show ¬ x > x from Int64.lt_irrefl), if_pos rfl]
theorem l_low {L i : Nat} (h : L < 6) (hi : i < 2 ^ 31) : nI L - nI 6 < nI i := by
  have h1 : nI L - nI 6 < 0 := by
    rcases (show L = 0 ∨ L = 1 ∨ L = 2 ∨ L = 3 ∨ L = 4 ∨ L = 5 by omega) with rfl | rfl | rfl | rfl | rfl | rfl <;> decide
  exact Int32.lt_of_lt_of_le h1 (nI_pos' hi)
