def kb (b : Bool) : Int32 := if b then 1 else 0
theorem kb_t : kb true = 1 := rfl
theorem kb_f : kb false = 0 := rfl
theorem kb_nar (b : Bool) : narrow .boolean (.int (kb b)) = .int (kb b) := by cases b <;> rfl
theorem kb_fit (b : Bool) : fits .boolean (.int (kb b)) = true := by cases b <;> rfl
theorem kb_0 {b : Bool} : kb b = 0 ↔ b = false := by cases b <;> decide
theorem kb_1 {b : Bool} : kb b = 1 ↔ b = true := by cases b <;> decide
abbrev rmK (h : Nat) : Room := { frames := h, cells := 0, slots := 0, locals := 40 * h }
theorem kRm_ok {h k n : Nat} (h1 : h + 1 ≤ k) (h2 : n ≤ 21) : kRm (rmK k) (rmK h) n := ⟨rfl, rfl, h1, by show 8 + (n + 11) + 40 * h ≤ 40 * k; omega⟩
theorem nI_shl {i : Nat} (h : i < 31) : (nI 1) <<< (nI i &&& 31) = nI (2 ^ i) := by
  have key : ∀ j, j < 31 → (nI 1) <<< (nI j &&& 31) = nI (2 ^ j) := by decide +kernel
  exact key i h
section KN
variable {l : Launch} {R : Room} {cc : ByteArray} {own : String} {nL : Nat} {g : KG} {J : KT} {ws ws2 : va_W} {lv lv1 : List (Nat × Value)} {pc : Nat} {st : List Value}
theorem n_iadd (hJ : KO l R cc own nL g J) {a b : Nat} (hd : decode cc pc = .ok (.iadd, 1)) (k : J ws lv (pc + 1) (.int (nI (a + b)) :: st)) : J ws lv pc (.int (nI b) :: .int (nI a) :: st) := k_iadd hJ hd (by rw [nI_add]; exact k)
theorem n_isub (hJ : KO l R cc own nL g J) {a b : Nat} (hd : decode cc pc = .ok (.isub, 1)) (h : b ≤ a) (k : J ws lv (pc + 1) (.int (nI (a - b)) :: st)) : J ws lv pc (.int (nI b) :: .int (nI a) :: st) := k_isub hJ hd (by rw [pk_sub h]; exact k)
theorem n_imul (hJ : KO l R cc own nL g J) {a b : Nat} (hd : decode cc pc = .ok (.imul, 1)) (k : J ws lv (pc + 1) (.int (nI (a * b)) :: st)) : J ws lv pc (.int (nI b) :: .int (nI a) :: st) := k_imul hJ hd (by rw [pk_mul]; exact k)
theorem n_idiv (hJ : KO l R cc own nL g J) {a b : Nat} (hd : decode cc pc = .ok (.idiv, 1)) (ha : a < 2 ^ 31) (h0 : 0 < b) (hb : b < 2 ^ 31) (k : J ws lv (pc + 1) (.int (nI (a / b)) :: st)) : J ws lv pc (.int (nI b) :: .int (nI a) :: st) := k_idiv hJ hd (nI_ne0 h0 hb) (by rw [pk_div ha h0 hb]; exact k)
theorem n_irem (hJ : KO l R cc own nL g J) {a b : Nat} (hd : decode cc pc = .ok (.irem, 1)) (ha : a < 2 ^ 31) (h0 : 0 < b) (hb : b < 2 ^ 31) (k : J ws lv (pc + 1) (.int (nI (a % b)) :: st)) : J ws lv pc (.int (nI b) :: .int (nI a) :: st) := k_irem hJ hd (nI_ne0 h0 hb) (by rw [pk_rem ha h0 hb]; exact k)
theorem n_ibit (hJ : KO l R cc own nL g J) {a : Nat} (hd : decode cc pc = .ok (.ishl, 1)) (ha : a < 31) (k : J ws lv (pc + 1) (.int (nI (2 ^ a)) :: st)) : J ws lv pc (.int (nI a) :: .int (nI 1) :: st) := k_ishl hJ hd (by rw [nI_shl ha]; exact k)
theorem n_iinc (hJ : KO l R cc own nL g J) {i a b : Nat} {n : Int} (hd : decode cc pc = .ok (.iinc i n, 3)) (j : Nat) (hj : lv[j]? = some (i, .int (nI a))) (hb : Int32.ofInt n = nI b) (hn : i < nL) (ks : List Nat) (hp : lv_pick ((i, Value.int (nI (a + b))) :: lv.filter (fun q => !(q.1 == i) && !(q.1 + 1 == i && q.2.category == 2))) ks = lv1) (k1 : J ws lv1 (pc + 3) st) : J ws lv pc st := k_iinc hJ hd j hj (by rw [hb, nI_add]) hn ks hp k1
theorem n_icmp_eq (hJ : KO l R cc own nL g J) {a b : Nat} {off : Int} {tgt : Nat} (hd : decode cc pc = .ok (.if_icmp .eq off, 3)) (ht : (pc : Int) + off = (tgt : Int)) (ha : a < 2 ^ 31) (hb : b < 2 ^ 31) (kt : a = b → J ws lv tgt st) (kf : a ≠ b → J ws lv (pc + 3) st) : J ws lv pc (.int (nI b) :: .int (nI a) :: st) := k_icmp_eq hJ hd ht (fun h => kt ((nI_eq ha hb).mp h)) (fun h => kf ((fun q => h ((nI_eq ha hb).mpr q))))
theorem n_if_eq (hJ : KO l R cc own nL g J) {a : Nat} {off : Int} {tgt : Nat} (hd : decode cc pc = .ok (.ifCond .eq off, 3)) (ht : (pc : Int) + off = (tgt : Int)) (ha : a < 2 ^ 31) (kt : a = 0 → J ws lv tgt st) (kf : a ≠ 0 → J ws lv (pc + 3) st) : J ws lv pc (.int (nI a) :: st) := k_if_eq hJ hd ht (fun h => kt (by rw [← nI_0] at h; exact (nI_eq ha (Nat.two_pow_pos 31)).mp h)) (fun h => kf (by rw [← nI_0] at h; exact (fun q => h ((nI_eq ha (Nat.two_pow_pos 31)).mpr q))))
theorem n_icmp_ne (hJ : KO l R cc own nL g J) {a b : Nat} {off : Int} {tgt : Nat} (hd : decode cc pc = .ok (.if_icmp .ne off, 3)) (ht : (pc : Int) + off = (tgt : Int)) (ha : a < 2 ^ 31) (hb : b < 2 ^ 31) (kt : a ≠ b → J ws lv tgt st) (kf : a = b → J ws lv (pc + 3) st) : J ws lv pc (.int (nI b) :: .int (nI a) :: st) := k_icmp_ne hJ hd ht (fun h => kt ((fun q => h ((nI_eq ha hb).mpr q)))) (fun h => kf ((nI_eq ha hb).mp h))
theorem n_if_ne (hJ : KO l R cc own nL g J) {a : Nat} {off : Int} {tgt : Nat} (hd : decode cc pc = .ok (.ifCond .ne off, 3)) (ht : (pc : Int) + off = (tgt : Int)) (ha : a < 2 ^ 31) (kt : a ≠ 0 → J ws lv tgt st) (kf : a = 0 → J ws lv (pc + 3) st) : J ws lv pc (.int (nI a) :: st) := k_if_ne hJ hd ht (fun h => kt (by rw [← nI_0] at h; exact (fun q => h ((nI_eq ha (Nat.two_pow_pos 31)).mpr q)))) (fun h => kf (by rw [← nI_0] at h; exact (nI_eq ha (Nat.two_pow_pos 31)).mp h))
theorem n_icmp_lt (hJ : KO l R cc own nL g J) {a b : Nat} {off : Int} {tgt : Nat} (hd : decode cc pc = .ok (.if_icmp .lt off, 3)) (ht : (pc : Int) + off = (tgt : Int)) (ha : a < 2 ^ 31) (hb : b < 2 ^ 31) (kt : a < b → J ws lv tgt st) (kf : b ≤ a → J ws lv (pc + 3) st) : J ws lv pc (.int (nI b) :: .int (nI a) :: st) := k_icmp_lt hJ hd ht (fun h => kt ((nI_ltI ha hb).mp h)) (fun h => kf (Nat.not_lt.mp (fun q => h ((nI_ltI ha hb).mpr q))))
theorem n_if_lt (hJ : KO l R cc own nL g J) {a : Nat} {off : Int} {tgt : Nat} (hd : decode cc pc = .ok (.ifCond .lt off, 3)) (ht : (pc : Int) + off = (tgt : Int)) (ha : a < 2 ^ 31) (kt : a < 0 → J ws lv tgt st) (kf : 0 ≤ a → J ws lv (pc + 3) st) : J ws lv pc (.int (nI a) :: st) := k_if_lt hJ hd ht (fun h => kt (by rw [← nI_0] at h; exact (nI_ltI ha (Nat.two_pow_pos 31)).mp h)) (fun h => kf (by rw [← nI_0] at h; exact Nat.not_lt.mp (fun q => h ((nI_ltI ha (Nat.two_pow_pos 31)).mpr q))))
theorem n_icmp_ge (hJ : KO l R cc own nL g J) {a b : Nat} {off : Int} {tgt : Nat} (hd : decode cc pc = .ok (.if_icmp .ge off, 3)) (ht : (pc : Int) + off = (tgt : Int)) (ha : a < 2 ^ 31) (hb : b < 2 ^ 31) (kt : b ≤ a → J ws lv tgt st) (kf : a < b → J ws lv (pc + 3) st) : J ws lv pc (.int (nI b) :: .int (nI a) :: st) := k_icmp_ge hJ hd ht (fun h => kt ((nI_leI hb ha).mp h)) (fun h => kf (Nat.not_le.mp (fun q => h ((nI_leI hb ha).mpr q))))
theorem n_if_ge (hJ : KO l R cc own nL g J) {a : Nat} {off : Int} {tgt : Nat} (hd : decode cc pc = .ok (.ifCond .ge off, 3)) (ht : (pc : Int) + off = (tgt : Int)) (ha : a < 2 ^ 31) (kt : 0 ≤ a → J ws lv tgt st) (kf : a < 0 → J ws lv (pc + 3) st) : J ws lv pc (.int (nI a) :: st) := k_if_ge hJ hd ht (fun h => kt (by rw [← nI_0] at h; exact (nI_leI (Nat.two_pow_pos 31) ha).mp h)) (fun h => kf (by rw [← nI_0] at h; exact Nat.not_le.mp (fun q => h ((nI_leI (Nat.two_pow_pos 31) ha).mpr q))))
theorem n_icmp_gt (hJ : KO l R cc own nL g J) {a b : Nat} {off : Int} {tgt : Nat} (hd : decode cc pc = .ok (.if_icmp .gt off, 3)) (ht : (pc : Int) + off = (tgt : Int)) (ha : a < 2 ^ 31) (hb : b < 2 ^ 31) (kt : b < a → J ws lv tgt st) (kf : a ≤ b → J ws lv (pc + 3) st) : J ws lv pc (.int (nI b) :: .int (nI a) :: st) := k_icmp_gt hJ hd ht (fun h => kt ((nI_ltI hb ha).mp h)) (fun h => kf (Nat.not_lt.mp (fun q => h ((nI_ltI hb ha).mpr q))))
theorem n_if_gt (hJ : KO l R cc own nL g J) {a : Nat} {off : Int} {tgt : Nat} (hd : decode cc pc = .ok (.ifCond .gt off, 3)) (ht : (pc : Int) + off = (tgt : Int)) (ha : a < 2 ^ 31) (kt : 0 < a → J ws lv tgt st) (kf : a ≤ 0 → J ws lv (pc + 3) st) : J ws lv pc (.int (nI a) :: st) := k_if_gt hJ hd ht (fun h => kt (by rw [← nI_0] at h; exact (nI_ltI (Nat.two_pow_pos 31) ha).mp h)) (fun h => kf (by rw [← nI_0] at h; exact Nat.not_lt.mp (fun q => h ((nI_ltI (Nat.two_pow_pos 31) ha).mpr q))))
theorem n_icmp_le (hJ : KO l R cc own nL g J) {a b : Nat} {off : Int} {tgt : Nat} (hd : decode cc pc = .ok (.if_icmp .le off, 3)) (ht : (pc : Int) + off = (tgt : Int)) (ha : a < 2 ^ 31) (hb : b < 2 ^ 31) (kt : a ≤ b → J ws lv tgt st) (kf : b < a → J ws lv (pc + 3) st) : J ws lv pc (.int (nI b) :: .int (nI a) :: st) := k_icmp_le hJ hd ht (fun h => kt ((nI_leI ha hb).mp h)) (fun h => kf (Nat.not_le.mp (fun q => h ((nI_leI ha hb).mpr q))))
theorem n_if_le (hJ : KO l R cc own nL g J) {a : Nat} {off : Int} {tgt : Nat} (hd : decode cc pc = .ok (.ifCond .le off, 3)) (ht : (pc : Int) + off = (tgt : Int)) (ha : a < 2 ^ 31) (kt : a ≤ 0 → J ws lv tgt st) (kf : 0 < a → J ws lv (pc + 3) st) : J ws lv pc (.int (nI a) :: st) := k_if_le hJ hd ht (fun h => kt (by rw [← nI_0] at h; exact (nI_leI ha (Nat.two_pow_pos 31)).mp h)) (fun h => kf (by rw [← nI_0] at h; exact Nat.not_le.mp (fun q => h ((nI_leI ha (Nat.two_pow_pos 31)).mpr q))))
theorem b_if_eq (hJ : KO l R cc own nL g J) {b : Bool} {off : Int} {tgt : Nat} (hd : decode cc pc = .ok (.ifCond .eq off, 3)) (ht : (pc : Int) + off = (tgt : Int)) (kt : b = false → J ws lv tgt st) (kf : b = true → J ws lv (pc + 3) st) : J ws lv pc (.int (kb b) :: st) := k_if_eq hJ hd ht (fun h => kt (kb_0.mp h)) (fun h => kf (by cases b with | false => exact absurd rfl h | true => rfl))
theorem b_if_ne (hJ : KO l R cc own nL g J) {b : Bool} {off : Int} {tgt : Nat} (hd : decode cc pc = .ok (.ifCond .ne off, 3)) (ht : (pc : Int) + off = (tgt : Int)) (kt : b = true → J ws lv tgt st) (kf : b = false → J ws lv (pc + 3) st) : J ws lv pc (.int (kb b) :: st) := k_if_ne hJ hd ht (fun h => kt (by cases b with | false => exact absurd rfl h | true => rfl)) (fun h => kf (kb_0.mp h))
/-- another world that any heap of this one holds too -/
theorem k_ws (hJ : KO l R cc own nL g J) (h : ∀ H, va_P g.1 vwCl ws H → va_P g.1 vwCl ws2 H) (ha : ws2.map Prod.fst = ws.map Prod.fst) (k : J ws2 lv pc st) : J ws lv pc st := by
  obtain ⟨p, e, s, m, args, below, meth, c, A, cs, sl, Q, C, hE, hA, hcs, hsl, rfl⟩ := hJ
  exact fun H locs ls hP hD hS hl => k H locs ls (h H hP) (kD_congr ha hD) hS hl
theorem k_eqw (e : ws = ws2) (k : J ws2 lv pc st) : J ws lv pc st := e ▸ k
theorem k_eqs {st2 : List Value} (e : st = st2) (k : J ws lv pc st2) : J ws lv pc st := e ▸ k
theorem k_eql (e : lv = lv1) (k : J ws lv1 pc st) : J ws lv pc st := e ▸ k
/-- an array's contents count within its length alone -/
theorem kP_arr {D : va_G} {cl : List vw_C} {H : Heap} {q a n : Nat} {c : ClassId} {f f2 : Nat → Int32} (he : ws[q]? = some (a, .inl (c, n, .inl f))) (hf : ∀ i, i < n → f2 i = f i) (hP : va_P D cl ws H) : va_P D cl (ws.set q (a, .inl (c, n, .inl f2))) H := by
  have hl := (List.getElem?_eq_some_iff.mp he).1
  intro k x hk
  by_cases e : k = q
  · subst e
    rw [List.getElem?_set_self hl] at hk
    cases hk
    have h0 := hP k _ he
    show H[a]? = some (vp_cell c (n, .inl f2))
    rw [show vp_cell c (n, .inl f2) = vp_cell c (n, .inl f) from by
      show arrV c n (fun j => .int (f2 j)) = arrV c n (fun j => .int (f j))
      unfold arrV
      congr 1
      apply Array.ext
      · simp
      · intro i h1 h2
        simp only [Array.getElem_ofFn]
        rw [hf i (by simpa using h1)]]
    exact h0
  · rw [List.getElem?_set_ne (Ne.symm e)] at hk
    exact hP k x hk
theorem k_mmax {h : Nat} (hJ : KO l (rmK (h + 1)) cc own nL g J) {index : Nat} {x y : Int32} (hlk : Cond.methodLink own index Lib.Math.max.name ∈ wsL_law) (hdep : (st.map (fun v => v.category)).sum ≤ 8) (hd : decode cc pc = .ok (.invokestatic index, 3)) (k : J ws lv (pc + 3) (.int (if x < y then y else x) :: st)) : J ws lv pc (.int y :: .int x :: st) := by
  obtain ⟨p, e, s, m, args, below, meth, c, A, cs, sl, Q, C, hE, hA, hcs, hsl, rfl⟩ := hJ
  have hts := C.2.2.2.2
  exact fun H locs ls hP hD hS hl => va_mmax C.1 C.2.1 (by rw [C.2.2.1]; exact hl.1.symm) C.2.2.2.1 (hts _ hlk) (hts _ mm_max.1) (hts _ mm_max.2.1) (hts _ mm_max.2.2) (Nat.le_add_left 1 h) (by show _ + 13 ≤ 40 * (h + 1); omega) hcs hsl hd (k H locs ls hP hD hS hl)
theorem k_mmin {h : Nat} (hJ : KO l (rmK (h + 1)) cc own nL g J) {index : Nat} {x y : Int32} (hlk : Cond.methodLink own index Lib.Math.min.name ∈ wsL_law) (hdep : (st.map (fun v => v.category)).sum ≤ 8) (hd : decode cc pc = .ok (.invokestatic index, 3)) (k : J ws lv (pc + 3) (.int (if y < x then y else x) :: st)) : J ws lv pc (.int y :: .int x :: st) := by
  obtain ⟨p, e, s, m, args, below, meth, c, A, cs, sl, Q, C, hE, hA, hcs, hsl, rfl⟩ := hJ
  have hts := C.2.2.2.2
  exact fun H locs ls hP hD hS hl => va_mmin C.1 C.2.1 (by rw [C.2.2.1]; exact hl.1.symm) C.2.2.2.1 (hts _ hlk) (hts _ mm_min.1) (hts _ mm_min.2.1) (hts _ mm_min.2.2) (Nat.le_add_left 1 h) (by show _ + 13 ≤ 40 * (h + 1); omega) hcs hsl hd (k H locs ls hP hD hS hl)
theorem k_mabs {h : Nat} (hJ : KO l (rmK (h + 1)) cc own nL g J) {index : Nat} {x : Int32} (hlk : Cond.methodLink own index Lib.Math.abs.name ∈ wsL_law) (hdep : (st.map (fun v => v.category)).sum ≤ 8) (hd : decode cc pc = .ok (.invokestatic index, 3)) (k : J ws lv (pc + 3) (.int (if 0 ≤ x then x else 0 - x) :: st)) : J ws lv pc (.int x :: st) := by
  obtain ⟨p, e, s, m, args, below, meth, c, A, cs, sl, Q, C, hE, hA, hcs, hsl, rfl⟩ := hJ
  have hts := C.2.2.2.2
  exact fun H locs ls hP hD hS hl => va_mabs C.1 C.2.1 (by rw [C.2.2.1]; exact hl.1.symm) C.2.2.2.1 (hts _ hlk) (hts _ mm_abs.1) (hts _ mm_abs.2.1) (hts _ mm_abs.2.2) (Nat.le_add_left 1 h) (by show _ + 13 ≤ 40 * (h + 1); omega) hcs hsl hd (k H locs ls hP hD hS hl)
theorem k_copyi {h : Nat} (hJ : KO l (rmK (h + 1)) cc own nL g J) {index a0 a1 n0 n1 sp dp n : Nat} {f f1 : Nat → Int32} (hlk : Cond.methodLink own index arraycopyName ∈ wsL_law) (q0 q1 : Nat) (he0 : ws[q0]? = some (a0, .inl (kI g, n0, .inl f))) (he1 : ws[q1]? = some (a1, .inl (kI g, n1, .inl f1))) (h0 : sp + n ≤ n0) (h1 : dp + n ≤ n1) (hb0 : n0 < 2 ^ 31) (hb1 : n1 < 2 ^ 31) (hws : ws.set q1 (a1, .inl (kI g, n1, .inl (va_cpy f f1 sp dp n))) = ws2) (hdep : (st.map (fun v => v.category)).sum ≤ 8) (hd : decode cc pc = .ok (.invokestatic index, 3)) (k : J ws2 lv (pc + 3) st) : J ws lv pc (.int (nI n) :: .int (nI dp) :: .ref a1 :: .int (nI sp) :: .ref a0 :: st) := by
  obtain ⟨p, e, s, m, args, below, meth, c, A, cs, sl, Q, C, hE, hA, hcs, hsl, rfl⟩ := hJ
  have hts := C.2.2.2.2
  subst hws
  intro H locs ls hP hD hS hl
  have e1 : (nI sp).toNatClampNeg = sp := nI_clamp (by omega)
  have e2 : (nI dp).toNatClampNeg = dp := nI_clamp (by omega)
  have e3 : (nI n).toNatClampNeg = n := nI_clamp (by omega)
  refine va_copyi (ty := .int) C.1 C.2.1 (by rw [C.2.2.1]; exact hl.1.symm) C.2.2.2.1 (hts _ hlk) (hts _ mm_copy.1) (hts _ mm_copy.2.1) (hts _ mm_copy.2.2) hE.1 hP hD hS q0 q1 0 0 he0 he1 rfl rfl rfl (nI_pos (by omega)) (nI_pos (by omega)) (nI_pos (by omega)) (by rw [e1, e3]; exact h0) (by rw [e2, e3]; exact h1) (fun _ _ => rfl) (Nat.le_add_left 1 h) ?_ hd ?_
  · have hn : nativeFrameWords "java/lang/System" "arraycopy" 5 + 11 ≤ 32 := by decide +kernel
    show _ ≤ 40 * (h + 1)
    omega
  · rw [e1, e2, e3]
    exact fun H1 locs1 hP1 hD1 hS1 => k H1 locs1 ls hP1 hD1 hS1 hl
theorem k_copyl {h : Nat} (hJ : KO l (rmK (h + 1)) cc own nL g J) {index a0 a1 n0 n1 sp dp n : Nat} {f f1 : Nat → Int64} (hlk : Cond.methodLink own index arraycopyName ∈ wsL_law) (q0 q1 : Nat) (he0 : ws[q0]? = some (a0, .inl (kL g, n0, .inr (.inl f)))) (he1 : ws[q1]? = some (a1, .inl (kL g, n1, .inr (.inl f1)))) (h0 : sp + n ≤ n0) (h1 : dp + n ≤ n1) (hb0 : n0 < 2 ^ 31) (hb1 : n1 < 2 ^ 31) (hws : ws.set q1 (a1, .inl (kL g, n1, .inr (.inl (va_cpy f f1 sp dp n)))) = ws2) (hdep : (st.map (fun v => v.category)).sum ≤ 8) (hd : decode cc pc = .ok (.invokestatic index, 3)) (k : J ws2 lv (pc + 3) st) : J ws lv pc (.int (nI n) :: .int (nI dp) :: .ref a1 :: .int (nI sp) :: .ref a0 :: st) := by
  obtain ⟨p, e, s, m, args, below, meth, c, A, cs, sl, Q, C, hE, hA, hcs, hsl, rfl⟩ := hJ
  have hts := C.2.2.2.2
  subst hws
  intro H locs ls hP hD hS hl
  have e1 : (nI sp).toNatClampNeg = sp := nI_clamp (by omega)
  have e2 : (nI dp).toNatClampNeg = dp := nI_clamp (by omega)
  have e3 : (nI n).toNatClampNeg = n := nI_clamp (by omega)
  refine va_copyl (ty := .long) C.1 C.2.1 (by rw [C.2.2.1]; exact hl.1.symm) C.2.2.2.1 (hts _ hlk) (hts _ mm_copy.1) (hts _ mm_copy.2.1) (hts _ mm_copy.2.2) hE.1 hP hD hS q0 q1 1 1 he0 he1 rfl rfl rfl (nI_pos (by omega)) (nI_pos (by omega)) (nI_pos (by omega)) (by rw [e1, e3]; exact h0) (by rw [e2, e3]; exact h1) (fun _ _ => rfl) (Nat.le_add_left 1 h) ?_ hd ?_
  · have hn : nativeFrameWords "java/lang/System" "arraycopy" 5 + 11 ≤ 32 := by decide +kernel
    show _ ≤ 40 * (h + 1)
    omega
  · rw [e1, e2, e3]
    exact fun H1 locs1 hP1 hD1 hS1 => k H1 locs1 ls hP1 hD1 hS1 hl
end KN
section KD
variable {l : Launch} {R rm : Room} {cc c1 : ByteArray} {own : String} {nL n1 n index b : Nat} {g : KG} {J : KT} {ws wc wc1 ws2 : va_W} {lv : List (Nat × Value)} {pc : Nat} {st st0 As fs : List Value} {y : MethodName} {ret : Option FieldType} {q : vw_C} {ci : Nat}
theorem c_VI {r : Int32} (hJ : KO l R cc own nL g J) (hM : CI l y c1 n1 ret rm g (.ref b :: As) wc r wc1) (fr : Fr ws wc wc1 ws2) (hy : kMV y c1 n1 ret n) (hlk : Cond.methodLink own index y ∈ wsL_law) (q0 : Nat) (he : ws[q0]? = some (b, .inr (ci, fs))) (hc : vwCl[ci]? = some q) (hq : q.1 = y.cls) (hrm : kRm R rm n1) (hst : st0 = As.reverse ++ .ref b :: st) (hn : As.length = n) (hdep : (st.map (fun v => v.category)).sum ≤ 8) (hd : decode cc pc = .ok (.invokevirtual index, 3)) (k : J ws2 lv (pc + 3) (.int r :: st)) : J ws lv pc st0 := k_callV hJ hM (fun _ => fr) hy hlk q0 he hc hq hrm hst hn hdep hd (fun x _ hx => by cases hx; exact k)
theorem c_SI {r : Int32} (hJ : KO l R cc own nL g J) (hM : CI l y c1 n1 ret rm g As wc r wc1) (fr : Fr ws wc wc1 ws2) (hy : kMS y c1 n1 ret n) (hlk : Cond.methodLink own index y ∈ wsL_law) (hrm : kRm R rm n1) (hst : st0 = As.reverse ++ st) (hn : As.length = n) (hdep : (st.map (fun v => v.category)).sum ≤ 8) (hd : decode cc pc = .ok (.invokestatic index, 3)) (k : J ws2 lv (pc + 3) (.int r :: st)) : J ws lv pc st0 := k_callS hJ hM (fun _ => fr) hy hlk hrm hst hn hdep hd (fun x _ hx => by cases hx; exact k)
theorem c_NI {r : Int32} (hJ : KO l R cc own nL g J) (hM : CI l y c1 n1 ret rm g As wc r wc1) (fr : Fr ws wc wc1 ws2) (hy : kMS y c1 n1 ret n) (hlk : ∀ (A : Nat → Prop) (U : State), kE g A U → va_Nw (.methodLinkNest own index y "NoseJury") U) (hrm : kRm R rm n1) (hst : st0 = As.reverse ++ st) (hn : As.length = n) (hdep : (st.map (fun v => v.category)).sum ≤ 8) (hd : decode cc pc = .ok (.invokestatic index, 3)) (k : J ws2 lv (pc + 3) (.int r :: st)) : J ws lv pc st0 := k_callN hJ hM (fun _ => fr) hy hlk hrm hst hn hdep hd (fun x _ hx => by cases hx; exact k)
theorem c_VL {r : Int64} (hJ : KO l R cc own nL g J) (hM : CL l y c1 n1 ret rm g (.ref b :: As) wc r wc1) (fr : Fr ws wc wc1 ws2) (hy : kMV y c1 n1 ret n) (hlk : Cond.methodLink own index y ∈ wsL_law) (q0 : Nat) (he : ws[q0]? = some (b, .inr (ci, fs))) (hc : vwCl[ci]? = some q) (hq : q.1 = y.cls) (hrm : kRm R rm n1) (hst : st0 = As.reverse ++ .ref b :: st) (hn : As.length = n) (hdep : (st.map (fun v => v.category)).sum ≤ 8) (hd : decode cc pc = .ok (.invokevirtual index, 3)) (k : J ws2 lv (pc + 3) (.long r :: st)) : J ws lv pc st0 := k_callV hJ hM (fun _ => fr) hy hlk q0 he hc hq hrm hst hn hdep hd (fun x _ hx => by cases hx; exact k)
theorem c_SL {r : Int64} (hJ : KO l R cc own nL g J) (hM : CL l y c1 n1 ret rm g As wc r wc1) (fr : Fr ws wc wc1 ws2) (hy : kMS y c1 n1 ret n) (hlk : Cond.methodLink own index y ∈ wsL_law) (hrm : kRm R rm n1) (hst : st0 = As.reverse ++ st) (hn : As.length = n) (hdep : (st.map (fun v => v.category)).sum ≤ 8) (hd : decode cc pc = .ok (.invokestatic index, 3)) (k : J ws2 lv (pc + 3) (.long r :: st)) : J ws lv pc st0 := k_callS hJ hM (fun _ => fr) hy hlk hrm hst hn hdep hd (fun x _ hx => by cases hx; exact k)
theorem c_VA {r : Nat} (hJ : KO l R cc own nL g J) (hM : CA l y c1 n1 ret rm g (.ref b :: As) wc r wc1) (fr : Fr ws wc wc1 ws2) (hy : kMV y c1 n1 ret n) (hlk : Cond.methodLink own index y ∈ wsL_law) (q0 : Nat) (he : ws[q0]? = some (b, .inr (ci, fs))) (hc : vwCl[ci]? = some q) (hq : q.1 = y.cls) (hrm : kRm R rm n1) (hst : st0 = As.reverse ++ .ref b :: st) (hn : As.length = n) (hdep : (st.map (fun v => v.category)).sum ≤ 8) (hd : decode cc pc = .ok (.invokevirtual index, 3)) (k : J ws2 lv (pc + 3) (.ref r :: st)) : J ws lv pc st0 := k_callV hJ hM (fun _ => fr) hy hlk q0 he hc hq hrm hst hn hdep hd (fun x _ hx => by cases hx; exact k)
theorem c_SA {r : Nat} (hJ : KO l R cc own nL g J) (hM : CA l y c1 n1 ret rm g As wc r wc1) (fr : Fr ws wc wc1 ws2) (hy : kMS y c1 n1 ret n) (hlk : Cond.methodLink own index y ∈ wsL_law) (hrm : kRm R rm n1) (hst : st0 = As.reverse ++ st) (hn : As.length = n) (hdep : (st.map (fun v => v.category)).sum ≤ 8) (hd : decode cc pc = .ok (.invokestatic index, 3)) (k : J ws2 lv (pc + 3) (.ref r :: st)) : J ws lv pc st0 := k_callS hJ hM (fun _ => fr) hy hlk hrm hst hn hdep hd (fun x _ hx => by cases hx; exact k)
theorem c_VV (hJ : KO l R cc own nL g J) (hM : CV l y c1 n1 ret rm g (.ref b :: As) wc wc1) (fr : Fr ws wc wc1 ws2) (hy : kMV y c1 n1 ret n) (hlk : Cond.methodLink own index y ∈ wsL_law) (q0 : Nat) (he : ws[q0]? = some (b, .inr (ci, fs))) (hc : vwCl[ci]? = some q) (hq : q.1 = y.cls) (hrm : kRm R rm n1) (hst : st0 = As.reverse ++ .ref b :: st) (hn : As.length = n) (hdep : (st.map (fun v => v.category)).sum ≤ 8) (hd : decode cc pc = .ok (.invokevirtual index, 3)) (k : J ws2 lv (pc + 3) (st)) : J ws lv pc st0 := k_callV hJ hM (fun _ => fr) hy hlk q0 he hc hq hrm hst hn hdep hd (fun _ _ _ => k)
end KD
