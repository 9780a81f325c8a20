theorem nI_or (a b : Nat) : nI a ||| nI b = nI (a ||| b) := by
  apply Int32.toBitVec_inj.1
  show BitVec.ofNat 32 a ||| BitVec.ofNat 32 b = BitVec.ofNat 32 (a ||| b)
  apply BitVec.eq_of_getLsbD_eq
  intro i hi
  simp [hi]
theorem nI_and (a b : Nat) : nI a &&& nI b = nI (a &&& b) := by
  apply Int32.toBitVec_inj.1
  show BitVec.ofNat 32 a &&& BitVec.ofNat 32 b = BitVec.ofNat 32 (a &&& b)
  apply BitVec.eq_of_getLsbD_eq
  intro i hi
  simp [hi]
theorem n_ior {l : Launch} {R : Room} {cc : ByteArray} {own : String} {nL : Nat} {g : KG} {J : KT} {ws : va_W} {lv : List (Nat × Value)} {pc : Nat} {st : List Value} (hJ : KO l R cc own nL g J) {a b c : Nat} (hd : decode cc pc = .ok (.ior, 1)) (h : a ||| b = c) (k : J ws lv (pc + 1) (.int (nI c) :: st)) : J ws lv pc (.int (nI b) :: .int (nI a) :: st) := k_ior hJ hd (by rw [nI_or, h]; exact k)
theorem n_iand {l : Launch} {R : Room} {cc : ByteArray} {own : String} {nL : Nat} {g : KG} {J : KT} {ws : va_W} {lv : List (Nat × Value)} {pc : Nat} {st : List Value} (hJ : KO l R cc own nL g J) {a b : Nat} (hd : decode cc pc = .ok (.iand, 1)) (k : J ws lv (pc + 1) (.int (nI (a &&& b)) :: st)) : J ws lv pc (.int (nI b) :: .int (nI a) :: st) := k_iand hJ hd (by rw [nI_and]; exact k)
theorem nI_max {a b : Nat} (ha : a < 2 ^ 31) (hb : b < 2 ^ 31) : (if nI a < nI b then nI b else nI a) = nI (max a b) := by
  by_cases h : a < b
  · rw [if_pos (nI_lt h hb), Nat.max_eq_right (by omega)]
  · rw [if_neg (nI_nlt (by omega) ha), Nat.max_eq_left (by omega)]
def vUnder (k b : Nat) : Bool := if b = 0 then true else if b = 2 then (k == 2 || k == 4) else if b = 3 then (k == 3 || k == 5) else k == b
theorem vStrong_lt {m : Nat → Nat} {p d : Nat} : ∀ {n b : Nat}, vStrong m p d n = some b → b < n
  | 0, b, h => by cases h
  | n + 1, b, h => by
    cases hO : vStrong m p d n with
    | none =>
      rw [vStrong, hO] at h
      by_cases c : n ≠ p ∧ vPl m n = vPl m p
      · rw [if_pos ⟨c.1, c.2, rfl⟩] at h; cases h; omega
      · rw [if_neg (fun q => c ⟨q.1, q.2.1⟩)] at h; cases h
    | some e =>
      have h2 := vStrong_lt hO
      rw [vStrong, hO] at h
      by_cases c : n ≠ p ∧ vPl m n = vPl m p ∧ vSc m e d < vSc m n d
      · rw [if_pos ⟨c.1, c.2.1, decide_eq_true c.2.2⟩] at h; cases h; omega
      · rw [if_neg (fun q => c ⟨q.1, q.2.1, of_decide_eq_true q.2.2⟩)] at h; cases h; omega
theorem vMax_strong (m : Nat → Nat) (p d : Nat) : ∀ n, vMax m p d n = (match vStrong m p d n with | none => 0 | some b => vSc m b d)
  | 0 => rfl
  | n + 1 => by
    have ih := vMax_strong m p d n
    cases hO : vStrong m p d n with
    | none =>
      rw [hO] at ih
      simp only at ih
      by_cases h : n ≠ p ∧ vPl m n = vPl m p
      · rw [vStrong, hO, if_pos ⟨h.1, h.2, rfl⟩, vMax, ih]
        by_cases h2 : 0 < vSc m n d
        · rw [if_pos ⟨h.1, h.2, h2⟩]
        · rw [if_neg (fun q => h2 q.2.2)]
          show 0 = vSc m n d
          omega
      · rw [vStrong, hO, if_neg (fun q => h ⟨q.1, q.2.1⟩), vMax, ih, if_neg (fun q => h ⟨q.1, q.2.1⟩)]
    | some b =>
      rw [hO] at ih
      simp only at ih
      by_cases h : n ≠ p ∧ vPl m n = vPl m p ∧ vSc m b d < vSc m n d
      · rw [vStrong, hO, if_pos ⟨h.1, h.2.1, decide_eq_true h.2.2⟩, vMax, ih, if_pos h]
      · rw [vStrong, hO, if_neg (fun q => h ⟨q.1, q.2.1, of_decide_eq_true q.2.2⟩), vMax, ih, if_neg h]
theorem vMax_le {B : Nat} {m : Nat → Nat} (h : vOk B m) {p d : Nat} (hd : d < 6) : ∀ {n : Nat}, n ≤ 8 → vMax m p d n ≤ 99
  | 0, _ => by unfold vMax; omega
  | n + 1, hn => by
    have ih := vMax_le h (p := p) hd (n := n) (by omega)
    have := h.sc (p := n) (d := d) (by omega) hd
    unfold vMax
    split <;> omega
theorem vFade_le {d v : Nat} : vFade d v ≤ v := by unfold vFade; split <;> omega
theorem vNew_le {B : Nat} {m : Nat → Nat} (h : vOk B m) {p d : Nat} (hp : p < 8) (hd : d < 6) : vNew m p d ≤ 99 := by
  have h1 := h.sc hp hd
  have h2 := vMax_le h (p := p) hd h.1
  have h3 := vFade_le (d := d) (v := vSc m p d)
  unfold vNew
  omega
theorem vRow_ne {m : Nat → Nat} {d j : Nat} (h : ¬ (4 ≤ j ∧ (j - 4) % 10 = 4 + d)) : vRow m d j = m j := if_neg (fun q => h ⟨q.1, q.2.1⟩)
theorem vRow_at {m : Nat → Nat} {d p : Nat} (hd : d < 6) : vRow m d (4 + 10 * p + (4 + d)) = if p < m 0 then vNew m p d else vSc m p d := by
  unfold vRow
  have e1 : (4 + 10 * p + (4 + d) - 4) % 10 = 4 + d := by omega
  have e2 : (4 + 10 * p + (4 + d) - 4) / 10 = p := by omega
  rw [e1, e2]
  by_cases h : p < m 0
  · rw [if_pos ⟨by omega, rfl, h⟩, if_pos h]
  · rw [if_neg (fun q => h q.2.2), if_neg h]
/-- one row's numbers become others -/
theorem hs_rowfn (g : KG) (a m m2 : Nat → Nat) (lt : Nat → Int32) {d : Nat} (hd : d < 6) (h : ∀ j, ¬ (4 ≤ j ∧ (j - 4) % 10 = 4 + d) → m2 j = m j) : hallW g a m2 lt = (hallW g a m lt).set (7 + d) (a (7 + d), .inl (kI g, 8, .inl (fun i => nI (m2 (4 + 10 * i + (4 + d)))))) := by
  match d, hd, h with
  | 0, _, h =>
    conv => lhs; unfold hallW
    rw [h 0 (by omega), h 1 (by omega), h 2 (by omega), h 3 (by omega), show (fun i => nI (m2 (4 + 10 * i + 0))) = (fun i => nI (m (4 + 10 * i + 0))) from funext fun i => by rw [h _ (by omega)], show (fun i => nI (m2 (4 + 10 * i + 1))) = (fun i => nI (m (4 + 10 * i + 1))) from funext fun i => by rw [h _ (by omega)], show (fun i => nI (m2 (4 + 10 * i + 2))) = (fun i => nI (m (4 + 10 * i + 2))) from funext fun i => by rw [h _ (by omega)], show (fun i => nI (m2 (4 + 10 * i + 3))) = (fun i => nI (m (4 + 10 * i + 3))) from funext fun i => by rw [h _ (by omega)], show (fun i => nI (m2 (4 + 10 * i + (4 + 1)))) = (fun i => nI (m (4 + 10 * i + (4 + 1)))) from funext fun i => by rw [h _ (by omega)], show (fun i => nI (m2 (4 + 10 * i + (4 + 2)))) = (fun i => nI (m (4 + 10 * i + (4 + 2)))) from funext fun i => by rw [h _ (by omega)], show (fun i => nI (m2 (4 + 10 * i + (4 + 3)))) = (fun i => nI (m (4 + 10 * i + (4 + 3)))) from funext fun i => by rw [h _ (by omega)], show (fun i => nI (m2 (4 + 10 * i + (4 + 4)))) = (fun i => nI (m (4 + 10 * i + (4 + 4)))) from funext fun i => by rw [h _ (by omega)], show (fun i => nI (m2 (4 + 10 * i + (4 + 5)))) = (fun i => nI (m (4 + 10 * i + (4 + 5)))) from funext fun i => by rw [h _ (by omega)]]
    rfl
  | 1, _, h =>
    conv => lhs; unfold hallW
    rw [h 0 (by omega), h 1 (by omega), h 2 (by omega), h 3 (by omega), show (fun i => nI (m2 (4 + 10 * i + 0))) = (fun i => nI (m (4 + 10 * i + 0))) from funext fun i => by rw [h _ (by omega)], show (fun i => nI (m2 (4 + 10 * i + 1))) = (fun i => nI (m (4 + 10 * i + 1))) from funext fun i => by rw [h _ (by omega)], show (fun i => nI (m2 (4 + 10 * i + 2))) = (fun i => nI (m (4 + 10 * i + 2))) from funext fun i => by rw [h _ (by omega)], show (fun i => nI (m2 (4 + 10 * i + 3))) = (fun i => nI (m (4 + 10 * i + 3))) from funext fun i => by rw [h _ (by omega)], show (fun i => nI (m2 (4 + 10 * i + (4 + 0)))) = (fun i => nI (m (4 + 10 * i + (4 + 0)))) from funext fun i => by rw [h _ (by omega)], show (fun i => nI (m2 (4 + 10 * i + (4 + 2)))) = (fun i => nI (m (4 + 10 * i + (4 + 2)))) from funext fun i => by rw [h _ (by omega)], show (fun i => nI (m2 (4 + 10 * i + (4 + 3)))) = (fun i => nI (m (4 + 10 * i + (4 + 3)))) from funext fun i => by rw [h _ (by omega)], show (fun i => nI (m2 (4 + 10 * i + (4 + 4)))) = (fun i => nI (m (4 + 10 * i + (4 + 4)))) from funext fun i => by rw [h _ (by omega)], show (fun i => nI (m2 (4 + 10 * i + (4 + 5)))) = (fun i => nI (m (4 + 10 * i + (4 + 5)))) from funext fun i => by rw [h _ (by omega)]]
    rfl
  | 2, _, h =>
    conv => lhs; unfold hallW
    rw [h 0 (by omega), h 1 (by omega), h 2 (by omega), h 3 (by omega), show (fun i => nI (m2 (4 + 10 * i + 0))) = (fun i => nI (m (4 + 10 * i + 0))) from funext fun i => by rw [h _ (by omega)], show (fun i => nI (m2 (4 + 10 * i + 1))) = (fun i => nI (m (4 + 10 * i + 1))) from funext fun i => by rw [h _ (by omega)], show (fun i => nI (m2 (4 + 10 * i + 2))) = (fun i => nI (m (4 + 10 * i + 2))) from funext fun i => by rw [h _ (by omega)], show (fun i => nI (m2 (4 + 10 * i + 3))) = (fun i => nI (m (4 + 10 * i + 3))) from funext fun i => by rw [h _ (by omega)], show (fun i => nI (m2 (4 + 10 * i + (4 + 0)))) = (fun i => nI (m (4 + 10 * i + (4 + 0)))) from funext fun i => by rw [h _ (by omega)], show (fun i => nI (m2 (4 + 10 * i + (4 + 1)))) = (fun i => nI (m (4 + 10 * i + (4 + 1)))) from funext fun i => by rw [h _ (by omega)], show (fun i => nI (m2 (4 + 10 * i + (4 + 3)))) = (fun i => nI (m (4 + 10 * i + (4 + 3)))) from funext fun i => by rw [h _ (by omega)], show (fun i => nI (m2 (4 + 10 * i + (4 + 4)))) = (fun i => nI (m (4 + 10 * i + (4 + 4)))) from funext fun i => by rw [h _ (by omega)], show (fun i => nI (m2 (4 + 10 * i + (4 + 5)))) = (fun i => nI (m (4 + 10 * i + (4 + 5)))) from funext fun i => by rw [h _ (by omega)]]
    rfl
  | 3, _, h =>
    conv => lhs; unfold hallW
    rw [h 0 (by omega), h 1 (by omega), h 2 (by omega), h 3 (by omega), show (fun i => nI (m2 (4 + 10 * i + 0))) = (fun i => nI (m (4 + 10 * i + 0))) from funext fun i => by rw [h _ (by omega)], show (fun i => nI (m2 (4 + 10 * i + 1))) = (fun i => nI (m (4 + 10 * i + 1))) from funext fun i => by rw [h _ (by omega)], show (fun i => nI (m2 (4 + 10 * i + 2))) = (fun i => nI (m (4 + 10 * i + 2))) from funext fun i => by rw [h _ (by omega)], show (fun i => nI (m2 (4 + 10 * i + 3))) = (fun i => nI (m (4 + 10 * i + 3))) from funext fun i => by rw [h _ (by omega)], show (fun i => nI (m2 (4 + 10 * i + (4 + 0)))) = (fun i => nI (m (4 + 10 * i + (4 + 0)))) from funext fun i => by rw [h _ (by omega)], show (fun i => nI (m2 (4 + 10 * i + (4 + 1)))) = (fun i => nI (m (4 + 10 * i + (4 + 1)))) from funext fun i => by rw [h _ (by omega)], show (fun i => nI (m2 (4 + 10 * i + (4 + 2)))) = (fun i => nI (m (4 + 10 * i + (4 + 2)))) from funext fun i => by rw [h _ (by omega)], show (fun i => nI (m2 (4 + 10 * i + (4 + 4)))) = (fun i => nI (m (4 + 10 * i + (4 + 4)))) from funext fun i => by rw [h _ (by omega)], show (fun i => nI (m2 (4 + 10 * i + (4 + 5)))) = (fun i => nI (m (4 + 10 * i + (4 + 5)))) from funext fun i => by rw [h _ (by omega)]]
    rfl
  | 4, _, h =>
    conv => lhs; unfold hallW
    rw [h 0 (by omega), h 1 (by omega), h 2 (by omega), h 3 (by omega), show (fun i => nI (m2 (4 + 10 * i + 0))) = (fun i => nI (m (4 + 10 * i + 0))) from funext fun i => by rw [h _ (by omega)], show (fun i => nI (m2 (4 + 10 * i + 1))) = (fun i => nI (m (4 + 10 * i + 1))) from funext fun i => by rw [h _ (by omega)], show (fun i => nI (m2 (4 + 10 * i + 2))) = (fun i => nI (m (4 + 10 * i + 2))) from funext fun i => by rw [h _ (by omega)], show (fun i => nI (m2 (4 + 10 * i + 3))) = (fun i => nI (m (4 + 10 * i + 3))) from funext fun i => by rw [h _ (by omega)], show (fun i => nI (m2 (4 + 10 * i + (4 + 0)))) = (fun i => nI (m (4 + 10 * i + (4 + 0)))) from funext fun i => by rw [h _ (by omega)], show (fun i => nI (m2 (4 + 10 * i + (4 + 1)))) = (fun i => nI (m (4 + 10 * i + (4 + 1)))) from funext fun i => by rw [h _ (by omega)], show (fun i => nI (m2 (4 + 10 * i + (4 + 2)))) = (fun i => nI (m (4 + 10 * i + (4 + 2)))) from funext fun i => by rw [h _ (by omega)], show (fun i => nI (m2 (4 + 10 * i + (4 + 3)))) = (fun i => nI (m (4 + 10 * i + (4 + 3)))) from funext fun i => by rw [h _ (by omega)], show (fun i => nI (m2 (4 + 10 * i + (4 + 5)))) = (fun i => nI (m (4 + 10 * i + (4 + 5)))) from funext fun i => by rw [h _ (by omega)]]
    rfl
  | 5, _, h =>
    conv => lhs; unfold hallW
    rw [h 0 (by omega), h 1 (by omega), h 2 (by omega), h 3 (by omega), show (fun i => nI (m2 (4 + 10 * i + 0))) = (fun i => nI (m (4 + 10 * i + 0))) from funext fun i => by rw [h _ (by omega)], show (fun i => nI (m2 (4 + 10 * i + 1))) = (fun i => nI (m (4 + 10 * i + 1))) from funext fun i => by rw [h _ (by omega)], show (fun i => nI (m2 (4 + 10 * i + 2))) = (fun i => nI (m (4 + 10 * i + 2))) from funext fun i => by rw [h _ (by omega)], show (fun i => nI (m2 (4 + 10 * i + 3))) = (fun i => nI (m (4 + 10 * i + 3))) from funext fun i => by rw [h _ (by omega)], show (fun i => nI (m2 (4 + 10 * i + (4 + 0)))) = (fun i => nI (m (4 + 10 * i + (4 + 0)))) from funext fun i => by rw [h _ (by omega)], show (fun i => nI (m2 (4 + 10 * i + (4 + 1)))) = (fun i => nI (m (4 + 10 * i + (4 + 1)))) from funext fun i => by rw [h _ (by omega)], show (fun i => nI (m2 (4 + 10 * i + (4 + 2)))) = (fun i => nI (m (4 + 10 * i + (4 + 2)))) from funext fun i => by rw [h _ (by omega)], show (fun i => nI (m2 (4 + 10 * i + (4 + 3)))) = (fun i => nI (m (4 + 10 * i + (4 + 3)))) from funext fun i => by rw [h _ (by omega)], show (fun i => nI (m2 (4 + 10 * i + (4 + 4)))) = (fun i => nI (m (4 + 10 * i + (4 + 4)))) from funext fun i => by rw [h _ (by omega)]]
    rfl
theorem hs_set_addr {ws : va_W} {q a : Nat} {e0 e : va_E} (he : ws[q]? = some (a, e0)) : (ws.set q (a, e)).map Prod.fst = ws.map Prod.fst := by
  apply List.ext_getElem?
  intro i
  rw [List.getElem?_map, List.getElem?_map]
  by_cases h : i = q
  · subst h
    rw [List.getElem?_set_self (List.getElem?_eq_some_iff.mp he).1, he]
    rfl
  · rw [List.getElem?_set_ne (Ne.symm h)]
theorem hs_fade {g : KG} {a m : Nat → Nat} {lt : Nat → Int32} {d : Nat} (hd : d < 6) (h8 : m 0 ≤ 8) (hl : ∀ j, j < m 0 → lt j = nI (vNew m j d)) {D : va_G} {cl : List vw_C} {H : Heap} (hP : va_P D cl ((hallW g a m lt).set (7 + d) (a (7 + d), .inl (kI g, 8, .inl (va_cpy lt (fun i => nI (m (4 + 10 * i + (4 + d)))) 0 0 (m 0))))) H) : va_P D cl (hallW g a (vRow m d) lt) H := by
  rw [hs_rowfn g a m (vRow m d) lt hd (fun j hj => vRow_ne hj)]
  have hr := hallW_row g a m lt hd
  have := kP_arr (q := 7 + d) (f2 := fun i => nI (vRow m d (4 + 10 * i + (4 + d)))) (by rw [List.getElem?_set_self (List.getElem?_eq_some_iff.mp hr).1]) (fun i hi => by
    show nI (vRow m d (4 + 10 * i + (4 + d))) = _
    rw [vRow_at hd]
    by_cases h : i < m 0
    · rw [if_pos h, pk_cpy_in (by omega) (by omega)]
      simp only [Nat.zero_add, Nat.sub_zero]
      exact (hl i h).symm
    · rw [if_neg h, pk_cpy_out (by omega)]) hP
  rwa [List.set_set] at this
theorem vRow_rows (m : Nat → Nat) (k : Nat) (hk : k < 6) : vRow (vRows m k) k = vRows m (k + 1) := by
  have p0 : vRows m k 0 = m 0 := if_neg (by omega)
  have pl : ∀ q, vPl (vRows m k) q = vPl m q := fun q => if_neg (by omega)
  have sc : ∀ q, vSc (vRows m k) q k = vSc m q k := fun q => if_neg (by omega)
  have mx : ∀ q n, vMax (vRows m k) q k n = vMax m q k n := by
    intro q n
    induction n with
    | zero => rfl
    | succ n ih => rw [vMax, vMax, ih, pl, pl, sc]
  have nw : ∀ q, vNew (vRows m k) q k = vNew m q k := fun q => by rw [vNew, vNew, mx, sc, p0]
  funext j
  unfold vRow
  rw [p0]
  by_cases h : 4 ≤ j ∧ (j - 4) % 10 = 4 + k ∧ (j - 4) / 10 < m 0
  · rw [if_pos h, nw]
    unfold vRows
    rw [if_pos (by omega), h.2.1]
    congr 1
    omega
  · rw [if_neg h]
    unfold vRows
    by_cases h2 : 4 ≤ j ∧ 4 ≤ (j - 4) % 10 ∧ (j - 4) % 10 < 4 + k ∧ (j - 4) / 10 < m 0
    · rw [if_pos h2, if_pos (by omega)]
    · rw [if_neg h2, if_neg (by omega)]
theorem vRows_0 (m : Nat → Nat) : vRows m 0 = m := funext fun j => if_neg (by omega)
theorem vOk_rows {B : Nat} {m : Nat → Nat} (h : vOk B m) {k : Nat} (hk : k ≤ 6) : vOk B (vRows m k) := by
  have lo : ∀ j, j < 4 → vRows m k j = m j := fun j hj => if_neg (by omega)
  refine ⟨by rw [lo 0 (by omega)]; exact h.1, by rw [lo 1 (by omega)]; exact h.2.1, by rw [lo 2 (by omega)]; exact h.2.2.1, by rw [lo 3 (by omega)]; exact h.2.2.2.1, by rw [lo 3 (by omega)]; exact h.2.2.2.2.1, fun p hp => ⟨?_, ?_, ?_, ?_, fun d hd => ?_⟩⟩
  · show vRows m k _ ≤ 5
    rw [show vRows m k (4 + 10 * p + 0) = m (4 + 10 * p + 0) from if_neg (by omega)]
    exact h.kd hp
  · show vRows m k _ ≤ 47
    rw [show vRows m k (4 + 10 * p + 1) = m (4 + 10 * p + 1) from if_neg (by omega)]
    exact h.pl hp
  · show vRows m k _ ≤ 9
    rw [show vRows m k (4 + 10 * p + 2) = m (4 + 10 * p + 2) from if_neg (by omega)]
    exact h.ns hp
  · show vRows m k _ ≤ 1
    rw [show vRows m k (4 + 10 * p + 3) = m (4 + 10 * p + 3) from if_neg (by omega)]
    exact h.cd hp
  · show vRows m k _ ≤ 99
    have e1 : (4 + 10 * p + (4 + d) - 4) % 10 = 4 + d := by omega
    have e2 : (4 + 10 * p + (4 + d) - 4) / 10 = p := by omega
    unfold vRows
    rw [e1, e2]
    split
    · rw [show 4 + d - 4 = d by omega]
      exact vNew_le h hp hd
    · exact h.sc hp hd
theorem vOk_row {B : Nat} {m : Nat → Nat} (h : vOk B m) {k : Nat} (hk : k < 6) : vOk B (vRow m k) := by
  have lo : ∀ j, j < 4 → vRow m k j = m j := fun j hj => if_neg (by omega)
  refine ⟨by rw [lo 0 (by omega)]; exact h.1, by rw [lo 1 (by omega)]; exact h.2.1, by rw [lo 2 (by omega)]; exact h.2.2.1, by rw [lo 3 (by omega)]; exact h.2.2.2.1, by rw [lo 3 (by omega)]; exact h.2.2.2.2.1, fun p hp => ⟨?_, ?_, ?_, ?_, fun d hd => ?_⟩⟩
  · show vRow m k _ ≤ 5
    rw [vRow_ne (by omega)]
    exact h.kd hp
  · show vRow m k _ ≤ 47
    rw [vRow_ne (by omega)]
    exact h.pl hp
  · show vRow m k _ ≤ 9
    rw [vRow_ne (by omega)]
    exact h.ns hp
  · show vRow m k _ ≤ 1
    rw [vRow_ne (by omega)]
    exact h.cd hp
  · show vRow m k _ ≤ 99
    by_cases e : d = k
    · subst e
      rw [vRow_at hd]
      split
      · exact vNew_le h hp hd
      · exact h.sc hp hd
    · rw [vRow_ne (by omega)]
      exact h.sc hp hd
theorem vOk_hr {B : Nat} {m : Nat → Nat} (h : vOk B m) (v : Nat) (hv : v ≤ B + 1) : vOk (B + 1) (vUp m 1 v) := by
  have lo : ∀ j, j ≠ 1 → vUp m 1 v j = m j := fun j hj => vUp_ne hj
  refine ⟨by rw [lo 0 (by omega)]; exact h.1, by rw [vUp_s]; exact hv, by rw [lo 2 (by omega)]; exact h.2.2.1, by rw [lo 3 (by omega)]; exact h.2.2.2.1, by rw [lo 3 (by omega)]; exact h.2.2.2.2.1, fun p hp => ⟨?_, ?_, ?_, ?_, fun d hd => ?_⟩⟩
  · show vUp m 1 v _ ≤ 5
    rw [lo _ (by omega)]; exact h.kd hp
  · show vUp m 1 v _ ≤ 47
    rw [lo _ (by omega)]; exact h.pl hp
  · show vUp m 1 v _ ≤ 9
    rw [lo _ (by omega)]; exact h.ns hp
  · show vUp m 1 v _ ≤ 1
    rw [lo _ (by omega)]; exact h.cd hp
  · show vUp m 1 v _ ≤ 99
    rw [lo _ (by omega)]; exact h.sc hp hd
theorem vOk_hour {B : Nat} {m : Nat → Nat} (h : vOk B m) : vOk (B + 1) (vHour m) := vOk_hr (vOk_rows h (by omega)) _ (Nat.succ_le_succ h.2.1)
theorem vOk_hourFor {B : Nat} {m : Nat → Nat} (h : vOk B m) {d : Nat} (hd : d < 6) : vOk (B + 1) (vHourFor m d) := vOk_hr (vOk_row h hd) _ (Nat.succ_le_succ h.2.1)
theorem vSum_swap (f : Nat → Nat → Nat) (k : Nat) : ∀ n, vSum (fun d => vSum (fun p => f p d) n) k = vSum (fun p => vSum (fun d => f p d) k) n
  | 0 => by
    show vSum (fun _ => 0) k = 0
    induction k with
    | zero => rfl
    | succ k ih => rw [vSum, ih]
  | n + 1 => by
    rw [vSum, ← vSum_swap f k n]
    induction k with
    | zero => rfl
    | succ k ih => rw [vSum, ih, vSum, vSum, vSum]; omega
set_option maxHeartbeats 4000000 in
set_option maxRecDepth 100000 in
theorem ct_X3_isUnder (l : Launch) (g : KG) (x y : Nat) (hx : x ≤ 5) (hy : y ≤ 5) : CI l yX3_isUnder cX3_isUnder 2 (some .boolean) (rmK 0) g [.int (nI x), .int (nI y)] ([]) (kb (vUnder x y)) ([]) := by
  refine k_bodyI (by decide) (Nat.le_of_ble_eq_true rfl) (fun _ _ h => by rw [h]; exact kb_nar _) (fun J hJ hR => ?_)
  show J ([]) [(0, .int (nI x)), (1, .int (nI y))] 0 []
  refine k_iload_n hJ dX3_isUnder_0 1 rfl ?_
  rcases (show y = 0 ∨ y = 1 ∨ y = 2 ∨ y = 3 ∨ y = 4 ∨ y = 5 from by omega) with c1 | c1 | c1 | c1 | c1 | c1
  · refine n_tabIn (c := 0) (tgt := 32) hJ dX3_isUnder_1 c1 (by decide) (by decide) (by decide) rfl (by decide) ?_
    refine k_iconst (v := nI 1) hJ dX3_isUnder_32 (by decide) ?_
    exact hR _ _ _ () dX3_isUnder_33 (by show kb true = _; refine congrArg kb ?_; unfold vUnder; subst c1; simp <;> omega)
  · refine n_tabIn (c := 1) (tgt := 66) hJ dX3_isUnder_1 c1 (by decide) (by decide) (by decide) rfl (by decide) ?_
    refine k_iload_n hJ dX3_isUnder_66 0 rfl ?_
    refine k_iload_n hJ dX3_isUnder_67 1 rfl ?_
    refine n_icmp_ne (tgt := 75) hJ dX3_isUnder_68 (by decide) (by omega) (by omega) (fun c68 => ?_) (fun c68 => ?_)
    · refine k_iconst (v := nI 0) hJ dX3_isUnder_75 (by decide) ?_
      exact hR _ _ _ () dX3_isUnder_76 (by show kb false = _; refine congrArg kb ?_; unfold vUnder; subst c1; simp <;> omega)
    · refine k_iconst (v := nI 1) hJ dX3_isUnder_71 (by decide) ?_
      refine k_goto (tgt := 76) hJ dX3_isUnder_72 (by decide) ?_
      exact hR _ _ _ () dX3_isUnder_76 (by show kb true = _; refine congrArg kb ?_; unfold vUnder; subst c1; simp <;> omega)
  · refine n_tabIn (c := 2) (tgt := 34) hJ dX3_isUnder_1 c1 (by decide) (by decide) (by decide) rfl (by decide) ?_
    refine k_iload_n hJ dX3_isUnder_34 0 rfl ?_
    refine k_iconst (v := nI 2) hJ dX3_isUnder_35 (by decide) ?_
    refine n_icmp_eq (tgt := 44) hJ dX3_isUnder_36 (by decide) (by omega) (by omega) (fun c36 => ?_) (fun c36 => ?_)
    · refine k_iconst (v := nI 1) hJ dX3_isUnder_44 (by decide) ?_
      refine k_goto (tgt := 49) hJ dX3_isUnder_45 (by decide) ?_
      exact hR _ _ _ () dX3_isUnder_49 (by show kb true = _; refine congrArg kb ?_; unfold vUnder; subst c1; simp <;> omega)
    · refine k_iload_n hJ dX3_isUnder_39 0 rfl ?_
      refine k_iconst (v := nI 4) hJ dX3_isUnder_40 (by decide) ?_
      refine n_icmp_ne (tgt := 48) hJ dX3_isUnder_41 (by decide) (by omega) (by omega) (fun c41 => ?_) (fun c41 => ?_)
      · refine k_iconst (v := nI 0) hJ dX3_isUnder_48 (by decide) ?_
        exact hR _ _ _ () dX3_isUnder_49 (by show kb false = _; refine congrArg kb ?_; unfold vUnder; subst c1; simp <;> omega)
      · refine k_iconst (v := nI 1) hJ dX3_isUnder_44 (by decide) ?_
        refine k_goto (tgt := 49) hJ dX3_isUnder_45 (by decide) ?_
        exact hR _ _ _ () dX3_isUnder_49 (by show kb true = _; refine congrArg kb ?_; unfold vUnder; subst c1; simp <;> omega)
  · refine n_tabIn (c := 3) (tgt := 50) hJ dX3_isUnder_1 c1 (by decide) (by decide) (by decide) rfl (by decide) ?_
    refine k_iload_n hJ dX3_isUnder_50 0 rfl ?_
    refine k_iconst (v := nI 3) hJ dX3_isUnder_51 (by decide) ?_
    refine n_icmp_eq (tgt := 60) hJ dX3_isUnder_52 (by decide) (by omega) (by omega) (fun c52 => ?_) (fun c52 => ?_)
    · refine k_iconst (v := nI 1) hJ dX3_isUnder_60 (by decide) ?_
      refine k_goto (tgt := 65) hJ dX3_isUnder_61 (by decide) ?_
      exact hR _ _ _ () dX3_isUnder_65 (by show kb true = _; refine congrArg kb ?_; unfold vUnder; subst c1; simp <;> omega)
    · refine k_iload_n hJ dX3_isUnder_55 0 rfl ?_
      refine k_iconst (v := nI 5) hJ dX3_isUnder_56 (by decide) ?_
      refine n_icmp_ne (tgt := 64) hJ dX3_isUnder_57 (by decide) (by omega) (by omega) (fun c57 => ?_) (fun c57 => ?_)
      · refine k_iconst (v := nI 0) hJ dX3_isUnder_64 (by decide) ?_
        exact hR _ _ _ () dX3_isUnder_65 (by show kb false = _; refine congrArg kb ?_; unfold vUnder; subst c1; simp <;> omega)
      · refine k_iconst (v := nI 1) hJ dX3_isUnder_60 (by decide) ?_
        refine k_goto (tgt := 65) hJ dX3_isUnder_61 (by decide) ?_
        exact hR _ _ _ () dX3_isUnder_65 (by show kb true = _; refine congrArg kb ?_; unfold vUnder; subst c1; simp <;> omega)
  · refine n_tabOut (tgt := 66) hJ dX3_isUnder_1 (by omega) (by omega) (by decide) ?_
    refine k_iload_n hJ dX3_isUnder_66 0 rfl ?_
    refine k_iload_n hJ dX3_isUnder_67 1 rfl ?_
    refine n_icmp_ne (tgt := 75) hJ dX3_isUnder_68 (by decide) (by omega) (by omega) (fun c68 => ?_) (fun c68 => ?_)
    · refine k_iconst (v := nI 0) hJ dX3_isUnder_75 (by decide) ?_
      exact hR _ _ _ () dX3_isUnder_76 (by show kb false = _; refine congrArg kb ?_; unfold vUnder; subst c1; simp <;> omega)
    · refine k_iconst (v := nI 1) hJ dX3_isUnder_71 (by decide) ?_
      refine k_goto (tgt := 76) hJ dX3_isUnder_72 (by decide) ?_
      exact hR _ _ _ () dX3_isUnder_76 (by show kb true = _; refine congrArg kb ?_; unfold vUnder; subst c1; simp <;> omega)
  · refine n_tabOut (tgt := 66) hJ dX3_isUnder_1 (by omega) (by omega) (by decide) ?_
    refine k_iload_n hJ dX3_isUnder_66 0 rfl ?_
    refine k_iload_n hJ dX3_isUnder_67 1 rfl ?_
    refine n_icmp_ne (tgt := 75) hJ dX3_isUnder_68 (by decide) (by omega) (by omega) (fun c68 => ?_) (fun c68 => ?_)
    · refine k_iconst (v := nI 0) hJ dX3_isUnder_75 (by decide) ?_
      exact hR _ _ _ () dX3_isUnder_76 (by show kb false = _; refine congrArg kb ?_; unfold vUnder; subst c1; simp <;> omega)
    · refine k_iconst (v := nI 1) hJ dX3_isUnder_71 (by decide) ?_
      refine k_goto (tgt := 76) hJ dX3_isUnder_72 (by decide) ?_
      exact hR _ _ _ () dX3_isUnder_76 (by show kb true = _; refine congrArg kb ?_; unfold vUnder; subst c1; simp <;> omega)
set_option maxHeartbeats 4000000 in
set_option maxRecDepth 100000 in
theorem ct_X3_faded (l : Launch) (g : KG) (d v : Nat) (hd : d < 6) (hv : v ≤ 99) : CI l yX3_faded cX3_faded 2 (some .int) (rmK 1) g [.int (nI d), .int (nI v)] ([]) (nI (vFade d v)) ([]) := by
  refine k_bodyI (by decide) (Nat.le_of_ble_eq_true rfl) (fun _ _ _ => rfl) (fun J hJ hR => ?_)
  show J ([]) [(0, .int (nI d)), (1, .int (nI v))] 0 []
  refine k_iload_n hJ dX3_faded_0 0 rfl ?_
  refine k_iconst (v := nI 5) hJ dX3_faded_1 (by decide) ?_
  refine n_icmp_ne (tgt := 13) hJ dX3_faded_2 (by decide) (by omega) (by omega) (fun c2 => ?_) (fun c2 => ?_)
  · refine k_iload_n hJ dX3_faded_13 1 rfl ?_
    refine k_iload_n hJ dX3_faded_14 1 rfl ?_
    refine k_bipush (v := nI 10) hJ dX3_faded_15 (by decide) ?_
    refine n_idiv hJ dX3_faded_17 (by omega) (by omega) (by omega) ?_
    refine n_isub hJ dX3_faded_18 (by omega) ?_
    refine k_iconst (v := nI 1) hJ dX3_faded_19 (by decide) ?_
    refine k_isub hJ dX3_faded_20 ?_
    refine k_iconst (v := nI 0) hJ dX3_faded_21 (by decide) ?_
    refine k_mmax hJ ml_X3_121 (Nat.le_of_ble_eq_true rfl) dX3_faded_22 ?_
    refine k_eqs (st2 := [.int (nI (v - v / 10 - 1))]) (by rw [nI_max0 (by omega) (by omega)]) ?_
    exact hR _ _ _ () dX3_faded_25 (by refine congrArg nI ?_; unfold vFade; (try simp only [vKd, vPl, vNs, vCd, vSc]); (repeat' split) <;> first | rfl | omega)
  · refine k_iload_n hJ dX3_faded_5 1 rfl ?_
    refine k_iload_n hJ dX3_faded_6 1 rfl ?_
    refine k_iconst (v := nI 2) hJ dX3_faded_7 (by decide) ?_
    refine n_idiv hJ dX3_faded_8 (by omega) (by omega) (by omega) ?_
    refine n_isub hJ dX3_faded_9 (by omega) ?_
    refine k_goto (tgt := 25) hJ dX3_faded_10 (by decide) ?_
    exact hR _ _ _ () dX3_faded_25 (by refine congrArg nI ?_; unfold vFade; (try simp only [vKd, vPl, vNs, vCd, vSc]); (repeat' split) <;> first | rfl | omega)
set_option maxHeartbeats 4000000 in
set_option maxRecDepth 100000 in
theorem ct_X0_smelt (l : Launch) (g : KG) (a m : Nat → Nat) (lt : Nat → Int32) (p o d : Nat)  {B : Nat} (hB : B < 2 ^ 30) (hm : vOk B m) (hp : p < 8) (ho : o < 8) (hd : d < 6) : CI l yX0_smelt cX0_smelt 5 (some .int) (rmK 2) g [.ref (a 0), .int (nI p), .int (nI o), .int (nI d)] (hallW g a m lt) (nI (vSmell m p o d)) (hallW g a m lt) := by
  refine k_bodyI (by decide) (Nat.le_of_ble_eq_true rfl) (fun _ _ _ => rfl) (fun J hJ hR => ?_)
  have hg0 := vGives_le hm ho hd
  have ha0 := vApart_le (hm.pl hp) (hm.pl ho)
  have hs0 : vSense m p (vGives m o d) (vApart (m (4 + 10 * p + 1)) (m (4 + 10 * o + 1))) ≤ 2667 := vSense_le hm hp hg0
  show J (hallW g a m lt) [(0, .ref (a 0)), (1, .int (nI p)), (2, .int (nI o)), (3, .int (nI d))] 0 []
  refine k_aload_n hJ dX0_smelt_0 0 rfl ?_
  refine k_iload_n hJ dX0_smelt_1 1 rfl ?_
  refine k_aload_n hJ dX0_smelt_2 0 rfl ?_
  refine k_iload_n hJ dX0_smelt_3 2 rfl ?_
  refine k_iload_n hJ dX0_smelt_4 3 rfl ?_
  refine c_VI (As := [.int (nI o), .int (nI d)]) (st := [.int (nI p), .ref (a 0)]) hJ (ct_X0_givesOff l g a m lt o d hB hm (by omega) (by omega)) (Fr.all rfl) mv_X0_givesOff ml_X0_65 0 rfl rfl rfl (kRm_ok (by decide) (by decide)) rfl rfl (Nat.le_of_ble_eq_true rfl) dX0_smelt_5 ?_
  refine k_aload_n hJ dX0_smelt_8 0 rfl ?_
  refine gf_X0_28 hJ 0 rfl rfl dX0_smelt_9 ?_
  refine k_iload_n hJ dX0_smelt_12 1 rfl ?_
  refine k_iald hJ 2 rfl p (by omega) (by decide) rfl dX0_smelt_13 ?_
  have hb13 : m (4 + 10 * p + 1) ≤ 47 := hm.pl (show p < 8 by omega)
  refine k_aload_n hJ dX0_smelt_14 0 rfl ?_
  refine gf_X0_28 hJ 0 rfl rfl dX0_smelt_15 ?_
  refine k_iload_n hJ dX0_smelt_18 2 rfl ?_
  refine k_iald hJ 2 rfl o (by omega) (by decide) rfl dX0_smelt_19 ?_
  have hb19 : m (4 + 10 * o + 1) ≤ 47 := hm.pl (show o < 8 by omega)
  refine c_SI (As := [.int (nI (m (4 + 10 * p + 1))), .int (nI (m (4 + 10 * o + 1)))]) (st := [.int (nI (vGives m o d)), .int (nI p), .ref (a 0)]) hJ (ct_X0_apart l g (m (4 + 10 * p + 1)) (m (4 + 10 * o + 1)) (by omega) (by omega)) Fr.none ms_X0_apart ml_X0_68 (kRm_ok (by decide) (by decide)) rfl rfl (Nat.le_of_ble_eq_true rfl) dX0_smelt_20 ?_
  refine c_VI (As := [.int (nI p), .int (nI (vGives m o d)), .int (nI (vApart (m (4 + 10 * p + 1)) (m (4 + 10 * o + 1))))]) (st := []) hJ (ct_X0_senses l g a m lt p (vGives m o d) (vApart (m (4 + 10 * p + 1)) (m (4 + 10 * o + 1))) hB hm (by omega) hg0 ha0) (Fr.all rfl) mv_X0_senses ml_X0_71 0 rfl rfl rfl (kRm_ok (by decide) (by decide)) rfl rfl (Nat.le_of_ble_eq_true rfl) dX0_smelt_23 ?_
  refine k_istore (lv1 := [(0, .ref (a 0)), (1, .int (nI p)), (2, .int (nI o)), (3, .int (nI d)), (4, .int (nI (vSense m p (vGives m o d) (vApart (m (4 + 10 * p + 1)) (m (4 + 10 * o + 1))))))]) hJ dX0_smelt_26 (by decide) [1, 2, 3, 4, 0] rfl ?_
  refine k_aload_n hJ dX0_smelt_28 0 rfl ?_
  refine k_aload_n hJ dX0_smelt_29 0 rfl ?_
  refine gf_X0_28 hJ 0 rfl rfl dX0_smelt_30 ?_
  refine k_iload_n hJ dX0_smelt_33 1 rfl ?_
  refine k_iald hJ 2 rfl p (by omega) (by decide) rfl dX0_smelt_34 ?_
  have hb34 : m (4 + 10 * p + 1) ≤ 47 := hm.pl (show p < 8 by omega)
  refine k_aload_n hJ dX0_smelt_35 0 rfl ?_
  refine gf_X0_28 hJ 0 rfl rfl dX0_smelt_36 ?_
  refine k_iload_n hJ dX0_smelt_39 2 rfl ?_
  refine k_iald hJ 2 rfl o (by omega) (by decide) rfl dX0_smelt_40 ?_
  have hb40 : m (4 + 10 * o + 1) ≤ 47 := hm.pl (show o < 8 by omega)
  refine c_VI (As := [.int (nI (m (4 + 10 * p + 1))), .int (nI (m (4 + 10 * o + 1)))]) (st := []) hJ (ct_X0_isDownwind l g a m lt (m (4 + 10 * p + 1)) (m (4 + 10 * o + 1)) hB hm (by omega) (by omega)) (Fr.all rfl) mv_X0_isDownwind ml_X0_75 0 rfl rfl rfl (kRm_ok (by decide) (by decide)) rfl rfl (Nat.le_of_ble_eq_true rfl) dX0_smelt_41 ?_
  refine b_if_eq (tgt := 52) hJ dX0_smelt_44 (by decide) (fun c44 => ?_) (fun c44 => ?_)
  · refine k_aload_n hJ dX0_smelt_52 0 rfl ?_
    refine k_aload_n hJ dX0_smelt_53 0 rfl ?_
    refine gf_X0_28 hJ 0 rfl rfl dX0_smelt_54 ?_
    refine k_iload_n hJ dX0_smelt_57 2 rfl ?_
    refine k_iald hJ 2 rfl o (by omega) (by decide) rfl dX0_smelt_58 ?_
    have hb58 : m (4 + 10 * o + 1) ≤ 47 := hm.pl (show o < 8 by omega)
    refine k_aload_n hJ dX0_smelt_59 0 rfl ?_
    refine gf_X0_28 hJ 0 rfl rfl dX0_smelt_60 ?_
    refine k_iload_n hJ dX0_smelt_63 1 rfl ?_
    refine k_iald hJ 2 rfl p (by omega) (by decide) rfl dX0_smelt_64 ?_
    have hb64 : m (4 + 10 * p + 1) ≤ 47 := hm.pl (show p < 8 by omega)
    refine c_VI (As := [.int (nI (m (4 + 10 * o + 1))), .int (nI (m (4 + 10 * p + 1)))]) (st := []) hJ (ct_X0_isDownwind l g a m lt (m (4 + 10 * o + 1)) (m (4 + 10 * p + 1)) hB hm (by omega) (by omega)) (Fr.all rfl) mv_X0_isDownwind ml_X0_75 0 rfl rfl rfl (kRm_ok (by decide) (by decide)) rfl rfl (Nat.le_of_ble_eq_true rfl) dX0_smelt_65 ?_
    refine b_if_eq (tgt := 78) hJ dX0_smelt_68 (by decide) (fun c68 => ?_) (fun c68 => ?_)
    · refine k_iload hJ dX0_smelt_78 4 rfl ?_
      exact hR _ _ _ () dX0_smelt_80 (by refine congrArg nI ?_; unfold vSmell; simp only [vPl, c44, c68]; rfl)
    · refine k_iload hJ dX0_smelt_71 4 rfl ?_
      refine k_iconst (v := nI 2) hJ dX0_smelt_73 (by decide) ?_
      refine n_idiv hJ dX0_smelt_74 (by omega) (by omega) (by omega) ?_
      refine k_goto (tgt := 80) hJ dX0_smelt_75 (by decide) ?_
      exact hR _ _ _ () dX0_smelt_80 (by refine congrArg nI ?_; unfold vSmell; simp only [vPl, c44, c68]; rfl)
  · refine k_iconst (v := nI 2) hJ dX0_smelt_47 (by decide) ?_
    refine k_iload hJ dX0_smelt_48 4 rfl ?_
    refine n_imul hJ dX0_smelt_50 ?_
    exact hR _ _ _ () dX0_smelt_51 (by refine congrArg nI ?_; unfold vSmell; simp only [vPl, c44]; rfl)
set_option maxHeartbeats 4000000 in
set_option maxRecDepth 100000 in
theorem ct_X0_finds (l : Launch) (g : KG) (a m : Nat → Nat) (lt : Nat → Int32) (p o : Nat)  {B : Nat} (hB : B < 2 ^ 30) (hm : vOk B m) (hp : p < 8) (ho : o < 8) : CI l yX0_finds cX0_finds 4 (some .boolean) (rmK 3) g [.ref (a 0), .int (nI p), .int (nI o)] (hallW g a m lt) (kb (vFinds m p o)) (hallW g a m lt) := by
  refine k_bodyI (by decide) (Nat.le_of_ble_eq_true rfl) (fun _ _ h => by rw [h]; exact kb_nar _) (fun J hJ hR => ?_)
  have ha0 : vApart (m (4 + 10 * p + 1)) (m (4 + 10 * o + 1)) ≤ 12 := vApart_le (hm.pl hp) (hm.pl ho)
  show J (hallW g a m lt) [(0, .ref (a 0)), (1, .int (nI p)), (2, .int (nI o))] 0 []
  have L36 : (((m (4 + 10 * p + 0) == 2 || m (4 + 10 * p + 0) == 4) && decide (vApart (m (4 + 10 * p + 1)) (m (4 + 10 * o + 1)) ≤ 1)) = false) → ∀ (k : Nat) (d : Nat), (d ≤ 6) → (7 ≤ d + k) → (vAnyTo m p o d = false) → J (hallW g a m lt) [(0, .ref (a 0)), (1, .int (nI p)), (2, .int (nI o)), (3, .int (nI d))] 36 [] := by
    intro hk
    intro k
    induction k with
    | zero => intro d hd6 hf hn; exfalso; omega
    | succ k ih =>
      intro d hd6 hf hn
      have h3 := hm.2.2.2.2.1
      refine k_iload_n hJ dX0_finds_36 3 rfl ?_
      refine k_bipush (v := nI 6) hJ dX0_finds_37 (by decide) ?_
      refine n_icmp_ge (tgt := 64) hJ dX0_finds_39 (by decide) (by omega) (by omega) (fun c39 => ?_) (fun c39 => ?_)
      · refine k_iconst (v := nI 0) hJ dX0_finds_64 (by decide) ?_
        exact hR _ _ _ () dX0_finds_65 (by show kb false = _; refine congrArg kb ?_; unfold vFinds; simp only [vKd, vPl, hk]; unfold vAny; rw [show 6 = d by omega, hn]; rfl)
      · refine k_aload_n hJ dX0_finds_42 0 rfl ?_
        refine k_iload_n hJ dX0_finds_43 1 rfl ?_
        refine k_iload_n hJ dX0_finds_44 2 rfl ?_
        refine k_iload_n hJ dX0_finds_45 3 rfl ?_
        refine c_VI (As := [.int (nI p), .int (nI o), .int (nI d)]) (st := []) hJ (ct_X0_smelt l g a m lt p o d hB hm (by omega) (by omega) (by omega)) (Fr.all rfl) mv_X0_smelt ml_X0_82 0 rfl rfl rfl (kRm_ok (by decide) (by decide)) rfl rfl (Nat.le_of_ble_eq_true rfl) dX0_finds_46 ?_
        refine k_aload_n hJ dX0_finds_49 0 rfl ?_
        refine gf_X0_15 hJ 0 rfl rfl dX0_finds_50 ?_
        refine n_icmp_lt (tgt := 58) hJ dX0_finds_53 (by decide) (by have := vSmell_le hm hp ho (show d < 6 by omega); omega) (by omega) (fun c53 => ?_) (fun c53 => ?_)
        · refine n_iinc (b := 1) (lv1 := [(0, .ref (a 0)), (1, .int (nI p)), (2, .int (nI o)), (3, .int (nI (d + 1)))]) hJ dX0_finds_58 3 rfl (by decide) (by decide) [1, 2, 3, 0] rfl ?_
          refine k_goto (tgt := 36) hJ dX0_finds_61 (by decide) ?_
          exact ih (d + 1) (by omega) (by omega) (by rw [vAnyTo, hn, Bool.false_or]; exact decide_eq_false (by omega))
        · refine k_iconst (v := nI 1) hJ dX0_finds_56 (by decide) ?_
          exact hR _ _ _ () dX0_finds_57 (by show kb true = _; refine congrArg kb ?_; unfold vFinds; simp only [vKd, vPl, hk]; unfold vAny; rw [show 6 = (d + 1) + (5 - d) by omega, vAnyTo_mono (d := d + 1) (by rw [vAnyTo, decide_eq_true (show m 3 ≤ vSmell m p o d by omega), Bool.or_true]) (5 - d)]; rfl)
  refine k_aload_n hJ dX0_finds_0 0 rfl ?_
  refine gf_X0_24 hJ 0 rfl rfl dX0_finds_1 ?_
  refine k_iload_n hJ dX0_finds_4 1 rfl ?_
  refine k_iald hJ 1 rfl p (by omega) (by decide) rfl dX0_finds_5 ?_
  have hb5 : m (4 + 10 * p + 0) ≤ 5 := hm.kd (show p < 8 by omega)
  refine k_iconst (v := nI 2) hJ dX0_finds_6 (by decide) ?_
  refine c_NI (As := [.int (nI (m (4 + 10 * p + 0))), .int (nI 2)]) (st := []) hJ (ct_X3_isUnder l g (m (4 + 10 * p + 0)) 2 (by omega) (by omega)) Fr.none ms_X3_isUnder (fun _ _ h => h.2.1) (kRm_ok (by decide) (by decide)) rfl rfl (Nat.le_of_ble_eq_true rfl) dX0_finds_7 ?_
  refine b_if_eq (tgt := 34) hJ dX0_finds_10 (by decide) (fun c10 => ?_) (fun c10 => ?_)
  · refine k_iconst (v := nI 0) hJ dX0_finds_34 (by decide) ?_
    refine k_istore_n (lv1 := [(0, .ref (a 0)), (1, .int (nI p)), (2, .int (nI o)), (3, .int (nI 0))]) hJ dX0_finds_35 (by decide) [1, 2, 3, 0] rfl ?_
    exact L36 (by rw [show (m (4 + 10 * p + 0) == 2 || m (4 + 10 * p + 0) == 4) = false from c10]; rfl) 7 0 (by omega) (by omega) rfl
  · refine k_aload_n hJ dX0_finds_13 0 rfl ?_
    refine gf_X0_28 hJ 0 rfl rfl dX0_finds_14 ?_
    refine k_iload_n hJ dX0_finds_17 1 rfl ?_
    refine k_iald hJ 2 rfl p (by omega) (by decide) rfl dX0_finds_18 ?_
    have hb18 : m (4 + 10 * p + 1) ≤ 47 := hm.pl (show p < 8 by omega)
    refine k_aload_n hJ dX0_finds_19 0 rfl ?_
    refine gf_X0_28 hJ 0 rfl rfl dX0_finds_20 ?_
    refine k_iload_n hJ dX0_finds_23 2 rfl ?_
    refine k_iald hJ 2 rfl o (by omega) (by decide) rfl dX0_finds_24 ?_
    have hb24 : m (4 + 10 * o + 1) ≤ 47 := hm.pl (show o < 8 by omega)
    refine c_SI (As := [.int (nI (m (4 + 10 * p + 1))), .int (nI (m (4 + 10 * o + 1)))]) (st := []) hJ (ct_X0_apart l g (m (4 + 10 * p + 1)) (m (4 + 10 * o + 1)) (by omega) (by omega)) Fr.none ms_X0_apart ml_X0_68 (kRm_ok (by decide) (by decide)) rfl rfl (Nat.le_of_ble_eq_true rfl) dX0_finds_25 ?_
    refine k_iconst (v := nI 1) hJ dX0_finds_28 (by decide) ?_
    refine n_icmp_gt (tgt := 34) hJ dX0_finds_29 (by decide) (by omega) (by omega) (fun c29 => ?_) (fun c29 => ?_)
    · refine k_iconst (v := nI 0) hJ dX0_finds_34 (by decide) ?_
      refine k_istore_n (lv1 := [(0, .ref (a 0)), (1, .int (nI p)), (2, .int (nI o)), (3, .int (nI 0))]) hJ dX0_finds_35 (by decide) [1, 2, 3, 0] rfl ?_
      exact L36 (by rw [decide_eq_false (by omega), Bool.and_false]) 7 0 (by omega) (by omega) rfl
    · refine k_iconst (v := nI 0) hJ dX0_finds_32 (by decide) ?_
      exact hR _ _ _ () dX0_finds_33 (by show kb false = _; refine congrArg kb ?_; unfold vFinds; rw [show (vKd m p == 2 || vKd m p == 4) = true from c10, decide_eq_true (show vApart (vPl m p) (vPl m o) ≤ 1 by exact c29)]; rfl)
set_option maxHeartbeats 4000000 in
set_option maxRecDepth 100000 in
theorem ct_X0_finders (l : Launch) (g : KG) (a m : Nat → Nat) (lt : Nat → Int32) (o : Nat)  {B : Nat} (hB : B < 2 ^ 30) (hm : vOk B m) (ho : o < 8) : CI l yX0_finders cX0_finders 4 (some .int) (rmK 4) g [.ref (a 0), .int (nI o)] (hallW g a m lt) (nI (vFinders m o)) (hallW g a m lt) := by
  refine k_bodyI (by decide) (Nat.le_of_ble_eq_true rfl) (fun _ _ _ => rfl) (fun J hJ hR => ?_)
  have h0 := hm.1
  show J (hallW g a m lt) [(0, .ref (a 0)), (1, .int (nI o))] 0 []
  have L4 : ∀ (k : Nat) (i : Nat) (S : Nat), (i ≤ m 0) → (m 0 + 1 ≤ i + k) → (S = vBits (fun q => vFound m q o) i) → J (hallW g a m lt) [(0, .ref (a 0)), (1, .int (nI o)), (2, .int (nI S)), (3, .int (nI i))] 4 [] := by
    intro k
    induction k with
    | zero => intro i S hi hf hS; exfalso; omega
    | succ k ih =>
      intro i S hi hf hS
      refine k_iload_n hJ dX0_finders_4 3 rfl ?_
      refine k_aload_n hJ dX0_finders_5 0 rfl ?_
      refine gf_X0_21 hJ 0 rfl rfl dX0_finders_6 ?_
      refine n_icmp_ge (tgt := 38) hJ dX0_finders_9 (by decide) (by omega) (by omega) (fun c9 => ?_) (fun c9 => ?_)
      · refine k_iload_n hJ dX0_finders_38 2 rfl ?_
        exact hR _ _ _ () dX0_finders_39 (by rw [hS, show i = m 0 by omega]; rfl)
      · refine k_iload_n hJ dX0_finders_12 3 rfl ?_
        refine k_iload_n hJ dX0_finders_13 1 rfl ?_
        refine n_icmp_eq (tgt := 32) hJ dX0_finders_14 (by decide) (by omega) (by omega) (fun c14 => ?_) (fun c14 => ?_)
        · refine n_iinc (b := 1) (lv1 := [(0, .ref (a 0)), (1, .int (nI o)), (2, .int (nI S)), (3, .int (nI (i + 1)))]) hJ dX0_finders_32 3 rfl (by decide) (by decide) [1, 2, 3, 0] rfl ?_
          refine k_goto (tgt := 4) hJ dX0_finders_35 (by decide) ?_
          exact ih (i + 1) S (by omega) (by omega) (by rw [vBits, show vFound m i o = false by unfold vFound; rw [c14, beq_self_eq_true]; rfl, hS]; rfl)
        · refine k_aload_n hJ dX0_finders_17 0 rfl ?_
          refine k_iload_n hJ dX0_finders_18 3 rfl ?_
          refine k_iload_n hJ dX0_finders_19 1 rfl ?_
          refine c_VI (As := [.int (nI i), .int (nI o)]) (st := []) hJ (ct_X0_finds l g a m lt i o hB hm (by omega) (by omega)) (Fr.all rfl) mv_X0_finds ml_X0_85 0 rfl rfl rfl (kRm_ok (by decide) (by decide)) rfl rfl (Nat.le_of_ble_eq_true rfl) dX0_finders_20 ?_
          refine b_if_eq (tgt := 32) hJ dX0_finders_23 (by decide) (fun c23 => ?_) (fun c23 => ?_)
          · refine n_iinc (b := 1) (lv1 := [(0, .ref (a 0)), (1, .int (nI o)), (2, .int (nI S)), (3, .int (nI (i + 1)))]) hJ dX0_finders_32 3 rfl (by decide) (by decide) [1, 2, 3, 0] rfl ?_
            refine k_goto (tgt := 4) hJ dX0_finders_35 (by decide) ?_
            exact ih (i + 1) S (by omega) (by omega) (by rw [vBits, show vFound m i o = false by unfold vFound; rw [c23, Bool.and_false], hS]; rfl)
          · refine k_iload_n hJ dX0_finders_26 2 rfl ?_
            refine k_iconst (v := nI 1) hJ dX0_finders_27 (by decide) ?_
            refine k_iload_n hJ dX0_finders_28 3 rfl ?_
            refine n_ibit hJ dX0_finders_29 (by omega) ?_
            refine n_ior (c := S + 2 ^ i) hJ dX0_finders_30 (by rw [hS]; exact vBits_or _ _) ?_
            refine k_istore_n (lv1 := [(0, .ref (a 0)), (1, .int (nI o)), (2, .int (nI (S + 2 ^ i))), (3, .int (nI i))]) hJ dX0_finders_31 (by decide) [1, 2, 0, 3] rfl ?_
            refine n_iinc (b := 1) (lv1 := [(0, .ref (a 0)), (1, .int (nI o)), (2, .int (nI (S + 2 ^ i))), (3, .int (nI (i + 1)))]) hJ dX0_finders_32 3 rfl (by decide) (by decide) [1, 2, 3, 0] rfl ?_
            refine k_goto (tgt := 4) hJ dX0_finders_35 (by decide) ?_
            exact ih (i + 1) (S + 2 ^ i) (by omega) (by omega) (by rw [vBits, show vFound m i o = true by unfold vFound; rw [c23, beq_false_of_ne c14]; rfl, if_pos rfl, hS])
  refine k_iconst (v := nI 0) hJ dX0_finders_0 (by decide) ?_
  refine k_istore_n (lv1 := [(0, .ref (a 0)), (1, .int (nI o)), (2, .int (nI 0))]) hJ dX0_finders_1 (by decide) [1, 2, 0] rfl ?_
  refine k_iconst (v := nI 0) hJ dX0_finders_2 (by decide) ?_
  refine k_istore_n (lv1 := [(0, .ref (a 0)), (1, .int (nI o)), (2, .int (nI 0)), (3, .int (nI 0))]) hJ dX0_finders_3 (by decide) [1, 2, 3, 0] rfl ?_
  exact L4 (m 0 + 1) 0 0 (by omega) (by omega) rfl
set_option maxHeartbeats 4000000 in
set_option maxRecDepth 100000 in
theorem ct_X0_foundGuilty (l : Launch) (g : KG) (a m : Nat → Nat) (lt : Nat → Int32)  {B : Nat} (hB : B < 2 ^ 30) (hm : vOk B m) : CI l yX0_foundGuilty cX0_foundGuilty 3 (some .int) (rmK 5) g [.ref (a 0)] (hallW g a m lt) (nI (vGuiltyAll m)) (hallW g a m lt) := by
  refine k_bodyI (by decide) (Nat.le_of_ble_eq_true rfl) (fun _ _ _ => rfl) (fun J hJ hR => ?_)
  have h0 := hm.1
  show J (hallW g a m lt) [(0, .ref (a 0))] 0 []
  have L4 : ∀ (k : Nat) (i : Nat) (S : Nat), (i ≤ m 0) → (m 0 + 1 ≤ i + k) → (S = vBits (fun q => decide (vFinders m q ≠ 0)) i) → J (hallW g a m lt) [(0, .ref (a 0)), (1, .int (nI S)), (2, .int (nI i))] 4 [] := by
    intro k
    induction k with
    | zero => intro i S hi hf hS; exfalso; omega
    | succ k ih =>
      intro i S hi hf hS
      refine k_iload_n hJ dX0_foundGuilty_4 2 rfl ?_
      refine k_aload_n hJ dX0_foundGuilty_5 0 rfl ?_
      refine gf_X0_21 hJ 0 rfl rfl dX0_foundGuilty_6 ?_
      refine n_icmp_ge (tgt := 32) hJ dX0_foundGuilty_9 (by decide) (by omega) (by omega) (fun c9 => ?_) (fun c9 => ?_)
      · refine k_iload_n hJ dX0_foundGuilty_32 1 rfl ?_
        exact hR _ _ _ () dX0_foundGuilty_33 (by rw [hS, show i = m 0 by omega]; rfl)
      · refine k_aload_n hJ dX0_foundGuilty_12 0 rfl ?_
        refine k_iload_n hJ dX0_foundGuilty_13 2 rfl ?_
        refine c_VI (As := [.int (nI i)]) (st := []) hJ (ct_X0_finders l g a m lt i hB hm (by omega)) (Fr.all rfl) mv_X0_finders ml_X0_88 0 rfl rfl rfl (kRm_ok (by decide) (by decide)) rfl rfl (Nat.le_of_ble_eq_true rfl) dX0_foundGuilty_14 ?_
        refine n_if_eq (tgt := 26) hJ dX0_foundGuilty_17 (by decide) (by have := vBits_le8 (fun q => vFound m q i) h0; unfold vFinders; omega) (fun c17 => ?_) (fun c17 => ?_)
        · refine n_iinc (b := 1) (lv1 := [(0, .ref (a 0)), (1, .int (nI S)), (2, .int (nI (i + 1)))]) hJ dX0_foundGuilty_26 2 rfl (by decide) (by decide) [1, 2, 0] rfl ?_
          refine k_goto (tgt := 4) hJ dX0_foundGuilty_29 (by decide) ?_
          exact ih (i + 1) S (by omega) (by omega) (by rw [vBits, decide_eq_false (show ¬ vFinders m i ≠ 0 by omega), hS]; rfl)
        · refine k_iload_n hJ dX0_foundGuilty_20 1 rfl ?_
          refine k_iconst (v := nI 1) hJ dX0_foundGuilty_21 (by decide) ?_
          refine k_iload_n hJ dX0_foundGuilty_22 2 rfl ?_
          refine n_ibit hJ dX0_foundGuilty_23 (by omega) ?_
          refine n_ior (c := S + 2 ^ i) hJ dX0_foundGuilty_24 (by rw [hS]; exact vBits_or _ _) ?_
          refine k_istore_n (lv1 := [(0, .ref (a 0)), (1, .int (nI (S + 2 ^ i))), (2, .int (nI i))]) hJ dX0_foundGuilty_25 (by decide) [1, 0, 2] rfl ?_
          refine n_iinc (b := 1) (lv1 := [(0, .ref (a 0)), (1, .int (nI (S + 2 ^ i))), (2, .int (nI (i + 1)))]) hJ dX0_foundGuilty_26 2 rfl (by decide) (by decide) [1, 2, 0] rfl ?_
          refine k_goto (tgt := 4) hJ dX0_foundGuilty_29 (by decide) ?_
          exact ih (i + 1) (S + 2 ^ i) (by omega) (by omega) (by rw [vBits, decide_eq_true (show vFinders m i ≠ 0 by omega), if_pos rfl, hS])
  refine k_iconst (v := nI 0) hJ dX0_foundGuilty_0 (by decide) ?_
  refine k_istore_n (lv1 := [(0, .ref (a 0)), (1, .int (nI 0))]) hJ dX0_foundGuilty_1 (by decide) [1, 0] rfl ?_
  refine k_iconst (v := nI 0) hJ dX0_foundGuilty_2 (by decide) ?_
  refine k_istore_n (lv1 := [(0, .ref (a 0)), (1, .int (nI 0)), (2, .int (nI 0))]) hJ dX0_foundGuilty_3 (by decide) [1, 2, 0] rfl ?_
  exact L4 (m 0 + 1) 0 0 (by omega) (by omega) rfl
