theorem vMt_n {m : Nat → Nat} {p q : Nat} {j : Nat} (h : ¬ (4 ≤ j ∧ 4 ≤ (j - 4) % 10)) : vMt m p q 6 j = m j := by
  unfold vMt
  rw [if_neg (by omega), if_neg (by omega)]
theorem vOk_mt {B : Nat} {m : Nat → Nat} (h : vOk B m) {p q : Nat} (hp : p < 8) (hq : q < 8) : vOk B (vMt m p q 6) := by
  obtain ⟨a0, a1, a2, a3, a4, a5⟩ := h
  refine ⟨by rw [vMt_n (by omega)]; exact a0, by rw [vMt_n (by omega)]; exact a1, by rw [vMt_n (by omega)]; exact a2, by rw [vMt_n (by omega)]; exact a3, by rw [vMt_n (by omega)]; exact a4, fun x hx => ?_⟩
  obtain ⟨b0, b1, b2, b3, b4⟩ := a5 x hx
  refine ⟨?_, ?_, ?_, ?_, fun d hd => ?_⟩
  · show vMt m p q 6 (4 + 10 * x + 0) ≤ 5; rw [vMt_n (by omega)]; exact b0
  · show vMt m p q 6 (4 + 10 * x + 1) ≤ 47; rw [vMt_n (by omega)]; exact b1
  · show vMt m p q 6 (4 + 10 * x + 2) ≤ 9; rw [vMt_n (by omega)]; exact b2
  · show vMt m p q 6 (4 + 10 * x + 3) ≤ 1; rw [vMt_n (by omega)]; exact b3
  · show vMt m p q 6 (4 + 10 * x + (4 + d)) ≤ 99
    have c0 : m (4 + 10 * x + (4 + d)) ≤ 99 := b4 d hd
    have c1 : m (4 + 10 * p + (4 + d)) ≤ 99 := (a5 p hp).2.2.2.2 d hd
    have c2 : m (4 + 10 * q + (4 + d)) ≤ 99 := (a5 q hq).2.2.2.2 d hd
    unfold vMt
    split
    · rw [show 4 + 10 * x + (4 + d) - 10 * p + 10 * q = 4 + 10 * q + (4 + d) by omega]; omega
    · split
      · rw [show 4 + 10 * x + (4 + d) - 10 * q + 10 * p = 4 + 10 * p + (4 + d) by omega]; omega
      · exact c0
section HO
variable {B : Nat} {tp : Nat → Nat} {tl : Nat}
theorem ok_hNo {m : Nat → Nat} (h : vOk B m) (p q : Nat) : vOk B (hNo tp tl p q m).2.2 := by
  unfold hNo
  split
  · split
    · rename_i c; exact vOk_ns h p (hNum_v c).2
    · exact h
  · exact h
theorem ok_hCo {m : Nat → Nat} (h : vOk B m) (p q : Nat) : vOk B (hCo tp tl p q m).2 := by
  unfold hCo
  split
  · exact vOk_cd h p (Nat.le_refl 1)
  · exact h
theorem ok_hDi {m : Nat → Nat} (h : vOk B m) (p q : Nat) : vOk B (hDi tp tl p q m).2.2 := by
  unfold hDi
  split
  · split
    · rename_i c
      split
      · rename_i c2; exact vOk_sc h p _ (by have := (hNum_v c).2; omega) (hNum_v c2).2
      · exact h
    · exact h
  · exact h
theorem ok_hP2 {m : Nat → Nat} (h : vOk B m) (p q : Nat) : vOk B (hP2 tp tl p q m).2.2 := by
  unfold hP2
  split
  · exact ok_hDi (ok_hCo (ok_hNo h p q) p _) p _
  · exact ok_hNo h p q
theorem ok_hPe {m : Nat → Nat} (h : vOk B m) {kd : Nat} (hk : kd < 6) (q : Nat) : vOk B (hPe tp tl kd q m).2.2 := by
  unfold hPe
  split
  · rename_i c8
    split
    · split
      · rename_i c; exact ok_hP2 (vOk_join h c8 (by omega) (hNum_v c).2) _ _
      · exact h
    · exact h
  · exact h
theorem ok_hIt {m : Nat → Nat} (h : vOk B m) (q : Nat) : vOk B (hIt tp tl q m).2.2 := by
  unfold hIt
  cases e : hKd tp tl q with
  | some kd => exact ok_hPe h (hKd_at e).2 q
  | none =>
    simp only []
    split
    · split
      · rename_i c; exact vOk_wind h (hNum_v c).2
      · exact h
    · split
      · split
        · rename_i c; exact vOk_due h (hNum_v c).1 (hNum_v c).2
        · exact h
      · exact h
theorem ok_hAl : ∀ (k n q : Nat) {m : Nat → Nat}, vOk B m → vOk B (hAl tp tl k n q m).2.2.2 := by
  intro k
  induction k with
  | zero => intro n q m h; exact h
  | succ k ih =>
    intro n q m h
    rw [hAl]
    split
    · split
      · split
        · exact ih _ _ (ok_hIt h q)
        · exact h
      · exact ok_hIt h q
    · exact h
end HO
theorem ok_meet {s : KS} (hs : kOk s) (x y : Int32) : kOk (sp_meet s x y).2 := by
  obtain ⟨m, k, kf, tp, tl, sb, sz, nu, ct⟩ := s
  have hm := hs.1
  have h0 : m 0 ≤ 8 := hm.1
  simp only [sp_meet]
  split
  · rename_i c
    obtain ⟨p, q, hp, hq, hn, rfl, rfl⟩ := vTwo_of (by omega) c
    rw [tN_nI (by omega), tN_nI (by omega)]
    exact ok_m hs (vOk_mt hm (by omega) (by omega))
  · exact hs
theorem ok_hall {s : KS} (hs : kOk s) : kOk (sp_hall s).2 := by
  obtain ⟨m, k, kf, tp, tl, sb, sz, nu, ct⟩ := s
  have hm := hs.1
  have h0 : m 0 ≤ 8 := hm.1
  simp only [sp_hall]
  split
  · exact ⟨ok_hAl _ _ _ hm, hs.2.1, Nat.zero_le _, hs.2.2.2.1, hs.2.2.2.2⟩
  · exact ⟨hs.1, hs.2.1, Nat.zero_le _, hs.2.2.2.1, hs.2.2.2.2⟩
theorem ok_sheet {s : KS} (hs : kOk s) (x y z : Int32) : kOk (sp_sheet s x y z).2 := by
  obtain ⟨m, k, kf, tp, tl, sb, sz, nu, ct⟩ := s
  have hm := hs.1
  have h0 : m 0 ≤ 8 := hm.1
  simp only [sp_sheet]
  split
  · rename_i c
    split
    · exact hs
    · split
      · exact hs
      · rename_i c1 c2
        refine ⟨hs.1, hs.2.1, hs.2.2.1, hs.2.2.2.1, fun q hq => ?_⟩
        have hq0 := hs.2.2.2.2 q hq
        have hy : tN y = 0 ∨ tN y = 8 ∨ tN y = 16 ∨ tN y = 64 := by
          rcases c.2 with e | e | e | e <;> rw [e] <;> decide
        have hz : tN z ≤ 40 := by
          obtain ⟨j, hj, rfl⟩ := nI_of c1
          rw [tN_nI hj]
          exact Nat.not_lt.mp (fun r => c2 (nI_lt (a := 40) r hj))
        constructor
        · show (vUp sb (tN x) (tN y) q = 0 ∨ _)
          by_cases e : q = tN x
          · rw [vUp_eq e]; exact hy
          · rw [vUp_ne e]; exact hq0.1
        · show vUp sz (tN x) (if y = 0 then 0 else tN z) q ≤ 40
          by_cases e : q = tN x
          · rw [vUp_eq e]; split <;> omega
          · rw [vUp_ne e]; exact hq0.2
  · exact hs
