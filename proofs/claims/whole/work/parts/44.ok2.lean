theorem vOk_join {B : Nat} {m : Nat → Nat} (h : vOk B m) (h8 : m 0 < 8) {kd pl : Nat} (hk : kd ≤ 5) (hl : pl ≤ 47) : vOk B (vJoin m kd pl) := by
  obtain ⟨a0, a1, a2, a3, a4, a5⟩ := h
  have e : ∀ p, p < 8 → ∀ c, c < 10 → vJoin m kd pl (4 + 10 * p + c) = if p = m 0 then (if c = 0 then kd else if c = 1 then pl else if c = 2 then 5 else 0) else m (4 + 10 * p + c) := by
    intro p hp c hc
    unfold vJoin
    (repeat' split) <;> first | rfl | omega
  refine ⟨by show m 0 + 1 ≤ 8; omega, ?_, ?_, ?_, ?_, fun p hp => ?_⟩
  · unfold vJoin; rw [if_neg (by omega), if_neg (by omega)]; exact a1
  · unfold vJoin; rw [if_neg (by omega), if_neg (by omega)]; exact a2
  · unfold vJoin; rw [if_neg (by omega), if_neg (by omega)]; exact a3
  · unfold vJoin; rw [if_neg (by omega), if_neg (by omega)]; exact a4
  · obtain ⟨b0, b1, b2, b3, b4⟩ := a5 p hp
    refine ⟨?_, ?_, ?_, ?_, fun d hd => ?_⟩
    · show vJoin m kd pl (4 + 10 * p + 0) ≤ 5
      rw [e p hp 0 (by omega)]
      split
      · rw [if_pos rfl]; exact hk
      · exact b0
    · show vJoin m kd pl (4 + 10 * p + 1) ≤ 47
      rw [e p hp 1 (by omega)]
      split
      · rw [if_neg (by omega), if_pos rfl]; exact hl
      · exact b1
    · show vJoin m kd pl (4 + 10 * p + 2) ≤ 9
      rw [e p hp 2 (by omega)]
      split
      · rw [if_neg (by omega), if_neg (by omega), if_pos rfl]; omega
      · exact b2
    · show vJoin m kd pl (4 + 10 * p + 3) ≤ 1
      rw [e p hp 3 (by omega)]
      split
      · rw [if_neg (by omega), if_neg (by omega), if_neg (by omega)]; omega
      · exact b3
    · show vJoin m kd pl (4 + 10 * p + (4 + d)) ≤ 99
      rw [e p hp (4 + d) (by omega)]
      split
      · rw [if_neg (by omega), if_neg (by omega), if_neg (by omega)]; omega
      · exact b4 d hd
theorem vHour_1 (m : Nat → Nat) : vHour m 1 = m 1 + 1 := by
  unfold vHour
  rw [vUp_eq rfl]
theorem vIter_1 (m : Nat → Nat) : ∀ n, (vIter vHour n m) 1 = m 1 + n
  | 0 => rfl
  | n + 1 => by
    show vHour (vIter vHour n m) 1 = _
    rw [vHour_1, vIter_1 m n]
    omega
theorem vOk_ly {B : Nat} {m : Nat → Nat} (h : vOk B m) (f : Nat → Int64) : ∀ n, vOk B (vLy m f n).1
  | 0 => h
  | n + 1 => by
    unfold vLy
    split
    · rename_i c
      exact vOk_pl (vOk_ly h f n) n (vInL_47 c).2
    · exact vOk_ly h f n
theorem ok_person {s : KS} (hs : kOk s) (x y : Int32) : kOk (sp_person s x y).2 := by
  obtain ⟨m, k, kf, tp, tl, sb, sz, nu, ct⟩ := s
  have hm := hs.1
  have h0 : m 0 ≤ 8 := hm.1
  simp only [sp_person]
  split
  · rename_i c
    split
    · exact hs
    · exact ok_m hs (vOk_join hm (by omega) (by have := vIn_t (by decide) c.1; omega) (by have := vIn_t (by decide) c.2; omega))
  · exact hs
theorem ok_hours {s : KS} (hs : kOk s) (x : Int32) : kOk (sp_hours s x).2 := by
  obtain ⟨m, k, kf, tp, tl, sb, sz, nu, ct⟩ := s
  have hm := hs.1
  have h0 : m 0 ≤ 8 := hm.1
  simp only [sp_hours]
  split
  · split
    · exact hs
    · rename_i c
      have q := vOk_iter hm (tN x)
      exact ok_m hs ⟨q.1, by rw [vIter_1]; omega, q.2.2⟩
  · exact hs
theorem ok_lays {s : KS} (hs : kOk s) (x : Int32) : kOk (sp_lays s x).2 := by
  obtain ⟨m, k, kf, tp, tl, sb, sz, nu, ct⟩ := s
  have hm := hs.1
  have h0 : m 0 ≤ 8 := hm.1
  simp only [sp_lays]
  split
  · exact hs
  · exact ok_m hs (vOk_ly hm _ _)
theorem ok_book {s : KS} (hs : kOk s) (x y z u : Int32) : kOk (sp_book s x y z u).2 := by
  obtain ⟨m, k, kf, tp, tl, sb, sz, nu, ct⟩ := s
  have hm := hs.1
  have h0 : m 0 ≤ 8 := hm.1
  simp only [sp_book]
  split <;> exact hs
theorem ok_read {s : KS} (hs : kOk s) (x y z u : Int32) : kOk (sp_read s x y z u).2 := by
  obtain ⟨m, k, kf, tp, tl, sb, sz, nu, ct⟩ := s
  have hm := hs.1
  have h0 : m 0 ≤ 8 := hm.1
  simp only [sp_read]
  split <;> exact hs
theorem ok_copy {s : KS} (hs : kOk s) (x y z u v : Int32) : kOk (sp_copy s x y z u v).2 := by
  obtain ⟨m, k, kf, tp, tl, sb, sz, nu, ct⟩ := s
  have hm := hs.1
  have h0 : m 0 ≤ 8 := hm.1
  simp only [sp_copy]
  (repeat' split) <;> exact hs
theorem ok_write {s : KS} (hs : kOk s) (x y : Int32) (z : Int64) : kOk (sp_write s x y z).2 := by
  obtain ⟨m, k, kf, tp, tl, sb, sz, nu, ct⟩ := s
  simp only [sp_write]
  (repeat' split) <;> exact hs
theorem ok_feed {s : KS} (hs : kOk s) (x y : Int32) : kOk (sp_feed s x y).2 := by
  obtain ⟨m, k, kf, tp, tl, sb, sz, nu, ct⟩ := s
  have hm := hs.1
  have h0 : m 0 ≤ 8 := hm.1
  simp only [sp_feed]
  split
  · split
    · exact hs
    · refine ⟨hs.1, hs.2.1, by omega, fun i => ?_, hs.2.2.2.2⟩
      unfold vFeed
      split
      · exact (and255 _).2
      · exact hs.2.2.2.1 i
  · exact hs
