theorem vIn_t {x : Int32} {n : Nat} (hn : n < 2 ^ 31) (h : vIn x n = true) : tN x < n := by
  obtain ⟨p, hp, rfl⟩ := vIn_of hn h
  rw [tN_nI (by omega)]
  exact hp
theorem vBt_t {x : Int32} {lo hi : Nat} (hl : lo < 2 ^ 31) (hh : hi < 2 ^ 31) (h : vBt x lo hi = true) : lo ≤ tN x ∧ tN x ≤ hi := by
  obtain ⟨p, h1, h2, rfl⟩ := vBt_of hl hh h
  rw [tN_nI (by omega)]
  exact ⟨h1, h2⟩
theorem ok_opt {s : KS} (hs : kOk s) (q : Option Nat) : kOk (sp_opt s q).2 := by
  cases q with
  | none => exact hs
  | some i => exact hs
theorem ok_fst {s : KS} (hs : kOk s) (i n c : Nat) : kOk (sp_fst s i n c).2 := by
  unfold sp_fst
  split <;> exact hs
theorem ok_m {m m2 k : Nat → Nat} {kf : Bool} {tp : Nat → Nat} {tl : Nat} {sb sz : Nat → Nat} {nu : Nat → Nat → Int64} {ct : Nat → Int32} (hs : kOk (m, k, kf, tp, tl, sb, sz, nu, ct)) (h : vOk 9999 m2) : kOk (m2, k, kf, tp, tl, sb, sz, nu, ct) := ⟨h, hs.2.1, hs.2.2.1, hs.2.2.2.1, hs.2.2.2.2⟩
theorem ok_of {s : KS} (hs : kOk s) (x y : Int32) : kOk (sp_of s x y).2 := by
  obtain ⟨m, k, kf, tp, tl, sb, sz, nu, ct⟩ := s
  have hm := hs.1
  have h0 : m 0 ≤ 8 := hm.1
  simp only [sp_of]
  (repeat' split) <;> exact hs
theorem ok_scent {s : KS} (hs : kOk s) (x y z : Int32) : kOk (sp_scent s x y z).2 := by
  obtain ⟨m, k, kf, tp, tl, sb, sz, nu, ct⟩ := s
  have hm := hs.1
  have h0 : m 0 ≤ 8 := hm.1
  simp only [sp_scent]
  (repeat' split) <;> exact hs
theorem ok_as {s : KS} (hs : kOk s) (x y : Int32) : kOk (sp_as s x y).2 := by
  obtain ⟨m, k, kf, tp, tl, sb, sz, nu, ct⟩ := s
  have hm := hs.1
  have h0 : m 0 ≤ 8 := hm.1
  simp only [sp_as]
  (repeat' split) <;> exact hs
theorem ok_smells {s : KS} (hs : kOk s) (x y z : Int32) : kOk (sp_smells s x y z).2 := by
  obtain ⟨m, k, kf, tp, tl, sb, sz, nu, ct⟩ := s
  have hm := hs.1
  have h0 : m 0 ≤ 8 := hm.1
  simp only [sp_smells]
  (repeat' split) <;> exact hs
theorem ok_guilty {s : KS} (hs : kOk s) (x : Int32) : kOk (sp_guilty s x).2 := by
  obtain ⟨m, k, kf, tp, tl, sb, sz, nu, ct⟩ := s
  have hm := hs.1
  have h0 : m 0 ≤ 8 := hm.1
  simp only [sp_guilty]
  (repeat' split) <;> exact hs
theorem ok_convicts {s : KS} (hs : kOk s) (x y : Int32) : kOk (sp_convicts s x y).2 := by
  obtain ⟨m, k, kf, tp, tl, sb, sz, nu, ct⟩ := s
  have hm := hs.1
  have h0 : m 0 ≤ 8 := hm.1
  simp only [sp_convicts]
  (repeat' split) <;> exact hs
theorem ok_now {s : KS} (hs : kOk s) (x : Int32) : kOk (sp_now s x).2 := by
  obtain ⟨m, k, kf, tp, tl, sb, sz, nu, ct⟩ := s
  have hm := hs.1
  have h0 : m 0 ≤ 8 := hm.1
  simp only [sp_now]
  (repeat' split) <;> exact hs
theorem ok_on {s : KS} (hs : kOk s) (x y z : Int32) : kOk (sp_on s x y z).2 := by
  obtain ⟨m, k, kf, tp, tl, sb, sz, nu, ct⟩ := s
  have hm := hs.1
  have h0 : m 0 ≤ 8 := hm.1
  simp only [sp_on]
  (repeat' split) <;> exact hs
theorem ok_wind {s : KS} (hs : kOk s) (x : Int32) : kOk (sp_wind s x).2 := by
  obtain ⟨m, k, kf, tp, tl, sb, sz, nu, ct⟩ := s
  have hm := hs.1
  have h0 : m 0 ≤ 8 := hm.1
  simp only [sp_wind]
  (repeat' split) <;> exact hs
theorem ok_seat {s : KS} (hs : kOk s) (x : Int32) : kOk (sp_seat s x).2 := by
  obtain ⟨m, k, kf, tp, tl, sb, sz, nu, ct⟩ := s
  have hm := hs.1
  have h0 : m 0 ≤ 8 := hm.1
  simp only [sp_seat]
  (repeat' split) <;> exact hs
theorem ok_kind {s : KS} (hs : kOk s) (x : Int32) : kOk (sp_kind s x).2 := by
  obtain ⟨m, k, kf, tp, tl, sb, sz, nu, ct⟩ := s
  have hm := hs.1
  have h0 : m 0 ≤ 8 := hm.1
  simp only [sp_kind]
  (repeat' split) <;> exact hs
theorem ok_juries {s : KS} (hs : kOk s) (x y : Int32) : kOk (sp_juries s x y).2 := by
  obtain ⟨m, k, kf, tp, tl, sb, sz, nu, ct⟩ := s
  have hm := hs.1
  have h0 : m 0 ≤ 8 := hm.1
  simp only [sp_juries]
  (repeat' split) <;> exact hs
theorem ok_count {s : KS} (hs : kOk s) (x : Int32) : kOk (sp_count s x).2 := by
  obtain ⟨m, k, kf, tp, tl, sb, sz, nu, ct⟩ := s
  have hm := hs.1
  have h0 : m 0 ≤ 8 := hm.1
  simp only [sp_count]
  (repeat' split) <;> exact hs
theorem ok_status {s : KS} (hs : kOk s) (x : Int32) : kOk (sp_status s x).2 := by
  obtain ⟨m, k, kf, tp, tl, sb, sz, nu, ct⟩ := s
  have hm := hs.1
  have h0 : m 0 ≤ 8 := hm.1
  simp only [sp_status]
  (repeat' split) <;> exact hs
theorem ok_deed {s : KS} (hs : kOk s) (x y : Int32) : kOk (sp_deed s x y).2 := by
  obtain ⟨m, k, kf, tp, tl, sb, sz, nu, ct⟩ := s
  have hm := hs.1
  have h0 : m 0 ≤ 8 := hm.1
  simp only [sp_deed]
  split
  · exact ok_opt hs _
  · exact hs
theorem ok_bath {s : KS} (hs : kOk s) (x : Int32) : kOk (sp_bath s x).2 := by
  obtain ⟨m, k, kf, tp, tl, sb, sz, nu, ct⟩ := s
  have hm := hs.1
  have h0 : m 0 ≤ 8 := hm.1
  simp only [sp_bath]
  split
  · exact ok_opt hs _
  · exact hs
theorem ok_jury {s : KS} (hs : kOk s) (x y : Int32) : kOk (sp_jury s x y).2 := by
  obtain ⟨m, k, kf, tp, tl, sb, sz, nu, ct⟩ := s
  have hm := hs.1
  have h0 : m 0 ≤ 8 := hm.1
  simp only [sp_jury]
  split
  · exact ok_opt hs _
  · exact hs
theorem ok_from {s : KS} (hs : kOk s) (x y : Int32) : kOk (sp_from s x y).2 := by
  obtain ⟨m, k, kf, tp, tl, sb, sz, nu, ct⟩ := s
  have hm := hs.1
  have h0 : m 0 ≤ 8 := hm.1
  simp only [sp_from]
  split
  · exact ok_opt hs _
  · exact hs
theorem ok_clean {s : KS} (hs : kOk s) (x : Int32) : kOk (sp_clean s x).2 := by
  obtain ⟨m, k, kf, tp, tl, sb, sz, nu, ct⟩ := s
  have hm := hs.1
  have h0 : m 0 ≤ 8 := hm.1
  simp only [sp_clean]
  split
  · exact ok_fst hs _ _ _
  · exact hs
theorem ok_due {s : KS} (hs : kOk s) (x : Int32) : kOk (sp_due s x).2 := by
  obtain ⟨m, k, kf, tp, tl, sb, sz, nu, ct⟩ := s
  have hm := hs.1
  have h0 : m 0 ≤ 8 := hm.1
  simp only [sp_due]
  split
  · exact ok_fst hs _ _ _
  · exact hs
theorem ok_nose {s : KS} (hs : kOk s) (x y : Int32) : kOk (sp_nose s x y).2 := by
  obtain ⟨m, k, kf, tp, tl, sb, sz, nu, ct⟩ := s
  have hm := hs.1
  have h0 : m 0 ≤ 8 := hm.1
  simp only [sp_nose]
  split
  · exact ok_fst hs _ _ _
  · exact hs
theorem ok_law {s : KS} (hs : kOk s) (x y : Int32) : kOk (sp_law s x y).2 := by
  obtain ⟨m, k, kf, tp, tl, sb, sz, nu, ct⟩ := s
  have hm := hs.1
  have h0 : m 0 ≤ 8 := hm.1
  simp only [sp_law]
  split
  · rename_i c
    exact ok_m hs (vOk_wind hm (by have := vIn_t (by decide) c.2; omega))
  · split
    · rename_i c
      have := vBt_t (by decide) (by decide) c.2
      exact ok_m hs (vOk_due hm this.1 this.2)
    · exact hs
theorem ok_set {s : KS} (hs : kOk s) (x y z : Int32) : kOk (sp_set s x y z).2 := by
  obtain ⟨m, k, kf, tp, tl, sb, sz, nu, ct⟩ := s
  have hm := hs.1
  have h0 : m 0 ≤ 8 := hm.1
  simp only [sp_set]
  split
  · rename_i c
    refine ok_m hs ?_
    rcases c.2 with c2 | c2 | c2
    · rw [c2.1]; exact vOk_pl hm _ (by have := vIn_t (by decide) c2.2; omega)
    · rw [c2.1]; exact vOk_ns hm _ (by have := vIn_t (by decide) c2.2; omega)
    · rw [c2.1]; exact vOk_cd hm _ (by have := vIn_t (by decide) c2.2; omega)
  · exact hs
theorem ok_did {s : KS} (hs : kOk s) (x y z : Int32) : kOk (sp_did s x y z).2 := by
  obtain ⟨m, k, kf, tp, tl, sb, sz, nu, ct⟩ := s
  have hm := hs.1
  have h0 : m 0 ≤ 8 := hm.1
  simp only [sp_did]
  split
  · rename_i c
    exact ok_m hs (vOk_sc hm _ _ (vIn_t (by decide) c.2.1) (by have := vIn_t (by decide) c.2.2; omega))
  · exact hs
theorem ok_turn {s : KS} (hs : kOk s) (x y : Int32) : kOk (sp_turn s x y).2 := by
  obtain ⟨m, k, kf, tp, tl, sb, sz, nu, ct⟩ := s
  have hm := hs.1
  have h0 : m 0 ≤ 8 := hm.1
  simp only [sp_turn]
  split
  · rename_i c
    exact ok_m hs (vOk_kd hm _ (by have := vIn_t (by decide) c.2; omega))
  · exact hs
theorem ok_wash {s : KS} (hs : kOk s) (x : Int32) : kOk (sp_wash s x).2 := by
  obtain ⟨m, k, kf, tp, tl, sb, sz, nu, ct⟩ := s
  have hm := hs.1
  have h0 : m 0 ≤ 8 := hm.1
  simp only [sp_wash]
  split
  · rename_i c
    exact ok_m hs (vOk_wash hm (by have := vIn_t (by omega) c; omega))
  · exact hs
theorem ok_wipe {s : KS} (hs : kOk s) : kOk (sp_wipe s).2 := by
  obtain ⟨m, k, kf, tp, tl, sb, sz, nu, ct⟩ := s
  have hm := hs.1
  have h0 : m 0 ≤ 8 := hm.1
  exact ⟨hs.1, hs.2.1, Nat.zero_le _, hs.2.2.2.1, hs.2.2.2.2⟩
theorem ok_image {s : KS} (hs : kOk s) : kOk (sp_image s).2 := by
  obtain ⟨m, k, kf, tp, tl, sb, sz, nu, ct⟩ := s
  have hm := hs.1
  have h0 : m 0 ≤ 8 := hm.1
  exact ⟨hs.1, fun _ => hs.1, hs.2.2.1, hs.2.2.2.1, hs.2.2.2.2⟩
theorem ok_undo {s : KS} (hs : kOk s) : kOk (sp_undo s).2 := by
  obtain ⟨m, k, kf, tp, tl, sb, sz, nu, ct⟩ := s
  have hm := hs.1
  have h0 : m 0 ≤ 8 := hm.1
  simp only [sp_undo]
  split
  · rename_i c
    exact ok_m hs (hs.2.1 c)
  · exact hs
theorem ok_tear {s : KS} (hs : kOk s) : kOk (sp_tear s).2 := by
  obtain ⟨m, k, kf, tp, tl, sb, sz, nu, ct⟩ := s
  have hm := hs.1
  have h0 : m 0 ≤ 8 := hm.1
  exact ⟨hs.1, fun h => (by cases h), hs.2.2.1, hs.2.2.2.1, hs.2.2.2.2⟩
