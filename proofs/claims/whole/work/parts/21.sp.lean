/-- what both keep: the hall, the kept one, whether one is kept, the tape and its length, the sheets' bits, sizes and numbers, how many findings were told -/
abbrev KS : Type := (Nat → Nat) × (Nat → Nat) × Bool × (Nat → Nat) × Nat × (Nat → Nat) × (Nat → Nat) × (Nat → Nat → Int64) × (Nat → Int32)
abbrev tN (x : Int32) : Nat := x.toNatClampNeg
def vBt (x : Int32) (lo hi : Nat) : Bool := if x < nI lo then false else if nI hi < x then false else true
theorem vBt_of {x : Int32} {lo hi : Nat} (hl : lo < 2 ^ 31) (hh : hi < 2 ^ 31) (h : vBt x lo hi = true) : ∃ p, lo ≤ p ∧ p ≤ hi ∧ x = nI p := by
  unfold vBt at h
  by_cases h0 : x < nI lo
  · rw [if_pos h0] at h; cases h
  · rw [if_neg h0] at h
    by_cases h1 : nI hi < x
    · rw [if_pos h1] at h; cases h
    · have hn : ¬ x < 0 := fun q => h0 (Int32.lt_of_lt_of_le q (nI_pos' hl))
      obtain ⟨j, hj, rfl⟩ := nI_of hn
      refine ⟨j, Nat.not_lt.mp (fun q => h0 (nI_lt q hl)), Nat.not_lt.mp (fun q => h1 (nI_lt q hj)), rfl⟩
theorem vBt_in (x : Int32) {hi : Nat} (hh : hi + 1 < 2 ^ 31) : vBt x 0 hi = vIn x (hi + 1) := by
  unfold vBt vIn
  rw [nI_0]
  by_cases h : x < 0
  · rw [if_pos h, if_pos h]
  · rw [if_neg h, if_neg h]
    obtain ⟨j, hj, rfl⟩ := nI_of h
    by_cases h2 : hi + 1 ≤ j
    · rw [if_pos (nI_lt (by omega) hj), if_pos (nI_le h2 hj)]
    · rw [if_neg (nI_nlt (by omega) (by omega)), if_neg (nI_ge (by omega) hh)]
theorem vInL_bt (x lo hi : Int32) (a b : Nat) (hl : lo = nI a) (hh : hi = nI b) : vInL x.toInt64 lo.toInt64 hi.toInt64 = vBt x a b := by
  unfold vInL vBt
  simp only [w_lt]
  rw [hl, hh]
theorem kFi_c0 : (-1000000001 : Int32) = kFi 0 := by decide
theorem kFi_c1 : (-1000000002 : Int32) = kFi 1 := by decide
theorem kFi_c2 : (-1000000003 : Int32) = kFi 2 := by decide
theorem kFi_c3 : (-1000000004 : Int32) = kFi 3 := by decide
theorem kFi_c4 : (-1000000005 : Int32) = kFi 4 := by decide
theorem kFi_c5 : (-1000000006 : Int32) = kFi 5 := by decide
theorem kFi_c6 : (-1000000007 : Int32) = kFi 6 := by decide
/-- what holds of it between calls -/
def kOk : KS → Prop := fun (m, k, kf, tp, tl, sb, sz, nu, ct) => vOk 9999 m ∧ (kf = true → vOk 9999 k) ∧ tl ≤ 120 ∧ (∀ i, tp i < 256) ∧ ∀ s, s < 4 → (sb s = 0 ∨ sb s = 8 ∨ sb s = 16 ∨ sb s = 64) ∧ sz s ≤ 40
def sp_tell : KS → Nat → Int32 × KS := fun (m, k, kf, tp, tl, sb, sz, nu, ct) i => (kFi i, (m, k, kf, tp, tl, sb, sz, nu, kTe ct i))
/-- the least i below n with f, or n -/
def vFst (f : Nat → Bool) : Nat → Nat
  | 0 => 0
  | n + 1 => if vFst f n < n then vFst f n else if f n then n else n + 1
theorem vFst_le (f : Nat → Bool) : ∀ n, vFst f n ≤ n
  | 0 => Nat.le_refl 0
  | n + 1 => by
    have := vFst_le f n
    unfold vFst
    split
    · omega
    · split <;> omega
theorem vFst_none {f : Nat → Bool} : ∀ {n : Nat}, (∀ i, i < n → f i = false) → vFst f n = n
  | 0, _ => rfl
  | n + 1, h => by
    rw [vFst, vFst_none (fun i hi => h i (by omega)), if_neg (by omega), h n (by omega)]
    rfl
theorem vFst_at {f : Nat → Bool} {i : Nat} (h : ∀ j, j < i → f j = false) (hi : f i = true) : ∀ {n : Nat}, i < n → vFst f n = i
  | 0, q => absurd q (Nat.not_lt_zero i)
  | n + 1, q => by
    rcases Nat.lt_or_ge i n with c | c
    · rw [vFst, vFst_at h hi c, if_pos c]
    · have e : i = n := by omega
      subst e
      rw [vFst, vFst_none h, if_neg (by omega), hi]
      rfl
def vMt (m : Nat → Nat) (p o k : Nat) : Nat → Nat := fun j => if 4 + 10 * p + 4 ≤ j ∧ j < 4 + 10 * p + 4 + k then max (m j) (max (m j) (m (j - 10 * p + 10 * o)) / 2) else if 4 + 10 * o + 4 ≤ j ∧ j < 4 + 10 * o + 4 + k then max (m j) (max (m j) (m (j - 10 * o + 10 * p)) / 2) else m j
def vMtN (m : Nat → Nat) (p o : Nat) : Nat := vSum (fun d => (if vSc m p d < max (vSc m p d) (vSc m o d) / 2 then 1 else 0) + (if vSc m o d < max (vSc m p d) (vSc m o d) / 2 then 1 else 0)) 6
/-- the deed smelt most, and how much, of the first n -/
def vDe (m : Nat → Nat) (p o : Nat) : Nat → Option Nat × Nat
  | 0 => (none, 0)
  | n + 1 => if (vDe m p o n).2 < vSmell m p o n then (some n, vSmell m p o n) else vDe m p o n
def vBa (m : Nat → Nat) (p : Nat) : Nat → Option Nat × Nat
  | 0 => (none, vPop (vFinders (vHour m) p))
  | n + 1 => if vPop (vFinders (vHour (vWash m n 6)) p) < (vBa m p n).2 then (some n, vPop (vFinders (vHour (vWash m n 6)) p)) else vBa m p n
def sp_opt (s : KS) (o : Option Nat) : Int32 × KS := match o with
  | none => sp_tell s 3
  | some i => (nI i, s)
def sp_fst (s : KS) (i n c : Nat) : Int32 × KS := if i < n then (nI (i + c), s) else sp_tell s 3
def vNar (bits : Nat) (v : Int64) : Int64 := if bits = 8 then v.toInt32.toInt8.toInt32.toInt64 else if bits = 16 then v.toInt32.toInt16.toInt32.toInt64 else v

def sp_law : KS → Int32 → Int32 → Int32 × KS := fun (m, k, kf, tp, tl, sb, sz, nu, ct) x y => if x = 0 ∧ vIn y 5 = true then (nI (m 2), (vUp m 2 (tN y), k, kf, tp, tl, sb, sz, nu, ct)) else if x = 1 ∧ vBt y 1 99 = true then (nI (m 3), (vUp m 3 (tN y), k, kf, tp, tl, sb, sz, nu, ct)) else sp_tell (m, k, kf, tp, tl, sb, sz, nu, ct) 0
def sp_person : KS → Int32 → Int32 → Int32 × KS := fun (m, k, kf, tp, tl, sb, sz, nu, ct) x y => if vIn x 6 = true ∧ vIn y 48 = true then (if m 0 = 8 then sp_tell (m, k, kf, tp, tl, sb, sz, nu, ct) 1 else (nI (m 0), (vJoin m (tN x) (tN y), k, kf, tp, tl, sb, sz, nu, ct))) else sp_tell (m, k, kf, tp, tl, sb, sz, nu, ct) 0
def sp_of : KS → Int32 → Int32 → Int32 × KS := fun (m, k, kf, tp, tl, sb, sz, nu, ct) x y => if vIn x (m 0) = true ∧ vIn y 6 = true then (if tN y < 4 then nI (m (4 + 10 * tN x + tN y)) else if tN y = 4 then nI (vScents m (tN x)) else nI (vGivesAll m (tN x)), (m, k, kf, tp, tl, sb, sz, nu, ct)) else sp_tell (m, k, kf, tp, tl, sb, sz, nu, ct) 0
def sp_set : KS → Int32 → Int32 → Int32 → Int32 × KS := fun (m, k, kf, tp, tl, sb, sz, nu, ct) x y z => if vIn x (m 0) = true ∧ ((y = 1 ∧ vIn z 48 = true) ∨ (y = 2 ∧ vIn z 10 = true) ∨ (y = 3 ∧ vIn z 2 = true)) then (nI (m (4 + 10 * tN x + tN y)), (vUp m (4 + 10 * tN x + tN y) (tN z), k, kf, tp, tl, sb, sz, nu, ct)) else sp_tell (m, k, kf, tp, tl, sb, sz, nu, ct) 0
def sp_did : KS → Int32 → Int32 → Int32 → Int32 × KS := fun (m, k, kf, tp, tl, sb, sz, nu, ct) x y z => if vIn x (m 0) = true ∧ vIn y 6 = true ∧ vIn z 100 = true then (nI (m (4 + 10 * tN x + (4 + tN y))), (vUp m (4 + 10 * tN x + (4 + tN y)) (tN z), k, kf, tp, tl, sb, sz, nu, ct)) else sp_tell (m, k, kf, tp, tl, sb, sz, nu, ct) 0
def sp_scent : KS → Int32 → Int32 → Int32 → Int32 × KS := fun (m, k, kf, tp, tl, sb, sz, nu, ct) x y z => if vIn x (m 0) = true ∧ vIn y 6 = true ∧ vIn z 2 = true then (if tN z = 0 then nI (m (4 + 10 * tN x + (4 + tN y))) else nI (vGives m (tN x) (tN y)), (m, k, kf, tp, tl, sb, sz, nu, ct)) else sp_tell (m, k, kf, tp, tl, sb, sz, nu, ct) 0
def sp_turn : KS → Int32 → Int32 → Int32 × KS := fun (m, k, kf, tp, tl, sb, sz, nu, ct) x y => if vIn x (m 0) = true ∧ vIn y 6 = true then (nI (m (4 + 10 * tN x + 0)), (vUp m (4 + 10 * tN x + 0) (tN y), k, kf, tp, tl, sb, sz, nu, ct)) else sp_tell (m, k, kf, tp, tl, sb, sz, nu, ct) 0
def sp_as : KS → Int32 → Int32 → Int32 × KS := fun (m, k, kf, tp, tl, sb, sz, nu, ct) x y => if vIn x (m 0) = true ∧ vIn y 6 = true then (if vUnder (m (4 + 10 * tN x + 0)) (tN y) = true then (nI (m (4 + 10 * tN x + 2)), (m, k, kf, tp, tl, sb, sz, nu, ct)) else sp_tell (m, k, kf, tp, tl, sb, sz, nu, ct) 2) else sp_tell (m, k, kf, tp, tl, sb, sz, nu, ct) 0
def sp_wash : KS → Int32 → Int32 × KS := fun (m, k, kf, tp, tl, sb, sz, nu, ct) x => if vIn x (m 0) = true then (nI (vWashed m (tN x)), (vWash m (tN x) 6, k, kf, tp, tl, sb, sz, nu, ct)) else sp_tell (m, k, kf, tp, tl, sb, sz, nu, ct) 0
def sp_meet : KS → Int32 → Int32 → Int32 × KS := fun (m, k, kf, tp, tl, sb, sz, nu, ct) x y => if vTwo x y (m 0) = true then (nI (vMtN m (tN x) (tN y)), (vMt m (tN x) (tN y) 6, k, kf, tp, tl, sb, sz, nu, ct)) else sp_tell (m, k, kf, tp, tl, sb, sz, nu, ct) 0
def sp_smells : KS → Int32 → Int32 → Int32 → Int32 × KS := fun (m, k, kf, tp, tl, sb, sz, nu, ct) x y z => if vTwo x y (m 0) = true ∧ vIn z 6 = true then (nI (vSmell m (tN x) (tN y) (tN z)), (m, k, kf, tp, tl, sb, sz, nu, ct)) else sp_tell (m, k, kf, tp, tl, sb, sz, nu, ct) 0
def sp_deed : KS → Int32 → Int32 → Int32 × KS := fun (m, k, kf, tp, tl, sb, sz, nu, ct) x y => if vTwo x y (m 0) = true then sp_opt (m, k, kf, tp, tl, sb, sz, nu, ct) (vDe m (tN x) (tN y) 6).1 else sp_tell (m, k, kf, tp, tl, sb, sz, nu, ct) 0
def sp_guilty : KS → Int32 → Int32 × KS := fun (m, k, kf, tp, tl, sb, sz, nu, ct) x => if vIn x (m 0) = true then (nI (vFinders m (tN x)), (m, k, kf, tp, tl, sb, sz, nu, ct)) else sp_tell (m, k, kf, tp, tl, sb, sz, nu, ct) 0
def sp_convicts : KS → Int32 → Int32 → Int32 × KS := fun (m, k, kf, tp, tl, sb, sz, nu, ct) x y => if vBt x 1 (2 ^ m 0 - 1) = true ∧ vIn y (m 0) = true then (if tN x / 2 ^ tN y % 2 = 1 then sp_tell (m, k, kf, tp, tl, sb, sz, nu, ct) 4 else (kb (vConv (tN x) (vFinders m (tN y))), (m, k, kf, tp, tl, sb, sz, nu, ct))) else sp_tell (m, k, kf, tp, tl, sb, sz, nu, ct) 0
def sp_hours : KS → Int32 → Int32 × KS := fun (m, k, kf, tp, tl, sb, sz, nu, ct) x => if vBt x 1 60 = true then (if 9999 < m 1 + tN x then sp_tell (m, k, kf, tp, tl, sb, sz, nu, ct) 4 else (nI (vScentsAll (vIter vHour (tN x) m)), (vIter vHour (tN x) m, k, kf, tp, tl, sb, sz, nu, ct))) else sp_tell (m, k, kf, tp, tl, sb, sz, nu, ct) 0
def sp_now : KS → Int32 → Int32 × KS := fun (m, k, kf, tp, tl, sb, sz, nu, ct) x => if x = 0 then (nI (m 1), (m, k, kf, tp, tl, sb, sz, nu, ct)) else if x = 1 then (nI (m 2), (m, k, kf, tp, tl, sb, sz, nu, ct)) else if x = 2 then (nI (m 3), (m, k, kf, tp, tl, sb, sz, nu, ct)) else if x = 3 then (nI (vScentsAll m), (m, k, kf, tp, tl, sb, sz, nu, ct)) else if x = 4 then (nI (vGuiltyAll m), (m, k, kf, tp, tl, sb, sz, nu, ct)) else sp_tell (m, k, kf, tp, tl, sb, sz, nu, ct) 0
def sp_on : KS → Int32 → Int32 → Int32 → Int32 × KS := fun (m, k, kf, tp, tl, sb, sz, nu, ct) x y z => if vIn x (m 0) = true ∧ vIn y 6 = true ∧ vIn z 61 = true then (nI ((vIter vHour (tN z) m) (4 + 10 * tN x + (4 + tN y))), (m, k, kf, tp, tl, sb, sz, nu, ct)) else sp_tell (m, k, kf, tp, tl, sb, sz, nu, ct) 0
def sp_clean : KS → Int32 → Int32 × KS := fun (m, k, kf, tp, tl, sb, sz, nu, ct) x => if vIn x (m 0) = true then sp_fst (m, k, kf, tp, tl, sb, sz, nu, ct) (vFst (fun n => vFinders (vIter vHour n m) (tN x) == 0) 61) 61 0 else sp_tell (m, k, kf, tp, tl, sb, sz, nu, ct) 0
def sp_wind : KS → Int32 → Int32 × KS := fun (m, k, kf, tp, tl, sb, sz, nu, ct) x => if vIn x (m 0) = true then (nI (vLst m 2 (tN x) 5).1, (m, k, kf, tp, tl, sb, sz, nu, ct)) else sp_tell (m, k, kf, tp, tl, sb, sz, nu, ct) 0
def sp_seat : KS → Int32 → Int32 × KS := fun (m, k, kf, tp, tl, sb, sz, nu, ct) x => if vIn x (m 0) = true then (nI (vLst m (4 + 10 * tN x + 1) (tN x) 48).1, (m, k, kf, tp, tl, sb, sz, nu, ct)) else sp_tell (m, k, kf, tp, tl, sb, sz, nu, ct) 0
def sp_bath : KS → Int32 → Int32 × KS := fun (m, k, kf, tp, tl, sb, sz, nu, ct) x => if vIn x (m 0) = true then sp_opt (m, k, kf, tp, tl, sb, sz, nu, ct) (vBa m (tN x) (m 0)).1 else sp_tell (m, k, kf, tp, tl, sb, sz, nu, ct) 0
def sp_kind : KS → Int32 → Int32 × KS := fun (m, k, kf, tp, tl, sb, sz, nu, ct) x => if vIn x (m 0) = true then (nI (vLst m (4 + 10 * tN x + 0) (tN x) 6).1, (m, k, kf, tp, tl, sb, sz, nu, ct)) else sp_tell (m, k, kf, tp, tl, sb, sz, nu, ct) 0
def sp_due : KS → Int32 → Int32 × KS := fun (m, k, kf, tp, tl, sb, sz, nu, ct) x => if vIn x (m 0) = true then sp_fst (m, k, kf, tp, tl, sb, sz, nu, ct) (vFst (fun d => vFinders (vUp m 3 (d + 1)) (tN x) == 0) 99) 99 1 else sp_tell (m, k, kf, tp, tl, sb, sz, nu, ct) 0
def sp_jury : KS → Int32 → Int32 → Int32 × KS := fun (m, k, kf, tp, tl, sb, sz, nu, ct) x y => if vIn x (m 0) = true ∧ vBt y 1 7 = true then sp_opt (m, k, kf, tp, tl, sb, sz, nu, ct) (vJ1 (vFinders m (tN x)) (tN x) (tN y) (2 ^ m 0)) else sp_tell (m, k, kf, tp, tl, sb, sz, nu, ct) 0
def sp_juries : KS → Int32 → Int32 → Int32 × KS := fun (m, k, kf, tp, tl, sb, sz, nu, ct) x y => if vIn x (m 0) = true ∧ vBt y 1 7 = true then (nI (vJn (vFinders m (tN x)) (tN x) (tN y) (2 ^ m 0)), (m, k, kf, tp, tl, sb, sz, nu, ct)) else sp_tell (m, k, kf, tp, tl, sb, sz, nu, ct) 0
def sp_from : KS → Int32 → Int32 → Int32 × KS := fun (m, k, kf, tp, tl, sb, sz, nu, ct) x y => if vIn x (m 0) = true ∧ vIn y 6 = true then sp_opt (m, k, kf, tp, tl, sb, sz, nu, ct) (match vStrong m (tN x) (tN y) (m 0) with | none => none | some q => if vFade (tN y) (vSc m (tN x) (tN y)) < vSc m q (tN y) / 4 then some q else none) else sp_tell (m, k, kf, tp, tl, sb, sz, nu, ct) 0
def sp_nose : KS → Int32 → Int32 → Int32 × KS := fun (m, k, kf, tp, tl, sb, sz, nu, ct) x y => if vTwo x y (m 0) = true then sp_fst (m, k, kf, tp, tl, sb, sz, nu, ct) (vFst (fun n => vFinds (vUp (vUp m (4 + 10 * tN x + 3) 0) (4 + 10 * tN x + 2) n) (tN x) (tN y)) 10) 10 0 else sp_tell (m, k, kf, tp, tl, sb, sz, nu, ct) 0
/-- the n lowest bytes of x, the highest first, from place t on -/
def vFeed (tp : Nat → Nat) (t : Nat) (x : Int32) (n : Nat) : Nat → Nat := fun j => if t ≤ j ∧ j < t + n then tN ((x >>> (nI (8 * (n - 1 - (j - t))) &&& 31)) &&& 255) else tp j
def sp_feed : KS → Int32 → Int32 → Int32 × KS := fun (m, k, kf, tp, tl, sb, sz, nu, ct) x y => if vBt y 1 4 = true then (if 120 < tl + tN y then sp_tell (m, k, kf, tp, tl, sb, sz, nu, ct) 1 else (nI (tl + tN y), (m, k, kf, vFeed tp tl x (tN y), tl + tN y, sb, sz, nu, ct))) else sp_tell (m, k, kf, tp, tl, sb, sz, nu, ct) 0
def sp_wipe : KS → Int32 × KS := fun (m, k, kf, tp, tl, sb, sz, nu, ct) => (nI tl, (m, k, kf, tp, 0, sb, sz, nu, ct))
def sp_sheet : KS → Int32 → Int32 → Int32 → Int32 × KS := fun (m, k, kf, tp, tl, sb, sz, nu, ct) x y z => if vIn x 4 = true ∧ (y = 0 ∨ y = 8 ∨ y = 16 ∨ y = 64) then (if z < 0 then sp_tell (m, k, kf, tp, tl, sb, sz, nu, ct) 6 else if 40 < z then sp_tell (m, k, kf, tp, tl, sb, sz, nu, ct) 0 else (if y = 0 then 0 else z, (m, k, kf, tp, tl, vUp sb (tN x) (tN y), vUp sz (tN x) (if y = 0 then 0 else tN z), fun s i => if s = tN x then 0 else nu s i, ct))) else sp_tell (m, k, kf, tp, tl, sb, sz, nu, ct) 0
def vWr (sb : Nat → Nat) (x : Int32) : Option Nat := if vIn x 4 = true then (if sb (tN x) = 0 then some 5 else none) else some 0
def sp_tellL (s : KS) (i : Nat) : Int64 × KS := ((sp_tell s i).1.toInt64, (sp_tell s i).2)
def sp_write : KS → Int32 → Int32 → Int64 → Int64 × KS := fun (m, k, kf, tp, tl, sb, sz, nu, ct) x y z => match vWr sb x with | some i => sp_tellL (m, k, kf, tp, tl, sb, sz, nu, ct) i | none => if vIn y (sz (tN x)) = true then (nu (tN x) (tN y), (m, k, kf, tp, tl, sb, sz, fun s i => if s = tN x ∧ i = tN y then vNar (sb (tN x)) z else nu s i, ct)) else sp_tellL (m, k, kf, tp, tl, sb, sz, nu, ct) 0
def vRun (s n : Int32) (z : Nat) : Bool := vIn s (z + 1) && vIn n (z + 1 - tN s)
def sp_copy : KS → Int32 → Int32 → Int32 → Int32 → Int32 → Int32 × KS := fun (m, k, kf, tp, tl, sb, sz, nu, ct) x y z u v => if vIn x 4 = true ∧ vIn z 4 = true then (if sb (tN x) = 0 ∨ sb (tN z) = 0 then sp_tell (m, k, kf, tp, tl, sb, sz, nu, ct) 5 else if sb (tN x) ≠ sb (tN z) then sp_tell (m, k, kf, tp, tl, sb, sz, nu, ct) 2 else if vRun y v (sz (tN x)) = true ∧ vRun u v (sz (tN z)) = true then (v, (m, k, kf, tp, tl, sb, sz, fun s i => if s = tN z ∧ tN u ≤ i ∧ i < tN u + tN v then nu (tN x) (tN y + (i - tN u)) else nu s i, ct)) else sp_tell (m, k, kf, tp, tl, sb, sz, nu, ct) 0) else sp_tell (m, k, kf, tp, tl, sb, sz, nu, ct) 0
/-- the places told by the first n numbers of a sheet, and how many came -/
def vLy (m : Nat → Nat) (f : Nat → Int64) : Nat → (Nat → Nat) × Nat
  | 0 => (m, 0)
  | n + 1 => if vInL (f n) 0 47 = true then (vUp (vLy m f n).1 (4 + 10 * n + 1) (tN (f n).toInt32), (vLy m f n).2 + 1) else vLy m f n
def sp_lays : KS → Int32 → Int32 × KS := fun (m, k, kf, tp, tl, sb, sz, nu, ct) x => match vWr sb x with | some i => sp_tell (m, k, kf, tp, tl, sb, sz, nu, ct) i | none => (nI (vLy m (nu (tN x)) (min (sz (tN x)) (m 0))).2, ((vLy m (nu (tN x)) (min (sz (tN x)) (m 0))).1, k, kf, tp, tl, sb, sz, nu, ct))
def vWb (m sb : Nat → Nat) (x y z u : Int32) : Option Nat := match vWr sb x with | some i => some i | none => if vTwo y z (m 0) = true ∧ vIn u 6 = true then none else some 0
def vSmA (m : Nat → Nat) (p o d n : Nat) : Int64 := (nI (vSmell (vIter vHour n m) p o d)).toInt64
def sp_book : KS → Int32 → Int32 → Int32 → Int32 → Int32 × KS := fun (m, k, kf, tp, tl, sb, sz, nu, ct) x y z u => match vWb m sb x y z u with | some i => sp_tell (m, k, kf, tp, tl, sb, sz, nu, ct) i | none => (nI (sz (tN x)), (m, k, kf, tp, tl, sb, sz, fun s i => if s = tN x ∧ i < sz (tN x) then vNar (sb (tN x)) (vSmA m (tN y) (tN z) (tN u) i) else nu s i, ct))
/-- the first n numbers are what is smelt -/
def vTo (m : Nat → Nat) (f : Nat → Int64) (p o d : Nat) : Nat → Bool
  | 0 => true
  | n + 1 => vTo m f p o d n && decide (f n = vSmA m p o d n)
def vRe (m : Nat → Nat) (f : Nat → Int64) (p o d n : Nat) : Nat → Nat
  | 0 => 0
  | v + 1 => vRe m f p o d n v + (if vTo (vUp m (4 + 10 * o + (4 + d)) v) f p o d n then 1 else 0)
def sp_read : KS → Int32 → Int32 → Int32 → Int32 → Int32 × KS := fun (m, k, kf, tp, tl, sb, sz, nu, ct) x y z u => match vWb m sb x y z u with | some i => sp_tell (m, k, kf, tp, tl, sb, sz, nu, ct) i | none => (nI (vRe m (nu (tN x)) (tN y) (tN z) (tN u) (sz (tN x)) 100), (m, k, kf, tp, tl, sb, sz, nu, ct))
def sp_image : KS → Int32 × KS := fun (m, k, kf, tp, tl, sb, sz, nu, ct) => (1, (m, m, true, tp, tl, sb, sz, nu, ct))
def sp_undo : KS → Int32 × KS := fun (m, k, kf, tp, tl, sb, sz, nu, ct) => if kf = true then (nI (k 0), (k, k, kf, tp, tl, sb, sz, nu, ct)) else sp_tell (m, k, kf, tp, tl, sb, sz, nu, ct) 3
def sp_tear : KS → Int32 × KS := fun (m, k, kf, tp, tl, sb, sz, nu, ct) => (kb kf, (m, k, false, tp, tl, sb, sz, nu, ct))
def sp_count : KS → Int32 → Int32 × KS := fun (m, k, kf, tp, tl, sb, sz, nu, ct) x => if x = 0 then (nI (m 0), (m, k, kf, tp, tl, sb, sz, nu, ct)) else if x = 1 then (nI tl, (m, k, kf, tp, tl, sb, sz, nu, ct)) else if x = 2 then (nI (vSum (fun p => m (4 + 10 * p + 3)) (m 0)), (m, k, kf, tp, tl, sb, sz, nu, ct)) else if x = 3 then (nI (vSum (fun p => m (4 + 10 * p + 2)) (m 0)), (m, k, kf, tp, tl, sb, sz, nu, ct)) else sp_tell (m, k, kf, tp, tl, sb, sz, nu, ct) 0
def vAll (ct : Nat → Int32) : Nat → Int32
  | 0 => 0
  | n + 1 => vAll ct n + ct n
def sp_status : KS → Int32 → Int32 × KS := fun (m, k, kf, tp, tl, sb, sz, nu, ct) x => if vIn x 7 = true then (ct (tN x), (m, k, kf, tp, tl, sb, sz, nu, ct)) else if x = -1 then (vAll ct 7, (m, k, kf, tp, tl, sb, sz, nu, ct)) else sp_tell (m, k, kf, tp, tl, sb, sz, nu, ct) 0
