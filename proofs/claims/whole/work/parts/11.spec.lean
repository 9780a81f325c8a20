/-! A HALL as one row of numbers m, as the reference keeps it: 0 people, 1 hour, 2 wind, 3 due; of one p: 4 + 10 p + (0 kind, 1 place, 2 nose, 3 cold, 4 + d scent of deed d) -/
abbrev vKd (m : Nat → Nat) (p : Nat) : Nat := m (4 + 10 * p + 0)
abbrev vPl (m : Nat → Nat) (p : Nat) : Nat := m (4 + 10 * p + 1)
abbrev vNs (m : Nat → Nat) (p : Nat) : Nat := m (4 + 10 * p + 2)
abbrev vCd (m : Nat → Nat) (p : Nat) : Nat := m (4 + 10 * p + 3)
abbrev vSc (m : Nat → Nat) (p d : Nat) : Nat := m (4 + 10 * p + (4 + d))
def vUp (m : Nat → Nat) (k v : Nat) : Nat → Nat := fun j => if j = k then v else m j
theorem vUp_s (m : Nat → Nat) (k v : Nat) : vUp m k v k = v := if_pos rfl
theorem vUp_ne {m : Nat → Nat} {k v j : Nat} (h : j ≠ k) : vUp m k v j = m j := if_neg h
theorem vUp_eq {m : Nat → Nat} {k v j : Nat} (h : j = k) : vUp m k v j = v := if_pos h
/-- what is kept of a hall: every number in its range; B bounds the hour -/
def vOk (B : Nat) (m : Nat → Nat) : Prop := m 0 ≤ 8 ∧ m 1 ≤ B ∧ m 2 ≤ 4 ∧ 1 ≤ m 3 ∧ m 3 ≤ 99 ∧ ∀ p, p < 8 → vKd m p ≤ 5 ∧ vPl m p ≤ 47 ∧ vNs m p ≤ 9 ∧ vCd m p ≤ 1 ∧ ∀ d, d < 6 → vSc m p d ≤ 99
theorem vOk.kd {B : Nat} {m : Nat → Nat} (h : vOk B m) {p : Nat} (hp : p < 8) : vKd m p ≤ 5 := (h.2.2.2.2.2 p hp).1
theorem vOk.pl {B : Nat} {m : Nat → Nat} (h : vOk B m) {p : Nat} (hp : p < 8) : vPl m p ≤ 47 := (h.2.2.2.2.2 p hp).2.1
theorem vOk.ns {B : Nat} {m : Nat → Nat} (h : vOk B m) {p : Nat} (hp : p < 8) : vNs m p ≤ 9 := (h.2.2.2.2.2 p hp).2.2.1
theorem vOk.cd {B : Nat} {m : Nat → Nat} (h : vOk B m) {p : Nat} (hp : p < 8) : vCd m p ≤ 1 := (h.2.2.2.2.2 p hp).2.2.2.1
theorem vOk.sc {B : Nat} {m : Nat → Nat} (h : vOk B m) {p d : Nat} (hp : p < 8) (hd : d < 6) : vSc m p d ≤ 99 := (h.2.2.2.2.2 p hp).2.2.2.2 d hd
def vGives (m : Nat → Nat) (p d : Nat) : Nat :=
  if vKd m p = 1 then (if d = 0 then 0 else vSc m p d) else if vKd m p = 2 then vSc m p d - 10 else if vKd m p = 3 then vSc m p d + vSc m p d / 2 else if vKd m p = 4 then (if m 1 % 2 = 0 then (vSc m p d - 10) / 2 else vSc m p d - 10) else if vKd m p = 5 then vSc m p d + vSc m p d / 2 - 5 else vSc m p d
theorem vGives_le {B : Nat} {m : Nat → Nat} (h : vOk B m) {p d : Nat} (hp : p < 8) (hd : d < 6) : vGives m p d ≤ 148 := by
  have := h.sc hp hd
  unfold vGives
  split
  · split <;> omega
  · split
    · omega
    · split
      · omega
      · split
        · split <;> omega
        · split <;> omega
def vApart (a b : Nat) : Nat := ((a / 8 - b / 8) + (b / 8 - a / 8)) + ((a % 8 - b % 8) + (b % 8 - a % 8))
theorem vApart_le {a b : Nat} (ha : a ≤ 47) (hb : b ≤ 47) : vApart a b ≤ 12 := by unfold vApart; omega
def vDown (w a b : Nat) : Bool := if w = 1 then decide (a / 8 < b / 8) else if w = 2 then decide (b % 8 < a % 8) else if w = 3 then decide (b / 8 < a / 8) else if w = 4 then decide (a % 8 < b % 8) else false
def vSense (m : Nat → Nat) (p gv far : Nat) : Nat :=
  if vCd m p ≠ 0 then 0 else if vKd m p = 1 then (if far = 0 then 0 else gv * vNs m p / (far + 5)) else if vKd m p = 3 then 2 * (gv * vNs m p / (far + 5)) else if vKd m p = 5 then (if 0 < gv * vNs m p / (far + 5) then 2 * (gv * vNs m p / (far + 5)) + 3 else 0) else gv * vNs m p / (far + 5)
theorem vPlain_le {gv n far : Nat} (h1 : gv ≤ 148) (h2 : n ≤ 9) : gv * n / (far + 5) ≤ 1332 := by
  have h3 : gv * n ≤ 148 * 9 := Nat.mul_le_mul h1 h2
  exact Nat.le_trans (Nat.div_le_self _ _) h3
theorem vSense_le {B : Nat} {m : Nat → Nat} (h : vOk B m) {p gv far : Nat} (hp : p < 8) (hg : gv ≤ 148) : vSense m p gv far ≤ 2667 := by
  have := vPlain_le (far := far) hg (h.ns hp)
  unfold vSense
  split
  · omega
  · split
    · split <;> omega
    · split
      · omega
      · split
        · split <;> omega
        · omega
def vSmell (m : Nat → Nat) (p o d : Nat) : Nat :=
  if vDown (m 2) (vPl m p) (vPl m o) then 2 * vSense m p (vGives m o d) (vApart (vPl m p) (vPl m o)) else if vDown (m 2) (vPl m o) (vPl m p) then vSense m p (vGives m o d) (vApart (vPl m p) (vPl m o)) / 2 else vSense m p (vGives m o d) (vApart (vPl m p) (vPl m o))
theorem vSmell_le {B : Nat} {m : Nat → Nat} (h : vOk B m) {p o d : Nat} (hp : p < 8) (ho : o < 8) (hd : d < 6) : vSmell m p o d ≤ 5334 := by
  have := vSense_le h (far := vApart (vPl m p) (vPl m o)) hp (vGives_le h ho hd)
  unfold vSmell
  split
  · omega
  · split <;> omega
def vAnyTo (m : Nat → Nat) (p o : Nat) : Nat → Bool
  | 0 => false
  | d + 1 => vAnyTo m p o d || decide (m 3 ≤ vSmell m p o d)
theorem vAnyTo_mono {m : Nat → Nat} {p o d : Nat} (h : vAnyTo m p o d = true) : ∀ k, vAnyTo m p o (d + k) = true
  | 0 => h
  | k + 1 => by rw [← Nat.add_assoc, vAnyTo, vAnyTo_mono h k]; rfl
def vAny (m : Nat → Nat) (p o : Nat) : Bool := vAnyTo m p o 6
def vFinds (m : Nat → Nat) (p o : Nat) : Bool := !((vKd m p == 2 || vKd m p == 4) && decide (vApart (vPl m p) (vPl m o) ≤ 1)) && vAny m p o
def vFound (m : Nat → Nat) (p o : Nat) : Bool := !(p == o) && vFinds m p o
def vBits (f : Nat → Bool) : Nat → Nat
  | 0 => 0
  | n + 1 => vBits f n + (if f n then 2 ^ n else 0)
theorem vBits_lt (f : Nat → Bool) : ∀ n, vBits f n < 2 ^ n
  | 0 => by show 0 < 1; decide
  | n + 1 => by
    have := vBits_lt f n
    rw [vBits, Nat.pow_succ]
    split <;> omega
theorem vBits_or (f : Nat → Bool) (n : Nat) : vBits f n ||| 2 ^ n = vBits f n + 2 ^ n := by
  have h := Nat.two_pow_add_eq_or_of_lt (i := n) (b := vBits f n) (vBits_lt f n) 1
  rw [Nat.or_comm]
  simpa [Nat.add_comm] using h.symm
theorem vBits_le8 (f : Nat → Bool) {n : Nat} (h : n ≤ 8) : vBits f n < 256 := Nat.lt_of_lt_of_le (vBits_lt f n) (Nat.pow_le_pow_right (by decide) h)
def vFinders (m : Nat → Nat) (o : Nat) : Nat := vBits (fun p => vFound m p o) (m 0)
def vGuiltyAll (m : Nat → Nat) : Nat := vBits (fun p => decide (vFinders m p ≠ 0)) (m 0)
def vPop (s : Nat) : Nat := s % 2 + s / 2 % 2 + s / 4 % 2 + s / 8 % 2 + s / 16 % 2 + s / 32 % 2 + s / 64 % 2 + s / 128 % 2
def vFade (d v : Nat) : Nat := if d = 5 then v - v / 2 else v - v / 10 - 1
/-- the greatest scent of a deed of others of the first n at one's place -/
def vMax (m : Nat → Nat) (p d : Nat) : Nat → Nat
  | 0 => 0
  | n + 1 => if n ≠ p ∧ vPl m n = vPl m p ∧ vMax m p d n < vSc m n d then vSc m n d else vMax m p d n
/-- the least of them that has it -/
def vStrong (m : Nat → Nat) (p d : Nat) : Nat → Option Nat
  | 0 => none
  | n + 1 => if n ≠ p ∧ vPl m n = vPl m p ∧ (match vStrong m p d n with | none => true | some b => decide (vSc m b d < vSc m n d)) = true then some n else vStrong m p d n
def kOpt (o : Option Nat) : Int32 := match o with
  | none => -1
  | some i => nI i
def vNew (m : Nat → Nat) (p d : Nat) : Nat := max (vFade d (vSc m p d)) (vMax m p d (m 0) / 4)
/-- one hour for the deeds below k -/
def vRows (m : Nat → Nat) (k : Nat) : Nat → Nat := fun j => if 4 ≤ j ∧ 4 ≤ (j - 4) % 10 ∧ (j - 4) % 10 < 4 + k ∧ (j - 4) / 10 < m 0 then vNew m ((j - 4) / 10) ((j - 4) % 10 - 4) else m j
def vRow (m : Nat → Nat) (d : Nat) : Nat → Nat := fun j => if 4 ≤ j ∧ (j - 4) % 10 = 4 + d ∧ (j - 4) / 10 < m 0 then vNew m ((j - 4) / 10) d else m j
def vHour (m : Nat → Nat) : Nat → Nat := vUp (vRows m 6) 1 (m 1 + 1)
def vHourFor (m : Nat → Nat) (d : Nat) : Nat → Nat := vUp (vRow m d) 1 (m 1 + 1)
def vSum (f : Nat → Nat) : Nat → Nat
  | 0 => 0
  | n + 1 => vSum f n + f n
theorem vSum_le {f : Nat → Nat} {c : Nat} : ∀ {n : Nat}, (∀ i, i < n → f i ≤ c) → vSum f n ≤ n * c
  | 0, _ => by simp [vSum]
  | n + 1, h => by
    have h1 := vSum_le (n := n) (fun i hi => h i (by omega))
    have h2 := h n (by omega)
    rw [vSum, Nat.succ_mul]
    omega
theorem vSum_cong {f g : Nat → Nat} : ∀ {n : Nat}, (∀ i, i < n → f i = g i) → vSum f n = vSum g n
  | 0, _ => rfl
  | n + 1, h => by rw [vSum, vSum, vSum_cong (fun i hi => h i (by omega)), h n (by omega)]
def vIter (f : (Nat → Nat) → Nat → Nat) : Nat → (Nat → Nat) → Nat → Nat
  | 0, m => m
  | n + 1, m => f (vIter f n m)
def vWash (m : Nat → Nat) (p k : Nat) : Nat → Nat := fun j => if 4 + 10 * p + 4 ≤ j ∧ j < 4 + 10 * p + 4 + k then m j / 3 else m j
def vWashed (m : Nat → Nat) (p : Nat) : Nat := vSum (fun d => vSc m p d - vSc m p d / 3) 6
def vScents (m : Nat → Nat) (p : Nat) : Nat := vSum (fun d => vSc m p d) 6
def vGivesAll (m : Nat → Nat) (p : Nat) : Nat := vSum (fun d => vGives m p d) 6
def vScentsAll (m : Nat → Nat) : Nat := vSum (fun p => vScents m p) (m 0)
/-- one more -/
def vJoin (m : Nat → Nat) (kind place : Nat) : Nat → Nat := fun j => if j = 0 then m 0 + 1 else if 4 + 10 * m 0 ≤ j ∧ j < 14 + 10 * m 0 then (if j = 4 + 10 * m 0 then kind else if j = 5 + 10 * m 0 then place else if j = 6 + 10 * m 0 then 5 else 0) else m j
