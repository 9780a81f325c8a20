/-- NoseJury and its told; its tape; a sheet; all sheets; all of it -/
def clsX (g : KG) (a aK aL aT : Nat → Nat) (kf : Bool) (ct : Nat → Int32) : va_W := [(a 0, .inr (3, [.ref (aL 0), .ref (aK 0), .ref (aT 0), .ref (a 2), .ref (a 4), .ref (a 1), .int (kb kf)])), (a 1, .inl (kI g, 7, .inl ct))]
def tapW (g : KG) (a : Nat → Nat) (tp : Nat → Nat) (tl nx tk sr va : Nat) : va_W := [(a 2, .inr (2, [.int (nI tl), .ref (a 3), .int (nI nx), .int (nI tk), .int (nI sr), .int (nI va)])), (a 3, .inl (kI g, 120, .inl (fun i => nI (tp i))))]
def shS (g : KG) (a : Nat → Nat) (c z : Nat) (f : Nat → Int64) (s : Nat) : va_W := [(a (5 + 2 * s), .inr (1, [.int (nI c), .int (nI z), .ref (a (6 + 2 * s))])), (a (6 + 2 * s), .inl (kL g, 40, .inr (.inl f)))]
def shW (g : KG) (a : Nat → Nat) (sb sz : Nat → Nat) (nu : Nat → Nat → Int64) : va_W := (a 4, .inl (kS g, 4, .inr (.inr (.inr (.inr (fun i => some (a (5 + 2 * i)))))))) :: (shS g a (sb 0) (sz 0) (nu 0) 0 ++ (shS g a (sb 1) (sz 1) (nu 1) 1 ++ (shS g a (sb 2) (sz 2) (nu 2) 2 ++ shS g a (sb 3) (sz 3) (nu 3) 3)))
def clsW (g : KG) (a aK aL aT : Nat → Nat) (kf : Bool) (ct : Nat → Int32) (k : Nat → Nat) (lk : Nat → Int32) (m : Nat → Nat) (lm : Nat → Int32) (t : Nat → Nat) (lt : Nat → Int32) (tp : Nat → Nat) (tl nx tk sr va : Nat) (sb sz : Nat → Nat) (nu : Nat → Nat → Int64) : va_W := clsX g a aK aL aT kf ct ++ (hallW g aK k lk ++ (hallW g aL m lm ++ (hallW g aT t lt ++ (tapW g a tp tl nx tk sr va ++ shW g a sb sz nu))))
section CW
variable {g : KG} {a aK aL aT : Nat → Nat} {kf : Bool} {ct : Nat → Int32} {k : Nat → Nat} {lk : Nat → Int32} {m : Nat → Nat} {lm : Nat → Int32} {t : Nat → Nat} {lt : Nat → Int32} {tp : Nat → Nat} {tl nx tk sr va : Nat} {sb sz : Nat → Nat} {nu : Nat → Nat → Int64} {m2 : Nat → Nat} {l2 : Nat → Int32}
theorem cls_eqK : clsW g a aK aL aT kf ct k lk m lm t lt tp tl nx tk sr va sb sz nu = (clsX g a aK aL aT kf ct) ++ (hallW g aK k lk ++ (hallW g aL m lm ++ (hallW g aT t lt ++ (tapW g a tp tl nx tk sr va ++ shW g a sb sz nu)))) := by unfold clsW; simp only [List.append_assoc]
theorem cls_frK : Fr (clsW g a aK aL aT kf ct k lk m lm t lt tp tl nx tk sr va sb sz nu) (hallW g aK k lk) (hallW g aK m2 l2) (clsW g a aK aL aT kf ct m2 l2 m lm t lt tp tl nx tk sr va sb sz nu) := ⟨clsX g a aK aL aT kf ct, hallW g aL m lm ++ (hallW g aT t lt ++ (tapW g a tp tl nx tk sr va ++ shW g a sb sz nu)), by unfold clsW; simp only [List.append_assoc], by unfold clsW; simp only [List.append_assoc], rfl⟩
theorem cls_lenK : (clsX g a aK aL aT kf ct).length = 2 := rfl
theorem cls_setK {i : Nat} {e : Nat × va_E} (hi : i < 13) (h : (hallW g aK k lk).set i e = hallW g aK m2 l2) : (clsW g a aK aL aT kf ct k lk m lm t lt tp tl nx tk sr va sb sz nu).set (2 + i) e = clsW g a aK aL aT kf ct m2 l2 m lm t lt tp tl nx tk sr va sb sz nu := by
  rw [cls_eqK, List.set_append_right _ _ (by rw [cls_lenK]; omega), cls_lenK, show 2 + i - 2 = i by omega, List.set_append_left _ _ (by rw [hallW_len]; exact hi), h]
  unfold clsW
  simp only [List.append_assoc]
theorem cls_setRK {d : Nat} {e : Nat × va_E} (hd : d < 6) (h : (hallW g aK k lk).set (7 + d) e = hallW g aK m2 l2) : (clsW g a aK aL aT kf ct k lk m lm t lt tp tl nx tk sr va sb sz nu).set (9 + d) e = clsW g a aK aL aT kf ct m2 l2 m lm t lt tp tl nx tk sr va sb sz nu := by rw [show 9 + d = 2 + (7 + d) by omega]; exact cls_setK (by omega) h
theorem cls_rowK {d : Nat} (hd : d < 6) : (clsW g a aK aL aT kf ct k lk m lm t lt tp tl nx tk sr va sb sz nu)[9 + d]? = some (aK (7 + d), .inl (kI g, 8, .inl (fun i => nI (k (4 + 10 * i + (4 + d)))))) := by
  rw [cls_eqK, List.getElem?_append_right (by rw [cls_lenK]; omega), cls_lenK, show 9 + d - 2 = 7 + d by omega, List.getElem?_append_left (by rw [hallW_len]; omega)]
  exact hallW_row g aK k _ hd
theorem cls_eqL : clsW g a aK aL aT kf ct k lk m lm t lt tp tl nx tk sr va sb sz nu = (clsX g a aK aL aT kf ct ++ hallW g aK k lk) ++ (hallW g aL m lm ++ (hallW g aT t lt ++ (tapW g a tp tl nx tk sr va ++ shW g a sb sz nu))) := by unfold clsW; simp only [List.append_assoc]
theorem cls_frL : Fr (clsW g a aK aL aT kf ct k lk m lm t lt tp tl nx tk sr va sb sz nu) (hallW g aL m lm) (hallW g aL m2 l2) (clsW g a aK aL aT kf ct k lk m2 l2 t lt tp tl nx tk sr va sb sz nu) := ⟨clsX g a aK aL aT kf ct ++ hallW g aK k lk, hallW g aT t lt ++ (tapW g a tp tl nx tk sr va ++ shW g a sb sz nu), by unfold clsW; simp only [List.append_assoc], by unfold clsW; simp only [List.append_assoc], rfl⟩
theorem cls_lenL : (clsX g a aK aL aT kf ct ++ hallW g aK k lk).length = 15 := rfl
theorem cls_setL {i : Nat} {e : Nat × va_E} (hi : i < 13) (h : (hallW g aL m lm).set i e = hallW g aL m2 l2) : (clsW g a aK aL aT kf ct k lk m lm t lt tp tl nx tk sr va sb sz nu).set (15 + i) e = clsW g a aK aL aT kf ct k lk m2 l2 t lt tp tl nx tk sr va sb sz nu := by
  rw [cls_eqL, List.set_append_right _ _ (by rw [cls_lenL]; omega), cls_lenL, show 15 + i - 15 = i by omega, List.set_append_left _ _ (by rw [hallW_len]; exact hi), h]
  unfold clsW
  simp only [List.append_assoc]
theorem cls_setRL {d : Nat} {e : Nat × va_E} (hd : d < 6) (h : (hallW g aL m lm).set (7 + d) e = hallW g aL m2 l2) : (clsW g a aK aL aT kf ct k lk m lm t lt tp tl nx tk sr va sb sz nu).set (22 + d) e = clsW g a aK aL aT kf ct k lk m2 l2 t lt tp tl nx tk sr va sb sz nu := by rw [show 22 + d = 15 + (7 + d) by omega]; exact cls_setL (by omega) h
theorem cls_rowL {d : Nat} (hd : d < 6) : (clsW g a aK aL aT kf ct k lk m lm t lt tp tl nx tk sr va sb sz nu)[22 + d]? = some (aL (7 + d), .inl (kI g, 8, .inl (fun i => nI (m (4 + 10 * i + (4 + d)))))) := by
  rw [cls_eqL, List.getElem?_append_right (by rw [cls_lenL]; omega), cls_lenL, show 22 + d - 15 = 7 + d by omega, List.getElem?_append_left (by rw [hallW_len]; omega)]
  exact hallW_row g aL m _ hd
theorem cls_eqT : clsW g a aK aL aT kf ct k lk m lm t lt tp tl nx tk sr va sb sz nu = ((clsX g a aK aL aT kf ct ++ hallW g aK k lk) ++ hallW g aL m lm) ++ (hallW g aT t lt ++ (tapW g a tp tl nx tk sr va ++ shW g a sb sz nu)) := by unfold clsW; simp only [List.append_assoc]
theorem cls_frT : Fr (clsW g a aK aL aT kf ct k lk m lm t lt tp tl nx tk sr va sb sz nu) (hallW g aT t lt) (hallW g aT m2 l2) (clsW g a aK aL aT kf ct k lk m lm m2 l2 tp tl nx tk sr va sb sz nu) := ⟨(clsX g a aK aL aT kf ct ++ hallW g aK k lk) ++ hallW g aL m lm, tapW g a tp tl nx tk sr va ++ shW g a sb sz nu, by unfold clsW; simp only [List.append_assoc], by unfold clsW; simp only [List.append_assoc], rfl⟩
theorem cls_lenT : ((clsX g a aK aL aT kf ct ++ hallW g aK k lk) ++ hallW g aL m lm).length = 28 := rfl
theorem cls_setT {i : Nat} {e : Nat × va_E} (hi : i < 13) (h : (hallW g aT t lt).set i e = hallW g aT m2 l2) : (clsW g a aK aL aT kf ct k lk m lm t lt tp tl nx tk sr va sb sz nu).set (28 + i) e = clsW g a aK aL aT kf ct k lk m lm m2 l2 tp tl nx tk sr va sb sz nu := by
  rw [cls_eqT, List.set_append_right _ _ (by rw [cls_lenT]; omega), cls_lenT, show 28 + i - 28 = i by omega, List.set_append_left _ _ (by rw [hallW_len]; exact hi), h]
  unfold clsW
  simp only [List.append_assoc]
theorem cls_setRT {d : Nat} {e : Nat × va_E} (hd : d < 6) (h : (hallW g aT t lt).set (7 + d) e = hallW g aT m2 l2) : (clsW g a aK aL aT kf ct k lk m lm t lt tp tl nx tk sr va sb sz nu).set (35 + d) e = clsW g a aK aL aT kf ct k lk m lm m2 l2 tp tl nx tk sr va sb sz nu := by rw [show 35 + d = 28 + (7 + d) by omega]; exact cls_setT (by omega) h
theorem cls_rowT {d : Nat} (hd : d < 6) : (clsW g a aK aL aT kf ct k lk m lm t lt tp tl nx tk sr va sb sz nu)[35 + d]? = some (aT (7 + d), .inl (kI g, 8, .inl (fun i => nI (t (4 + 10 * i + (4 + d)))))) := by
  rw [cls_eqT, List.getElem?_append_right (by rw [cls_lenT]; omega), cls_lenT, show 35 + d - 28 = 7 + d by omega, List.getElem?_append_left (by rw [hallW_len]; omega)]
  exact hallW_row g aT t _ hd
theorem cls_frX {kf2 : Bool} {ct2 : Nat → Int32} : Fr (clsW g a aK aL aT kf ct k lk m lm t lt tp tl nx tk sr va sb sz nu) (clsX g a aK aL aT kf ct) (clsX g a aK aL aT kf2 ct2) (clsW g a aK aL aT kf2 ct2 k lk m lm t lt tp tl nx tk sr va sb sz nu) := ⟨[], _, rfl, rfl, rfl⟩
theorem cls_frKL {k2 m2 : Nat → Nat} {lk2 lm2 : Nat → Int32} : Fr (clsW g a aK aL aT kf ct k lk m lm t lt tp tl nx tk sr va sb sz nu) (hallW g aK k lk ++ hallW g aL m lm) (hallW g aK k2 lk2 ++ hallW g aL m2 lm2) (clsW g a aK aL aT kf ct k2 lk2 m2 lm2 t lt tp tl nx tk sr va sb sz nu) := ⟨clsX g a aK aL aT kf ct, hallW g aT t lt ++ (tapW g a tp tl nx tk sr va ++ shW g a sb sz nu), by unfold clsW; simp only [List.append_assoc], by unfold clsW; simp only [List.append_assoc], rfl⟩
theorem cls_frLT {m2 t2 : Nat → Nat} {lm2 lt2 : Nat → Int32} : Fr (clsW g a aK aL aT kf ct k lk m lm t lt tp tl nx tk sr va sb sz nu) (hallW g aL m lm ++ hallW g aT t lt) (hallW g aL m2 lm2 ++ hallW g aT t2 lt2) (clsW g a aK aL aT kf ct k lk m2 lm2 t2 lt2 tp tl nx tk sr va sb sz nu) := ⟨clsX g a aK aL aT kf ct ++ hallW g aK k lk, tapW g a tp tl nx tk sr va ++ shW g a sb sz nu, by unfold clsW; simp only [List.append_assoc], by unfold clsW; simp only [List.append_assoc], rfl⟩
theorem cls_frTt {t2 : Nat → Nat} {lt2 : Nat → Int32} {tl2 nx2 tk2 sr2 va2 : Nat} {tp2 : Nat → Nat} : Fr (clsW g a aK aL aT kf ct k lk m lm t lt tp tl nx tk sr va sb sz nu) (hallW g aT t lt ++ tapW g a tp tl nx tk sr va) (hallW g aT t2 lt2 ++ tapW g a tp2 tl2 nx2 tk2 sr2 va2) (clsW g a aK aL aT kf ct k lk m lm t2 lt2 tp2 tl2 nx2 tk2 sr2 va2 sb sz nu) := ⟨(clsX g a aK aL aT kf ct ++ hallW g aK k lk) ++ hallW g aL m lm, shW g a sb sz nu, by unfold clsW; simp only [List.append_assoc], by unfold clsW; simp only [List.append_assoc], rfl⟩
theorem cls_frt {tl2 nx2 tk2 sr2 va2 : Nat} {tp2 : Nat → Nat} : Fr (clsW g a aK aL aT kf ct k lk m lm t lt tp tl nx tk sr va sb sz nu) (tapW g a tp tl nx tk sr va) (tapW g a tp2 tl2 nx2 tk2 sr2 va2) (clsW g a aK aL aT kf ct k lk m lm t lt tp2 tl2 nx2 tk2 sr2 va2 sb sz nu) := ⟨((clsX g a aK aL aT kf ct ++ hallW g aK k lk) ++ hallW g aL m lm) ++ hallW g aT t lt, shW g a sb sz nu, by unfold clsW; simp only [List.append_assoc], by unfold clsW; simp only [List.append_assoc], rfl⟩
theorem cls_sh {s : Nat} (hs : s < 4) : (clsW g a aK aL aT kf ct k lk m lm t lt tp tl nx tk sr va sb sz nu)[44 + 2 * s]? = some (a (5 + 2 * s), .inr (1, [.int (nI (sb s)), .int (nI (sz s)), .ref (a (6 + 2 * s))])) := by
  match s, hs with
  | 0, _ => rfl
  | 1, _ => rfl
  | 2, _ => rfl
  | 3, _ => rfl
theorem cls_nu {s : Nat} (hs : s < 4) : (clsW g a aK aL aT kf ct k lk m lm t lt tp tl nx tk sr va sb sz nu)[45 + 2 * s]? = some (a (6 + 2 * s), .inl (kL g, 40, .inr (.inl (nu s)))) := by
  match s, hs with
  | 0, _ => rfl
  | 1, _ => rfl
  | 2, _ => rfl
  | 3, _ => rfl
def vNc (nu : Nat → Nat → Int64) (s : Nat) (f : Nat → Int64) : Nat → Nat → Int64 := fun x i => if x = s then f i else nu x i
theorem vNc_s (nu : Nat → Nat → Int64) (s : Nat) (f : Nat → Int64) : vNc nu s f s = f := funext fun i => if_pos rfl
theorem vNc_ne {nu : Nat → Nat → Int64} {s q : Nat} {f : Nat → Int64} (h : q ≠ s) : vNc nu s f q = nu q := funext fun i => if_neg h
theorem cls_nucpy {s : Nat} {f : Nat → Int64} (hs : s < 4) : (clsW g a aK aL aT kf ct k lk m lm t lt tp tl nx tk sr va sb sz nu).set (45 + 2 * s) (a (6 + 2 * s), .inl (kL g, 40, .inr (.inl f))) = clsW g a aK aL aT kf ct k lk m lm t lt tp tl nx tk sr va sb sz (vNc nu s f) := by
  match s, hs with
  | 0, _ => unfold clsW shW; rw [vNc_s nu 0, vNc_ne (show 1 ≠ 0 by decide), vNc_ne (show 2 ≠ 0 by decide), vNc_ne (show 3 ≠ 0 by decide)]; rfl
  | 1, _ => unfold clsW shW; rw [vNc_s nu 1, vNc_ne (show 0 ≠ 1 by decide), vNc_ne (show 2 ≠ 1 by decide), vNc_ne (show 3 ≠ 1 by decide)]; rfl
  | 2, _ => unfold clsW shW; rw [vNc_s nu 2, vNc_ne (show 0 ≠ 2 by decide), vNc_ne (show 1 ≠ 2 by decide), vNc_ne (show 3 ≠ 2 by decide)]; rfl
  | 3, _ => unfold clsW shW; rw [vNc_s nu 3, vNc_ne (show 0 ≠ 3 by decide), vNc_ne (show 1 ≠ 3 by decide), vNc_ne (show 2 ≠ 3 by decide)]; rfl
theorem vN_c (nu : Nat → Nat → Int64) (s i : Nat) (v : Int64) : vNc nu s (vp_updL (nu s) i v) = vN nu s i v := by
  funext x c
  unfold vNc vN vp_updL
  by_cases h : x = s
  · subst h
    by_cases h2 : c = i
    · rw [if_pos rfl, if_pos h2, if_pos ⟨rfl, h2⟩]
    · rw [if_pos rfl, if_neg h2, if_neg (fun q => h2 q.2)]
  · rw [if_neg h, if_neg (fun q => h q.1)]
theorem cls_nuset {s i : Nat} {v : Int64} (hs : s < 4) : (clsW g a aK aL aT kf ct k lk m lm t lt tp tl nx tk sr va sb sz nu).set (45 + 2 * s) (a (6 + 2 * s), .inl (kL g, 40, .inr (.inl (vp_updL (nu s) i v)))) = clsW g a aK aL aT kf ct k lk m lm t lt tp tl nx tk sr va sb sz (vN nu s i v) := by rw [cls_nucpy hs, vN_c]
def vS1 {α : Type} (f : Nat → α) (s : Nat) (v : α) : Nat → α := fun x => if x = s then v else f x
theorem vS1_s {α : Type} (f : Nat → α) (s : Nat) (v : α) : vS1 f s v s = v := if_pos rfl
theorem vS1_ne {α : Type} {f : Nat → α} {s q : Nat} {v : α} (h : q ≠ s) : vS1 f s v q = f q := if_neg h
/-- one sheet becomes another -/
theorem cls_frS {s c2 z2 : Nat} {f2 : Nat → Int64} (hs : s < 4) : Fr (clsW g a aK aL aT kf ct k lk m lm t lt tp tl nx tk sr va sb sz nu) (shS g a (sb s) (sz s) (nu s) s) (shS g a c2 z2 f2 s) (clsW g a aK aL aT kf ct k lk m lm t lt tp tl nx tk sr va (vS1 sb s c2) (vS1 sz s z2) (vNc nu s f2)) := by
  match s, hs with
  | 0, _ => exact ⟨(((clsX g a aK aL aT kf ct ++ hallW g aK k lk) ++ hallW g aL m lm) ++ hallW g aT t lt) ++ (tapW g a tp tl nx tk sr va ++ [(a 4, .inl (kS g, 4, .inr (.inr (.inr (.inr (fun i => some (a (5 + 2 * i))))))))]), shS g a (sb 1) (sz 1) (nu 1) 1 ++ (shS g a (sb 2) (sz 2) (nu 2) 2 ++ shS g a (sb 3) (sz 3) (nu 3) 3), by unfold clsW shW; simp only [List.append_assoc, List.cons_append, List.nil_append], by unfold clsW shW; rw [vNc_s nu 0, vNc_ne (show 1 ≠ 0 by decide), vNc_ne (show 2 ≠ 0 by decide), vNc_ne (show 3 ≠ 0 by decide), vS1_s sb 0, vS1_s sz 0, vS1_ne (show 1 ≠ 0 by decide), vS1_ne (show 2 ≠ 0 by decide), vS1_ne (show 3 ≠ 0 by decide), vS1_ne (show 1 ≠ 0 by decide), vS1_ne (show 2 ≠ 0 by decide), vS1_ne (show 3 ≠ 0 by decide)]; simp only [List.append_assoc, List.cons_append, List.nil_append], rfl⟩
  | 1, _ => exact ⟨(((clsX g a aK aL aT kf ct ++ hallW g aK k lk) ++ hallW g aL m lm) ++ hallW g aT t lt) ++ (tapW g a tp tl nx tk sr va ++ ((a 4, .inl (kS g, 4, .inr (.inr (.inr (.inr (fun i => some (a (5 + 2 * i)))))))) :: shS g a (sb 0) (sz 0) (nu 0) 0)), shS g a (sb 2) (sz 2) (nu 2) 2 ++ shS g a (sb 3) (sz 3) (nu 3) 3, by unfold clsW shW; simp only [List.append_assoc, List.cons_append, List.nil_append], by unfold clsW shW; rw [vNc_s nu 1, vNc_ne (show 0 ≠ 1 by decide), vNc_ne (show 2 ≠ 1 by decide), vNc_ne (show 3 ≠ 1 by decide), vS1_s sb 1, vS1_s sz 1, vS1_ne (show 0 ≠ 1 by decide), vS1_ne (show 2 ≠ 1 by decide), vS1_ne (show 3 ≠ 1 by decide), vS1_ne (show 0 ≠ 1 by decide), vS1_ne (show 2 ≠ 1 by decide), vS1_ne (show 3 ≠ 1 by decide)]; simp only [List.append_assoc, List.cons_append, List.nil_append], rfl⟩
  | 2, _ => exact ⟨(((clsX g a aK aL aT kf ct ++ hallW g aK k lk) ++ hallW g aL m lm) ++ hallW g aT t lt) ++ (tapW g a tp tl nx tk sr va ++ ((a 4, .inl (kS g, 4, .inr (.inr (.inr (.inr (fun i => some (a (5 + 2 * i)))))))) :: (shS g a (sb 0) (sz 0) (nu 0) 0 ++ shS g a (sb 1) (sz 1) (nu 1) 1))), shS g a (sb 3) (sz 3) (nu 3) 3, by unfold clsW shW; simp only [List.append_assoc, List.cons_append, List.nil_append], by unfold clsW shW; rw [vNc_s nu 2, vNc_ne (show 0 ≠ 2 by decide), vNc_ne (show 1 ≠ 2 by decide), vNc_ne (show 3 ≠ 2 by decide), vS1_s sb 2, vS1_s sz 2, vS1_ne (show 0 ≠ 2 by decide), vS1_ne (show 1 ≠ 2 by decide), vS1_ne (show 3 ≠ 2 by decide), vS1_ne (show 0 ≠ 2 by decide), vS1_ne (show 1 ≠ 2 by decide), vS1_ne (show 3 ≠ 2 by decide)]; simp only [List.append_assoc, List.cons_append, List.nil_append], rfl⟩
  | 3, _ => exact ⟨(((clsX g a aK aL aT kf ct ++ hallW g aK k lk) ++ hallW g aL m lm) ++ hallW g aT t lt) ++ (tapW g a tp tl nx tk sr va ++ ((a 4, .inl (kS g, 4, .inr (.inr (.inr (.inr (fun i => some (a (5 + 2 * i)))))))) :: (shS g a (sb 0) (sz 0) (nu 0) 0 ++ (shS g a (sb 1) (sz 1) (nu 1) 1 ++ shS g a (sb 2) (sz 2) (nu 2) 2)))), [], by unfold clsW shW; simp only [List.append_assoc, List.cons_append, List.nil_append, List.append_nil], by unfold clsW shW; rw [vNc_s nu 3, vNc_ne (show 0 ≠ 3 by decide), vNc_ne (show 1 ≠ 3 by decide), vNc_ne (show 2 ≠ 3 by decide), vS1_s sb 3, vS1_s sz 3, vS1_ne (show 0 ≠ 3 by decide), vS1_ne (show 1 ≠ 3 by decide), vS1_ne (show 2 ≠ 3 by decide), vS1_ne (show 0 ≠ 3 by decide), vS1_ne (show 1 ≠ 3 by decide), vS1_ne (show 2 ≠ 3 by decide)]; simp only [List.append_assoc, List.cons_append, List.nil_append, List.append_nil], rfl⟩
end CW
/-- one cell alone -/
theorem fr_cell {ws ws2 : va_W} {q b : Nat} {e e2 : va_E} (h : ws[q]? = some (b, e)) (h2 : ws.set q (b, e2) = ws2) : Fr ws [(b, e)] [(b, e2)] ws2 := by
  have hl := (List.getElem?_eq_some_iff.mp h).1
  have he := (List.getElem?_eq_some_iff.mp h).2
  refine ⟨ws.take q, ws.drop (q + 1), ?_, ?_, rfl⟩
  · rw [List.singleton_append, ← he, List.getElem_cons_drop_succ_eq_drop, List.take_append_drop] <;> exact hl
  · rw [← h2, List.set_eq_take_append_cons_drop, if_pos hl]
    rfl
theorem kA_swap (X Y : va_W) (sz : Nat) : va_A (X ++ Y) sz = va_A (Y ++ X) sz := by
  have key : ∀ (X Y : va_W) (q : Nat), va_A (X ++ Y) sz q → va_A (Y ++ X) sz q := by
    rintro X Y q (⟨k, e, h⟩ | h)
    · have hm := List.mem_of_getElem? h
      have hm2 : (q, e) ∈ Y ++ X := List.mem_append.mpr ((List.mem_append.mp hm).symm)
      obtain ⟨j, hj⟩ := List.getElem?_of_mem hm2
      exact Or.inl ⟨j, e, hj⟩
    · exact Or.inr h
  exact funext fun q => propext ⟨key X Y q, key Y X q⟩
theorem kD_swap {A : Nat → Prop} {X Y : va_W} (h : va_D A (X ++ Y)) : va_D A (Y ++ X) := va_D.app (kD_suf h) (kD_pre h) (fun i j p q hp hq e => kD_ne h (List.mem_of_getElem? hq) (List.mem_of_getElem? hp) e.symm)
theorem kP_swap {D : va_G} {cl : List vw_C} {X Y : va_W} {H : Heap} (h : va_P D cl (X ++ Y) H) : va_P D cl (Y ++ X) H := kP_mem.mpr (fun q hq => kP_mem.mp h q (List.mem_append.mpr ((List.mem_append.mp hq).symm)))
/-- a contract over two parts, told in the other order -/
theorem CT_swap {l : Launch} {y : MethodName} {cc : ByteArray} {nL : Nat} {ret : Option FieldType} {rm : Room} {g : KG} {av : List Value} {X Y : va_W} {α S : Type} {ov : α → Option Value} {post : α → S → Prop} {X1 Y1 : S → va_W} (h : CT l y cc nL ret rm g av (X ++ Y) ov post (fun u => X1 u ++ Y1 u)) : CT l y cc nL ret rm g av (Y ++ X) ov post (fun u => Y1 u ++ X1 u) := by
  intro sz
  have h1 := h sz
  rw [kA_swap X Y sz] at h1
  intro p e ha hc hk s m args below hf hap hP hF
  obtain ⟨t, o, g1, g2, g3, ⟨⟨⟨r, u, q1, q2, q3⟩, q4⟩, L, q5, q6⟩⟩ := h1 p e ha hc hk s m args below hf hap (by
    obtain ⟨p1, p2, p3, p4, p5⟩ := hP
    exact ⟨p1, p2, kP_swap p3, p4, kD_swap p5⟩) hF
  exact ⟨t, o, g1, g2, g3, ⟨⟨⟨r, u, q1, q2, kP_swap q3⟩, q4⟩, L, q5, q6⟩⟩
