def vLt (c : Nat) : Bool := decide (97 ≤ c ∧ c ≤ 122)
def vDg (c : Nat) : Bool := decide (48 ≤ c ∧ c ≤ 57)
theorem vLt_iff {c : Nat} : vLt c = true ↔ 97 ≤ c ∧ c ≤ 122 := decide_eq_true_iff
theorem vDg_iff {c : Nat} : vDg c = true ↔ 48 ≤ c ∧ c ≤ 57 := decide_eq_true_iff
theorem vFst_pos {f : Nat → Bool} (h : f 0 = false) : ∀ {n : Nat}, 0 < n → 0 < vFst f n
  | 0, q => absurd q (by omega)
  | 1, _ => by
    rw [vFst, h, if_neg (by show ¬ _ < 0; omega)]
    exact Nat.zero_lt_one
  | n + 2, _ => by
    have := vFst_pos h (n := n + 1) (by omega)
    rw [vFst]
    split
    · omega
    · split <;> omega
theorem vFst_bef {f : Nat → Bool} : ∀ {n : Nat} (j : Nat), j < vFst f n → f j = false
  | 0, j, q => absurd q (Nat.not_lt_zero j)
  | n + 1, j, q => by
    rw [vFst] at q
    by_cases c : vFst f n < n
    · rw [if_pos c] at q
      exact vFst_bef j q
    · rw [if_neg c] at q
      have hl := vFst_le f n
      by_cases c2 : f n = true
      · rw [if_pos c2] at q
        exact vFst_bef (n := n) j (by omega)
      · rw [if_neg c2] at q
        rcases Nat.lt_or_ge j n with r | r
        · exact vFst_bef (n := n) j (by omega)
        · rw [show j = n by omega]
          exact Bool.eq_false_iff.mpr c2
/-- the first place from p on, before tl, where f fails, or tl -/
def vRt (f : Nat → Bool) (tl p : Nat) : Nat := p + vFst (fun i => !f (p + i)) (tl - p)
theorem vRt_end {f : Nat → Bool} {tl p q : Nat} (hp : p ≤ q) (h : ∀ i, p ≤ i → i < q → i < tl ∧ f i = true) (he : ¬ q < tl ∨ f q = false) : vRt f tl p = q := by
  unfold vRt
  by_cases c : q < tl
  · have hf : f q = false := he.resolve_left (fun x => x c)
    rw [vFst_at (i := q - p) (fun j hj => by rw [(h (p + j) (by omega) (by omega)).2]; rfl) (by rw [show p + (q - p) = q by omega, hf]; rfl) (by omega)]
    omega
  · rw [vFst_none (fun i hi => by rw [(h (p + i) (by omega) (by omega)).2]; rfl)]
    by_cases e : p = q
    · omega
    · have := (h (q - 1) (by omega) (by omega)).1
      omega
theorem vRt_ge (f : Nat → Bool) (tl p : Nat) : p ≤ vRt f tl p := Nat.le_add_right _ _
theorem vRt_le (f : Nat → Bool) {tl p : Nat} (h : p ≤ tl) : vRt f tl p ≤ tl := by
  have := vFst_le (fun i => !f (p + i)) (tl - p)
  unfold vRt
  omega
theorem vRt_gt {f : Nat → Bool} {tl p : Nat} (h : p < tl) (hf : f p = true) : p < vRt f tl p := by
  have := vFst_pos (f := fun i => !f (p + i)) (by show (!f (p + 0)) = false; rw [Nat.add_zero, hf]; rfl) (n := tl - p) (by omega)
  unfold vRt
  omega
theorem vRt_all {f : Nat → Bool} {tl p : Nat} (i : Nat) (h1 : p ≤ i) (h2 : i < vRt f tl p) : f i = true := by
  unfold vRt at h2
  have q := vFst_bef (f := fun i => !f (p + i)) (n := tl - p) (i - p) (by omega)
  have e : (!f (p + (i - p))) = false := q
  rw [show p + (i - p) = i by omega] at e
  simpa using e
section TK
variable (tp : Nat → Nat) (tl : Nat)
/-- where the token from p on stands; where one that stands at q ends; the token behind; its kind -/
def tkS (p : Nat) : Nat := vRt (fun i => tp i == 32) tl p
def tkE (q : Nat) : Nat := if q < tl then (if vLt (tp q) then vRt (fun i => vLt (tp i)) tl q else if vDg (tp q) then vRt (fun i => vDg (tp i)) tl q else q + 1) else q
def tkN (q : Nat) : Nat := tkS tp tl (tkE tp tl q)
def tkK (q : Nat) : Nat := if q < tl then (if vLt (tp q) then 1 else if vDg (tp q) then 2 else if tp q = 59 then 3 else 4) else 0
/-- the number told by the first n bytes from q on -/
def vNm (q : Nat) : Nat → Nat
  | 0 => 0
  | n + 1 => if 999 < vNm q n then vNm q n else 10 * vNm q n + tp (q + n) - 48
def hVal (q : Nat) : Nat := vNm tp q (tkE tp tl q - q)
def hNum (lo hi q : Nat) : Bool := decide (q < tl ∧ vDg (tp q) = true ∧ lo ≤ hVal tp tl q ∧ hVal tp tl q ≤ hi)
def vCo (q : Nat) : Nat → Nat
  | 0 => 0
  | n + 1 => if 36028797018963967 < vCo q n then vCo q n else 32 * vCo q n + (tp (q + n) - 96)
def hW (w : List Nat) (q : Nat) : Bool := decide (q < tl ∧ vLt (tp q) = true ∧ tkE tp tl q = q + w.length ∧ ∀ i, i < w.length → tp (q + i) = w.getD i 0)
end TK
theorem tkE_ge (tp : Nat → Nat) (tl q : Nat) : q ≤ tkE tp tl q := by
  unfold tkE
  split
  · split
    · exact vRt_ge _ _ _
    · split
      · exact vRt_ge _ _ _
      · omega
  · omega
theorem tkE_le {tp : Nat → Nat} {tl q : Nat} (h : q ≤ tl) : tkE tp tl q ≤ tl := by
  unfold tkE
  split
  · split
    · exact vRt_le _ h
    · split
      · exact vRt_le _ h
      · omega
  · omega
theorem tkE_gt {tp : Nat → Nat} {tl q : Nat} (h : q < tl) : q < tkE tp tl q := by
  unfold tkE
  rw [if_pos h]
  split
  · exact vRt_gt h (by assumption)
  · split
    · exact vRt_gt h (by assumption)
    · omega
theorem tkS_ge (tp : Nat → Nat) (tl q : Nat) : q ≤ tkS tp tl q := vRt_ge _ _ _
theorem tkS_le {tp : Nat → Nat} {tl q : Nat} (h : q ≤ tl) : tkS tp tl q ≤ tl := vRt_le _ h
theorem tkN_ge (tp : Nat → Nat) (tl q : Nat) : q ≤ tkN tp tl q := Nat.le_trans (tkE_ge tp tl q) (tkS_ge tp tl _)
theorem tkN_le {tp : Nat → Nat} {tl q : Nat} (h : q ≤ tl) : tkN tp tl q ≤ tl := tkS_le (tkE_le h)
theorem tkN_gt {tp : Nat → Nat} {tl q : Nat} (h : q < tl) : q < tkN tp tl q := Nat.lt_of_lt_of_le (tkE_gt h) (tkS_ge tp tl _)
theorem tkE_lt {tp : Nat → Nat} {tl q : Nat} (h : q < tl) (hl : vLt (tp q) = true) : tkE tp tl q = vRt (fun i => vLt (tp i)) tl q := by unfold tkE; rw [if_pos h, if_pos hl]
theorem tkE_dg {tp : Nat → Nat} {tl q : Nat} (h : q < tl) (hl : vDg (tp q) = true) : tkE tp tl q = vRt (fun i => vDg (tp i)) tl q := by
  have : ¬ vLt (tp q) = true := by rw [vLt_iff]; rw [vDg_iff] at hl; omega
  unfold tkE
  rw [if_pos h, if_neg this, if_pos hl]
theorem tkE_ot {tp : Nat → Nat} {tl q : Nat} (h : q < tl) (h1 : vLt (tp q) = false) (h2 : vDg (tp q) = false) : tkE tp tl q = q + 1 := by
  unfold tkE
  rw [if_pos h, h1, h2]
  rfl
theorem tkE_en {tp : Nat → Nat} {tl q : Nat} (h : ¬ q < tl) : tkE tp tl q = q := by unfold tkE; rw [if_neg h]
theorem lt_all {tp : Nat → Nat} {tl q : Nat} (h : q < tl) (hl : vLt (tp q) = true) (i : Nat) (hi : i < tkE tp tl q - q) : vLt (tp (q + i)) = true := by
  rw [tkE_lt h hl] at hi
  exact vRt_all (f := fun i => vLt (tp i)) (tl := tl) (p := q) (q + i) (by omega) (by omega)
theorem dg_all {tp : Nat → Nat} {tl q : Nat} (h : q < tl) (hl : vDg (tp q) = true) (i : Nat) (hi : i < tkE tp tl q - q) : vDg (tp (q + i)) = true := by
  rw [tkE_dg h hl] at hi
  exact vRt_all (f := fun i => vDg (tp i)) (tl := tl) (p := q) (q + i) (by omega) (by omega)
theorem vNm_le {tp : Nat → Nat} (h : ∀ i, tp i < 256) (q : Nat) : ∀ n, vNm tp q n ≤ 10250
  | 0 => Nat.zero_le _
  | n + 1 => by
    have := vNm_le h q n
    have := h (q + n)
    rw [vNm]
    split <;> omega
theorem vCo_le {tp : Nat → Nat} (h : ∀ i, tp i < 256) (q : Nat) : ∀ n, vCo tp q n ≤ 32 * 36028797018963967 + 255
  | 0 => Nat.zero_le _
  | n + 1 => by
    have := vCo_le h q n
    have := h (q + n)
    rw [vCo]
    split <;> omega
/-- words as numbers to the base of 32 -/
def cdL (w : List Nat) : Nat := w.foldl (fun a c => 32 * a + (c - 96)) 0
theorem cdL_app (w : List Nat) (c : Nat) : cdL (w ++ [c]) = 32 * cdL w + (c - 96) := by unfold cdL; rw [List.foldl_append]; rfl
def gdW (w : List Nat) : Prop := ∀ c, c ∈ w → 97 ≤ c ∧ c ≤ 122
theorem cdL_le : ∀ (n : Nat) (w : List Nat), w.length = n → gdW w → cdL w < 32 ^ n := by
  intro n
  induction n with
  | zero => intro w h _; rw [List.length_eq_zero_iff.mp h]; decide
  | succ n ih =>
    intro w h hg
    rcases List.eq_nil_or_concat w with e | ⟨v, c, e⟩
    · rw [e] at h; cases h
    · rw [List.concat_eq_append] at e
      subst e
      have hl : v.length = n := by simpa using h
      have h1 := ih v hl (fun c hc => hg c (List.mem_append_left _ hc))
      have h2 := hg c (List.mem_append_right _ (List.mem_singleton.mpr rfl))
      rw [cdL_app, Nat.pow_succ]
      omega
theorem gD_l {v : List Nat} {c i : Nat} (h : i < v.length) : (v ++ [c]).getD i 0 = v.getD i 0 := by
  rw [List.getD_eq_getElem?_getD, List.getD_eq_getElem?_getD, List.getElem?_append_left h]
theorem gD_r (v : List Nat) (c : Nat) : (v ++ [c]).getD v.length 0 = c := by
  rw [List.getD_eq_getElem?_getD, List.getElem?_append_right (Nat.le_refl _), Nat.sub_self]
  rfl
theorem vCo_eq (tp : Nat → Nat) (q : Nat) : ∀ (n : Nat) (w : List Nat), w.length ≤ 11 → gdW w → (∀ i, i < n → vLt (tp (q + i)) = true) → (vCo tp q n = cdL w ↔ n = w.length ∧ ∀ i, i < w.length → tp (q + i) = w.getD i 0) := by
  intro n
  induction n with
  | zero =>
    intro w hw hg _
    rcases List.eq_nil_or_concat w with e | ⟨v, c, e⟩
    · subst e
      exact ⟨fun _ => ⟨rfl, fun i hi => absurd hi (Nat.not_lt_zero i)⟩, fun _ => rfl⟩
    · rw [List.concat_eq_append] at e
      subst e
      have h2 := hg c (List.mem_append_right _ (List.mem_singleton.mpr rfl))
      rw [cdL_app, vCo]
      constructor
      · intro h; omega
      · intro h; have := h.1; simp at this
  | succ n ih =>
    intro w hw hg hl
    have hln := vLt_iff.mp (hl n (by omega))
    rcases List.eq_nil_or_concat w with e | ⟨v, c, e⟩
    · subst e
      rw [vCo]
      constructor
      · intro h
        have h0 : cdL [] = 0 := rfl
        rw [h0] at h
        split at h <;> omega
      · intro h; have := h.1; simp at this
    · rw [List.concat_eq_append] at e
      subst e
      have hv : v.length ≤ 10 := by simpa using hw
      have hgv : gdW v := fun c hc => hg c (List.mem_append_left _ hc)
      have h2 := hg c (List.mem_append_right _ (List.mem_singleton.mpr rfl))
      have hi := ih v (by omega) hgv (fun i hi => hl i (by omega))
      have hb := cdL_le v.length v rfl hgv
      have hb2 : 32 ^ v.length ≤ 32 ^ 10 := Nat.pow_le_pow_right (by decide) hv
      have hb3 : (32 : Nat) ^ 10 = 1125899906842624 := by decide
      rw [cdL_app, vCo]
      have key : ((if 36028797018963967 < vCo tp q n then vCo tp q n else 32 * vCo tp q n + (tp (q + n) - 96)) = 32 * cdL v + (c - 96)) ↔ vCo tp q n = cdL v ∧ tp (q + n) = c := by
        constructor
        · intro h
          split at h <;> omega
        · intro h
          rw [if_neg (by omega)]
          omega
      rw [key, hi]
      constructor
      · rintro ⟨⟨h3, h4⟩, h5⟩
        subst h3
        refine ⟨by simp, fun i hi => ?_⟩
        rw [List.length_append, List.length_singleton] at hi
        by_cases e : i = v.length
        · subst e
          rw [gD_r, h5]
        · rw [gD_l (by omega)]
          exact h4 i (by omega)
      · rintro ⟨h3, h4⟩
        have h3 : n = v.length := by simpa using h3
        subst h3
        refine ⟨⟨rfl, fun i hi => ?_⟩, ?_⟩
        · have := h4 i (by rw [List.length_append]; omega)
          rw [gD_l hi] at this
          exact this
        · have := h4 v.length (by rw [List.length_append, List.length_singleton]; omega)
          rw [gD_r] at this
          exact this
theorem hW_co {tp : Nat → Nat} {tl q : Nat} {w : List Nat} (hw : w.length ≤ 11) (hg : gdW w) (h : q < tl) (hl : vLt (tp q) = true) : vCo tp q (tkE tp tl q - q) = cdL w ↔ hW tp tl w q = true := by
  rw [vCo_eq tp q _ w hw hg (fun i hi => lt_all h hl i hi)]
  have := tkE_ge tp tl q
  unfold hW
  rw [decide_eq_true_iff]
  constructor
  · rintro ⟨h1, h2⟩; exact ⟨h, hl, by omega, h2⟩
  · rintro ⟨_, _, h1, h2⟩; exact ⟨by omega, h2⟩
theorem hW_no {tp : Nat → Nat} {tl q : Nat} {w : List Nat} (h : ¬ (q < tl ∧ vLt (tp q) = true)) : hW tp tl w q = false := decide_eq_false (fun x => h ⟨x.1, x.2.1⟩)
theorem hW_at {tp : Nat → Nat} {tl q : Nat} {w : List Nat} (h : hW tp tl w q = true) : q < tl := (of_decide_eq_true h).1
theorem hW_ne {tp : Nat → Nat} {tl q : Nat} {w v : List Nat} (h : hW tp tl w q = true) (hn : w.length ≠ v.length ∨ ∃ i, i < w.length ∧ w.getD i 0 ≠ v.getD i 0) : hW tp tl v q = false := by
  refine decide_eq_false (fun x => ?_)
  have y := of_decide_eq_true h
  have e : w.length = v.length := by have := x.2.2.1; have := y.2.2.1; omega
  rcases hn with c | ⟨i, h1, h2⟩
  · exact c e
  · exact h2 ((y.2.2.2 i h1).symm.trans (x.2.2.2 i (by omega)))
theorem hNum_at {tp : Nat → Nat} {tl q lo hi : Nat} (h : hNum tp tl lo hi q = true) : q < tl := (of_decide_eq_true h).1
theorem hNum_v {tp : Nat → Nat} {tl q lo hi : Nat} (h : hNum tp tl lo hi q = true) : lo ≤ hVal tp tl q ∧ hVal tp tl q ≤ hi := (of_decide_eq_true h).2.2
def wPe : List Nat := [112, 101, 114, 115, 111, 110]
theorem wPe_g : wPe.length ≤ 11 ∧ gdW wPe := ⟨by decide, by unfold gdW wPe; decide⟩
theorem wPe_c : cdL wPe = 542723566 := by decide
def wCo : List Nat := [99, 111, 111, 107]
theorem wCo_g : wCo.length ≤ 11 ∧ gdW wCo := ⟨by decide, by unfold gdW wCo; decide⟩
theorem wCo_c : cdL wCo = 114155 := by decide
def wBa : List Nat := [98, 97, 114, 114, 105, 115, 116, 101, 114]
theorem wBa_g : wBa.length ≤ 11 ∧ gdW wBa := ⟨by decide, by unfold gdW wBa; decide⟩
theorem wBa_c : cdL wBa = 2253324406962 := by decide
def wDo : List Nat := [100, 111, 103]
theorem wDo_g : wDo.length ≤ 11 ∧ gdW wDo := ⟨by decide, by unfold gdW wDo; decide⟩
theorem wDo_c : cdL wDo = 4583 := by decide
def wPf : List Nat := [112, 101, 114, 102, 117, 109, 101, 114]
theorem wPf_g : wPf.length ≤ 11 ∧ gdW wPf := ⟨by decide, by unfold gdW wPf; decide⟩
theorem wPf_c : cdL wPf = 555735495858 := by decide
def wHo : List Nat := [104, 111, 117, 110, 100]
theorem wHo_g : wHo.length ≤ 11 ∧ gdW wHo := ⟨by decide, by unfold gdW wHo; decide⟩
theorem wHo_c : cdL wHo = 8902084 := by decide
def wAt : List Nat := [97, 116]
theorem wAt_g : wAt.length ≤ 11 ∧ gdW wAt := ⟨by decide, by unfold gdW wAt; decide⟩
theorem wAt_c : cdL wAt = 52 := by decide
def wNo : List Nat := [110, 111, 115, 101]
theorem wNo_g : wNo.length ≤ 11 ∧ gdW wNo := ⟨by decide, by unfold gdW wNo; decide⟩
theorem wNo_c : cdL wNo = 474725 := by decide
def wCd : List Nat := [99, 111, 108, 100]
theorem wCd_g : wCd.length ≤ 11 ∧ gdW wCd := ⟨by decide, by unfold gdW wCd; decide⟩
theorem wCd_c : cdL wCd = 114052 := by decide
def wDi : List Nat := [100, 105, 100]
theorem wDi_g : wDi.length ≤ 11 ∧ gdW wDi := ⟨by decide, by unfold gdW wDi; decide⟩
theorem wDi_c : cdL wDi = 4388 := by decide
def wWi : List Nat := [119, 105, 110, 100]
theorem wWi_g : wWi.length ≤ 11 ∧ gdW wWi := ⟨by decide, by unfold gdW wWi; decide⟩
theorem wWi_c : cdL wWi = 763332 := by decide
def wDu : List Nat := [100, 117, 101]
theorem wDu_g : wDu.length ≤ 11 ∧ gdW wDu := ⟨by decide, by unfold gdW wDu; decide⟩
theorem wDu_c : cdL wDu = 4773 := by decide
section HT
variable (tp : Nat → Nat) (tl : Nat)
/-- which kind of person is named at q -/
def hKd (q : Nat) : Option Nat := if hW tp tl wPe q then some 0 else if hW tp tl wCo q then some 1 else if hW tp tl wBa q then some 2 else if hW tp tl wDo q then some 3 else if hW tp tl wPf q then some 4 else if hW tp tl wHo q then some 5 else none
/-- whether it could stand there, the token that is looked at then, the hall -/
def hNo (p q : Nat) (m : Nat → Nat) : Bool × Nat × (Nat → Nat) := if hW tp tl wNo q then (if hNum tp tl 0 9 (tkN tp tl q) then (true, tkN tp tl (tkN tp tl q), vUp m (4 + 10 * p + 2) (hVal tp tl (tkN tp tl q))) else (false, tkN tp tl q, m)) else (true, q, m)
def hCo (p q : Nat) (m : Nat → Nat) : Nat × (Nat → Nat) := if hW tp tl wCd q then (tkN tp tl q, vUp m (4 + 10 * p + 3) 1) else (q, m)
def hDi (p q : Nat) (m : Nat → Nat) : Bool × Nat × (Nat → Nat) := if hW tp tl wDi q then (if hNum tp tl 0 5 (tkN tp tl q) then (if hNum tp tl 0 99 (tkN tp tl (tkN tp tl q)) then (true, tkN tp tl (tkN tp tl (tkN tp tl q)), vUp m (4 + 10 * p + (4 + hVal tp tl (tkN tp tl q))) (hVal tp tl (tkN tp tl (tkN tp tl q)))) else (false, tkN tp tl (tkN tp tl q), m)) else (false, tkN tp tl q, m)) else (true, q, m)
def hP2 (p q : Nat) (m : Nat → Nat) : Bool × Nat × (Nat → Nat) := if (hNo tp tl p q m).1 then hDi tp tl p (hCo tp tl p (hNo tp tl p q m).2.1 (hNo tp tl p q m).2.2).1 (hCo tp tl p (hNo tp tl p q m).2.1 (hNo tp tl p q m).2.2).2 else hNo tp tl p q m
def hPe (kd q : Nat) (m : Nat → Nat) : Bool × Nat × (Nat → Nat) := if m 0 < 8 then (if hW tp tl wAt (tkN tp tl q) then (if hNum tp tl 0 47 (tkN tp tl (tkN tp tl q)) then hP2 tp tl (m 0) (tkN tp tl (tkN tp tl (tkN tp tl q))) (vJoin m kd (hVal tp tl (tkN tp tl (tkN tp tl q)))) else (false, tkN tp tl (tkN tp tl q), m)) else (false, tkN tp tl q, m)) else (false, q, m)
def hIt (q : Nat) (m : Nat → Nat) : Bool × Nat × (Nat → Nat) := match hKd tp tl q with
  | some kd => hPe tp tl kd q m
  | none => if hW tp tl wWi q then (if hNum tp tl 0 4 (tkN tp tl q) then (true, tkN tp tl (tkN tp tl q), vUp m 2 (hVal tp tl (tkN tp tl q))) else (false, tkN tp tl q, m)) else if hW tp tl wDu q then (if hNum tp tl 1 99 (tkN tp tl q) then (true, tkN tp tl (tkN tp tl q), vUp m 3 (hVal tp tl (tkN tp tl q))) else (false, tkN tp tl q, m)) else (false, q, m)
/-- all items: whether they could stand, how many, the token looked at, the hall -/
def hAl : Nat → Nat → Nat → (Nat → Nat) → Bool × Nat × Nat × (Nat → Nat)
  | 0, n, q, m => (false, n, q, m)
  | k + 1, n, q, m => if (hIt tp tl q m).1 then (if (hIt tp tl q m).2.1 < tl then (if tp (hIt tp tl q m).2.1 = 59 then hAl k (n + 1) (tkN tp tl (hIt tp tl q m).2.1) (hIt tp tl q m).2.2 else (false, n, (hIt tp tl q m).2.1, m)) else (true, n, (hIt tp tl q m).2.1, (hIt tp tl q m).2.2)) else (false, n, (hIt tp tl q m).2.1, m)
end HT
def sp_hall : KS → Int32 × KS := fun (m, k, kf, tp, tl, sb, sz, nu, ct) => if (hAl tp tl 120 1 (tkS tp tl 0) m).1 then (nI (hAl tp tl 120 1 (tkS tp tl 0) m).2.1, ((hAl tp tl 120 1 (tkS tp tl 0) m).2.2.2, k, kf, tp, 0, sb, sz, nu, ct)) else (-1 - nI (hAl tp tl 120 1 (tkS tp tl 0) m).2.2.1, (m, k, kf, tp, 0, sb, sz, nu, ct))
section HG
variable {tp : Nat → Nat} {tl : Nat}
theorem hNo_g (p q : Nat) (m : Nat → Nat) (h : q ≤ tl) : q ≤ (hNo tp tl p q m).2.1 ∧ (hNo tp tl p q m).2.1 ≤ tl := by
  have h1 := tkN_ge tp tl q
  have h2 := tkN_ge tp tl (tkN tp tl q)
  have h3 := tkN_le (tp := tp) h
  have h4 := tkN_le (tp := tp) h3
  unfold hNo
  (repeat' split) <;> (constructor <;> first | omega | exact h | exact h1 | exact h3 | exact h4 | exact Nat.le_refl q | exact Nat.le_trans h1 h2)
theorem hCo_g (p q : Nat) (m : Nat → Nat) (h : q ≤ tl) : q ≤ (hCo tp tl p q m).1 ∧ (hCo tp tl p q m).1 ≤ tl := by
  have h1 := tkN_ge tp tl q
  have h3 := tkN_le (tp := tp) h
  unfold hCo
  split <;> constructor <;> first | exact h1 | exact h3 | exact h | exact Nat.le_refl _
theorem hDi_g (p q : Nat) (m : Nat → Nat) (h : q ≤ tl) : q ≤ (hDi tp tl p q m).2.1 ∧ (hDi tp tl p q m).2.1 ≤ tl := by
  have h1 := tkN_ge tp tl q
  have h2 := tkN_ge tp tl (tkN tp tl q)
  have h3 := tkN_le (tp := tp) h
  have h4 := tkN_le (tp := tp) h3
  have h5 := tkN_ge tp tl (tkN tp tl (tkN tp tl q))
  have h6 := tkN_le (tp := tp) h4
  unfold hDi
  (repeat' split) <;> (constructor <;> first | omega | exact h | exact h1 | exact h3 | exact h4 | exact h6 | exact Nat.le_refl q | exact Nat.le_trans h1 h2 | exact Nat.le_trans h1 (Nat.le_trans h2 h5))
theorem hP2_g (p q : Nat) (m : Nat → Nat) (h : q ≤ tl) : q ≤ (hP2 tp tl p q m).2.1 ∧ (hP2 tp tl p q m).2.1 ≤ tl := by
  have h1 := hNo_g (tp := tp) p q m h
  unfold hP2
  split
  · have h2 := hCo_g (tp := tp) p (hNo tp tl p q m).2.1 (hNo tp tl p q m).2.2 h1.2
    have h3 := hDi_g (tp := tp) p (hCo tp tl p (hNo tp tl p q m).2.1 (hNo tp tl p q m).2.2).1 (hCo tp tl p (hNo tp tl p q m).2.1 (hNo tp tl p q m).2.2).2 h2.2
    exact ⟨Nat.le_trans h1.1 (Nat.le_trans h2.1 h3.1), h3.2⟩
  · exact h1
theorem hPe_g (kd q : Nat) (m : Nat → Nat) (h : q ≤ tl) (hq : q < tl) : q ≤ (hPe tp tl kd q m).2.1 ∧ (hPe tp tl kd q m).2.1 ≤ tl ∧ ((hPe tp tl kd q m).1 = true → q < (hPe tp tl kd q m).2.1) := by
  have h1 := tkN_gt (tp := tp) hq
  have h2 := tkN_ge tp tl (tkN tp tl q)
  have h3 := tkN_le (tp := tp) h
  have h4 := tkN_le (tp := tp) h3
  have h5 := tkN_ge tp tl (tkN tp tl (tkN tp tl q))
  have h6 := tkN_le (tp := tp) h4
  unfold hPe
  split
  · split
    · split
      · have h7 := hP2_g (tp := tp) (m 0) (tkN tp tl (tkN tp tl (tkN tp tl q))) (vJoin m kd (hVal tp tl (tkN tp tl (tkN tp tl q)))) h6
        exact ⟨by omega, h7.2, fun _ => by omega⟩
      · exact ⟨Nat.le_trans (Nat.le_of_lt h1) h2, h4, fun x => by cases x⟩
    · exact ⟨Nat.le_of_lt h1, h3, fun x => by cases x⟩
  · exact ⟨Nat.le_refl _, h, fun x => by cases x⟩
theorem hKd_at {q k : Nat} (h : hKd tp tl q = some k) : q < tl ∧ k < 6 := by
  unfold hKd at h
  (repeat' split at h) <;> first | (cases h; exact ⟨hW_at (by assumption), by omega⟩) | cases h
theorem hIt_g (q : Nat) (m : Nat → Nat) (h : q ≤ tl) : q ≤ (hIt tp tl q m).2.1 ∧ (hIt tp tl q m).2.1 ≤ tl ∧ ((hIt tp tl q m).1 = true → q < (hIt tp tl q m).2.1) := by
  have h1 := tkN_ge tp tl q
  have h2 := tkN_ge tp tl (tkN tp tl q)
  have h3 := tkN_le (tp := tp) h
  have h4 := tkN_le (tp := tp) h3
  unfold hIt
  cases e : hKd tp tl q with
  | some kd => exact hPe_g kd q m h (hKd_at e).1
  | none =>
    simp only []
    by_cases c1 : hW tp tl wWi q = true
    · rw [if_pos c1]
      have := tkN_gt (tp := tp) (hW_at c1)
      split
      · exact ⟨by show q ≤ tkN tp tl (tkN tp tl q); omega, h4, fun _ => by show q < tkN tp tl (tkN tp tl q); omega⟩
      · exact ⟨h1, h3, fun x => by cases x⟩
    · rw [if_neg c1]
      by_cases c2 : hW tp tl wDu q = true
      · rw [if_pos c2]
        have := tkN_gt (tp := tp) (hW_at c2)
        split
        · exact ⟨by show q ≤ tkN tp tl (tkN tp tl q); omega, h4, fun _ => by show q < tkN tp tl (tkN tp tl q); omega⟩
        · exact ⟨h1, h3, fun x => by cases x⟩
      · rw [if_neg c2]
        exact ⟨Nat.le_refl _, h, fun x => by cases x⟩
end HG
