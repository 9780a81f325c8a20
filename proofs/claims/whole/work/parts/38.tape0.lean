def vaN (tp : Nat → Nat) (tl q va : Nat) : Nat := if bD tp tl q then min (hVal tp tl q) 1000 else va
theorem nI_min {a b : Nat} (ha : a < 2 ^ 31) (hb : b < 2 ^ 31) : (if nI b < nI a then nI b else nI a) = nI (min a b) := by
  by_cases h : b < a
  · rw [if_pos (nI_lt h ha), Nat.min_eq_right (by omega)]
  · rw [if_neg (nI_nlt (by omega) hb), Nat.min_eq_left (by omega)]
theorem tkK_le (tp : Nat → Nat) (tl q : Nat) : tkK tp tl q ≤ 4 := by
  unfold tkK
  (repeat' split) <;> omega
theorem tkK_1 {tp : Nat → Nat} {tl q : Nat} : tkK tp tl q = 1 ↔ q < tl ∧ vLt (tp q) = true := by
  unfold tkK
  constructor
  · intro h
    (repeat' split at h) <;> first | exact ⟨by assumption, by assumption⟩ | omega
  · intro h
    rw [if_pos h.1, if_pos h.2]
theorem tkK_2 {tp : Nat → Nat} {tl q : Nat} : tkK tp tl q = 2 ↔ q < tl ∧ vDg (tp q) = true := by
  unfold tkK
  constructor
  · intro h
    (repeat' split at h) <;> first | exact ⟨by assumption, by assumption⟩ | omega
  · intro h
    have : ¬ vLt (tp q) = true := by rw [vLt_iff]; have := vDg_iff.mp h.2; omega
    rw [if_pos h.1, if_neg this, if_pos h.2]
theorem tkK_3 {tp : Nat → Nat} {tl q : Nat} : tkK tp tl q = 3 ↔ q < tl ∧ tp q = 59 := by
  unfold tkK
  constructor
  · intro h
    (repeat' split at h) <;> first | exact ⟨by assumption, by assumption⟩ | omega
  · intro h
    have h1 : ¬ vLt (tp q) = true := by rw [vLt_iff]; omega
    have h2 : ¬ vDg (tp q) = true := by rw [vDg_iff]; omega
    rw [if_pos h.1, if_neg h1, if_neg h2, if_pos h.2]
theorem tkK_0 {tp : Nat → Nat} {tl q : Nat} : tkK tp tl q = 0 ↔ ¬ q < tl := by
  unfold tkK
  constructor
  · intro h
    (repeat' split at h) <;> first | assumption | omega
  · intro h; rw [if_neg h]
theorem vaN_t {tp : Nat → Nat} {tl q va lo hi : Nat} (h : hNum tp tl lo hi q = true) (hh : hi ≤ 999) : vaN tp tl q va = hVal tp tl q := by
  have z := of_decide_eq_true h
  unfold vaN
  rw [if_pos (show bD tp tl q = true from decide_eq_true ⟨z.1, z.2.1⟩)]
  omega
theorem nm_s {v d : Nat} (hd : 48 ≤ d ∧ d ≤ 57) (f : Nat) (hv : v = min f 1000) : min (10 * v + d - 48) 1000 = min (if 999 < f then f else 10 * f + d - 48) 1000 := by
  subst hv
  split <;> omega
def kIx (k : Nat) : Nat := if k = 0 then 11 else 5 + k
theorem hKd_some {tp : Nat → Nat} {tl q : Nat} : ∀ {k : Nat}, k < 6 → (∀ j, j < k → hW tp tl (kWl.getD (kIx j) []) q = false) → hW tp tl (kWl.getD (kIx k) []) q = true → hKd tp tl q = some k
  | 0, _, _, h => if_pos h
  | 1, _, g, h => by
    have a0 : hW tp tl wPe q = false := g 0 (by omega)
    have b : hW tp tl wCo q = true := h
    unfold hKd; rw [a0, b]; rfl
  | 2, _, g, h => by
    have a0 : hW tp tl wPe q = false := g 0 (by omega)
    have a1 : hW tp tl wCo q = false := g 1 (by omega)
    have b : hW tp tl wBa q = true := h
    unfold hKd; rw [a0, a1, b]; rfl
  | 3, _, g, h => by
    have a0 : hW tp tl wPe q = false := g 0 (by omega)
    have a1 : hW tp tl wCo q = false := g 1 (by omega)
    have a2 : hW tp tl wBa q = false := g 2 (by omega)
    have b : hW tp tl wDo q = true := h
    unfold hKd; rw [a0, a1, a2, b]; rfl
  | 4, _, g, h => by
    have a0 : hW tp tl wPe q = false := g 0 (by omega)
    have a1 : hW tp tl wCo q = false := g 1 (by omega)
    have a2 : hW tp tl wBa q = false := g 2 (by omega)
    have a3 : hW tp tl wDo q = false := g 3 (by omega)
    have b : hW tp tl wPf q = true := h
    unfold hKd; rw [a0, a1, a2, a3, b]; rfl
  | 5, _, g, h => by
    have a0 : hW tp tl wPe q = false := g 0 (by omega)
    have a1 : hW tp tl wCo q = false := g 1 (by omega)
    have a2 : hW tp tl wBa q = false := g 2 (by omega)
    have a3 : hW tp tl wDo q = false := g 3 (by omega)
    have a4 : hW tp tl wPf q = false := g 4 (by omega)
    have b : hW tp tl wHo q = true := h
    unfold hKd; rw [a0, a1, a2, a3, a4, b]; rfl
  | k + 6, h, _, _ => absurd h (by omega)
theorem hKd_none {tp : Nat → Nat} {tl q : Nat} (g : ∀ j, j < 6 → hW tp tl (kWl.getD (kIx j) []) q = false) : hKd tp tl q = none := by
  have a0 : hW tp tl wPe q = false := g 0 (by omega)
  have a1 : hW tp tl wCo q = false := g 1 (by omega)
  have a2 : hW tp tl wBa q = false := g 2 (by omega)
  have a3 : hW tp tl wDo q = false := g 3 (by omega)
  have a4 : hW tp tl wPf q = false := g 4 (by omega)
  have a5 : hW tp tl wHo q = false := g 5 (by omega)
  unfold hKd
  rw [a0, a1, a2, a3, a4, a5]
  rfl
theorem kWl_b : ∀ i, i < 12 → ∀ j, j < 9 → (kWl.getD i []).getD j 0 ≤ 122 := by decide +kernel
set_option maxHeartbeats 4000000 in
set_option maxRecDepth 100000 in
theorem ct_X2_isLetter (l : Launch) (g : KG) (c : Nat)  (hc : c < 2 ^ 31) : CI l yX2_isLetter cX2_isLetter 1 (some .boolean) (rmK 0) g [.int (nI c)] ([]) (kb (vLt c)) ([]) := by
  refine k_bodyI (by decide) (Nat.le_of_ble_eq_true rfl) (fun _ _ h => by rw [h]; exact kb_nar _) (fun J hJ hR => ?_)
  show J ([]) [(0, .int (nI c))] 0 []
  refine k_iload_n hJ dX2_isLetter_0 0 rfl ?_
  refine k_bipush (v := nI 97) hJ dX2_isLetter_1 (by decide) ?_
  refine n_icmp_lt (tgt := 16) hJ dX2_isLetter_3 (by decide) (by omega) (by omega) (fun c3 => ?_) (fun c3 => ?_)
  · refine k_iconst (v := nI 0) hJ dX2_isLetter_16 (by decide) ?_
    exact hR _ _ _ () dX2_isLetter_17 (by show kb false = _; refine congrArg kb ?_; unfold vLt; (try simp only [vKd, vPl, vNs, vCd, vSc]); (repeat' split) <;> first | rfl | omega | (symm; exact decide_eq_true (by omega)) | (symm; exact decide_eq_false (by omega)))
  · refine k_iload_n hJ dX2_isLetter_6 0 rfl ?_
    refine k_bipush (v := nI 122) hJ dX2_isLetter_7 (by decide) ?_
    refine n_icmp_gt (tgt := 16) hJ dX2_isLetter_9 (by decide) (by omega) (by omega) (fun c9 => ?_) (fun c9 => ?_)
    · refine k_iconst (v := nI 0) hJ dX2_isLetter_16 (by decide) ?_
      exact hR _ _ _ () dX2_isLetter_17 (by show kb false = _; refine congrArg kb ?_; unfold vLt; (try simp only [vKd, vPl, vNs, vCd, vSc]); (repeat' split) <;> first | rfl | omega | (symm; exact decide_eq_true (by omega)) | (symm; exact decide_eq_false (by omega)))
    · refine k_iconst (v := nI 1) hJ dX2_isLetter_12 (by decide) ?_
      refine k_goto (tgt := 17) hJ dX2_isLetter_13 (by decide) ?_
      exact hR _ _ _ () dX2_isLetter_17 (by show kb true = _; refine congrArg kb ?_; unfold vLt; (try simp only [vKd, vPl, vNs, vCd, vSc]); (repeat' split) <;> first | rfl | omega | (symm; exact decide_eq_true (by omega)) | (symm; exact decide_eq_false (by omega)))
set_option maxHeartbeats 4000000 in
set_option maxRecDepth 100000 in
theorem ct_X2_isDigit (l : Launch) (g : KG) (c : Nat)  (hc : c < 2 ^ 31) : CI l yX2_isDigit cX2_isDigit 1 (some .boolean) (rmK 0) g [.int (nI c)] ([]) (kb (vDg c)) ([]) := by
  refine k_bodyI (by decide) (Nat.le_of_ble_eq_true rfl) (fun _ _ h => by rw [h]; exact kb_nar _) (fun J hJ hR => ?_)
  show J ([]) [(0, .int (nI c))] 0 []
  refine k_iload_n hJ dX2_isDigit_0 0 rfl ?_
  refine k_bipush (v := nI 48) hJ dX2_isDigit_1 (by decide) ?_
  refine n_icmp_lt (tgt := 16) hJ dX2_isDigit_3 (by decide) (by omega) (by omega) (fun c3 => ?_) (fun c3 => ?_)
  · refine k_iconst (v := nI 0) hJ dX2_isDigit_16 (by decide) ?_
    exact hR _ _ _ () dX2_isDigit_17 (by show kb false = _; refine congrArg kb ?_; unfold vDg; (try simp only [vKd, vPl, vNs, vCd, vSc]); (repeat' split) <;> first | rfl | omega | (symm; exact decide_eq_true (by omega)) | (symm; exact decide_eq_false (by omega)))
  · refine k_iload_n hJ dX2_isDigit_6 0 rfl ?_
    refine k_bipush (v := nI 57) hJ dX2_isDigit_7 (by decide) ?_
    refine n_icmp_gt (tgt := 16) hJ dX2_isDigit_9 (by decide) (by omega) (by omega) (fun c9 => ?_) (fun c9 => ?_)
    · refine k_iconst (v := nI 0) hJ dX2_isDigit_16 (by decide) ?_
      exact hR _ _ _ () dX2_isDigit_17 (by show kb false = _; refine congrArg kb ?_; unfold vDg; (try simp only [vKd, vPl, vNs, vCd, vSc]); (repeat' split) <;> first | rfl | omega | (symm; exact decide_eq_true (by omega)) | (symm; exact decide_eq_false (by omega)))
    · refine k_iconst (v := nI 1) hJ dX2_isDigit_12 (by decide) ?_
      refine k_goto (tgt := 17) hJ dX2_isDigit_13 (by decide) ?_
      exact hR _ _ _ () dX2_isDigit_17 (by show kb true = _; refine congrArg kb ?_; unfold vDg; (try simp only [vKd, vPl, vNs, vCd, vSc]); (repeat' split) <;> first | rfl | omega | (symm; exact decide_eq_true (by omega)) | (symm; exact decide_eq_false (by omega)))
set_option maxHeartbeats 4000000 in
set_option maxRecDepth 100000 in
theorem ct_X2_passWord (l : Launch) (g : KG) (a tp : Nat → Nat) (tl nx tk sr va : Nat)  (ht : tl ≤ 120) (htp : ∀ i, tp i < 256) (hnx : nx ≤ tl) : CV l yX2_passWord cX2_passWord 1 none (rmK 1) g [.ref (a 2)] (tapW g a tp tl nx tk sr va) (tapW g a tp tl (vRt (fun i => vLt (tp i)) tl nx) tk sr va) := by
  refine k_bodyV (by decide) (Nat.le_of_ble_eq_true rfl) (fun J hJ hR => ?_)
  show J (tapW g a tp tl nx tk sr va) [(0, .ref (a 2))] 0 []
  have L0 : ∀ (fu : Nat) (x : Nat), (nx ≤ x) → (x ≤ tl) → (tl + 1 ≤ x + fu) → (∀ i, nx ≤ i → i < x → i < tl ∧ vLt (tp i) = true) → J (tapW g a tp tl x tk sr va) [(0, .ref (a 2))] 0 [] := by
    intro fu
    induction fu with
    | zero => intro x hx hxl hf hI; exfalso; omega
    | succ fu ih =>
      intro x hx hxl hf hI
      refine k_aload_n hJ dX2_passWord_0 0 rfl ?_
      refine gf_X2_19 (v := .int (nI x)) hJ 0 rfl rfl dX2_passWord_1 ?_
      refine k_aload_n hJ dX2_passWord_4 0 rfl ?_
      refine gf_X2_9 (v := .int (nI tl)) hJ 0 rfl rfl dX2_passWord_5 ?_
      refine n_icmp_ge (tgt := 39) hJ dX2_passWord_8 (by decide) (by omega) (by omega) (fun c8 => ?_) (fun c8 => ?_)
      · exact k_eqw (ws2 := tapW g a tp tl (vRt (fun i => vLt (tp i)) tl nx) tk sr va) (by rw [vRt_end (f := fun i => vLt (tp i)) hx hI (Or.inl (by omega))]) (hR _ _ () () dX2_passWord_39 trivial)
      · refine k_aload_n hJ dX2_passWord_11 0 rfl ?_
        refine gf_X2_15 (v := .ref (a 3)) hJ 0 rfl rfl dX2_passWord_12 ?_
        refine k_aload_n hJ dX2_passWord_15 0 rfl ?_
        refine gf_X2_19 (v := .int (nI x)) hJ 0 rfl rfl dX2_passWord_16 ?_
        refine k_iald hJ 1 rfl x (by omega) (by decide) rfl dX2_passWord_19 ?_
        refine c_SI (As := [.int (nI (tp x))]) (st := []) hJ (ct_X2_isLetter l g (tp x) (Nat.lt_trans (htp _) (by decide))) Fr.none ms_X2_isLetter ml_X2_130 (kRm_ok (by decide) (by decide)) rfl rfl (Nat.le_of_ble_eq_true rfl) dX2_passWord_20 ?_
        refine b_if_eq (tgt := 39) hJ dX2_passWord_23 (by decide) (fun c23 => ?_) (fun c23 => ?_)
        · exact k_eqw (ws2 := tapW g a tp tl (vRt (fun i => vLt (tp i)) tl nx) tk sr va) (by rw [vRt_end (f := fun i => vLt (tp i)) hx hI (Or.inr c23)]) (hR _ _ () () dX2_passWord_39 trivial)
        · refine k_aload_n hJ dX2_passWord_26 0 rfl ?_
          refine k_dup hJ dX2_passWord_27 rfl ?_
          refine gf_X2_19 (v := .int (nI x)) hJ 0 rfl rfl dX2_passWord_28 ?_
          refine k_iconst (v := nI 1) hJ dX2_passWord_31 (by decide) ?_
          refine n_iadd hJ dX2_passWord_32 ?_
          refine pf_X2_19 (ws2 := tapW g a tp tl (x + 1) tk sr va) hJ 0 rfl rfl (Nat.le_of_ble_eq_true rfl) dX2_passWord_33 ?_
          refine k_goto (tgt := 0) hJ dX2_passWord_36 (by decide) ?_
          exact ih (x + 1) (by omega) (by omega) (by omega) (fun i a b => by rcases Nat.lt_or_ge i x with r | r; exact hI i a r; rw [show i = x by omega]; exact ⟨by omega, c23⟩)
  exact L0 (tl + 1) nx (by omega) (by omega) (by omega) (fun i a b => absurd a (by omega))
set_option maxHeartbeats 4000000 in
set_option maxRecDepth 100000 in
theorem ct_X2_passNumber (l : Launch) (g : KG) (a tp : Nat → Nat) (tl nx tk sr va : Nat)  (ht : tl ≤ 120) (htp : ∀ i, tp i < 256) (hnx : nx ≤ tl) : CV l yX2_passNumber cX2_passNumber 1 none (rmK 1) g [.ref (a 2)] (tapW g a tp tl nx tk sr va) (tapW g a tp tl (vRt (fun i => vDg (tp i)) tl nx) tk sr (min (vNm tp nx (vRt (fun i => vDg (tp i)) tl nx - nx)) 1000)) := by
  refine k_bodyV (by decide) (Nat.le_of_ble_eq_true rfl) (fun J hJ hR => ?_)
  show J (tapW g a tp tl nx tk sr va) [(0, .ref (a 2))] 0 []
  refine k_aload_n hJ dX2_passNumber_0 0 rfl ?_
  refine k_iconst (v := nI 0) hJ dX2_passNumber_1 (by decide) ?_
  refine pf_X2_28 (ws2 := tapW g a tp tl nx tk sr 0) hJ 0 rfl rfl (Nat.le_of_ble_eq_true rfl) dX2_passNumber_2 ?_
  have L5 : ∀ (fu : Nat) (x : Nat) (v : Nat), (nx ≤ x) → (x ≤ tl) → (tl + 1 ≤ x + fu) → (∀ i, nx ≤ i → i < x → i < tl ∧ vDg (tp i) = true) → (v = min (vNm tp nx (x - nx)) 1000) → J (tapW g a tp tl x tk sr v) [(0, .ref (a 2))] 5 [] := by
    intro fu
    induction fu with
    | zero => intro x v hx hxl hf hI hv; exfalso; omega
    | succ fu ih =>
      intro x v hx hxl hf hI hv
      refine k_aload_n hJ dX2_passNumber_5 0 rfl ?_
      refine gf_X2_19 (v := .int (nI x)) hJ 0 rfl rfl dX2_passNumber_6 ?_
      refine k_aload_n hJ dX2_passNumber_9 0 rfl ?_
      refine gf_X2_9 (v := .int (nI tl)) hJ 0 rfl rfl dX2_passNumber_10 ?_
      refine n_icmp_ge (tgt := 74) hJ dX2_passNumber_13 (by decide) (by omega) (by omega) (fun c13 => ?_) (fun c13 => ?_)
      · have hx1 : vRt (fun i => vDg (tp i)) tl nx = x := vRt_end (f := fun i => vDg (tp i)) hx hI (Or.inl (by omega))
        exact k_eqw (ws2 := tapW g a tp tl (vRt (fun i => vDg (tp i)) tl nx) tk sr (min (vNm tp nx (vRt (fun i => vDg (tp i)) tl nx - nx)) 1000)) (by rw [hx1, hv]) (hR _ _ () () dX2_passNumber_74 trivial)
      · refine k_aload_n hJ dX2_passNumber_16 0 rfl ?_
        refine gf_X2_15 (v := .ref (a 3)) hJ 0 rfl rfl dX2_passNumber_17 ?_
        refine k_aload_n hJ dX2_passNumber_20 0 rfl ?_
        refine gf_X2_19 (v := .int (nI x)) hJ 0 rfl rfl dX2_passNumber_21 ?_
        refine k_iald hJ 1 rfl x (by omega) (by decide) rfl dX2_passNumber_24 ?_
        refine c_SI (As := [.int (nI (tp x))]) (st := []) hJ (ct_X2_isDigit l g (tp x) (Nat.lt_trans (htp _) (by decide))) Fr.none ms_X2_isDigit ml_X2_137 (kRm_ok (by decide) (by decide)) rfl rfl (Nat.le_of_ble_eq_true rfl) dX2_passNumber_25 ?_
        refine b_if_eq (tgt := 74) hJ dX2_passNumber_28 (by decide) (fun c28 => ?_) (fun c28 => ?_)
        · have hx1 : vRt (fun i => vDg (tp i)) tl nx = x := vRt_end (f := fun i => vDg (tp i)) hx hI (Or.inr c28)
          exact k_eqw (ws2 := tapW g a tp tl (vRt (fun i => vDg (tp i)) tl nx) tk sr (min (vNm tp nx (vRt (fun i => vDg (tp i)) tl nx - nx)) 1000)) (by rw [hx1, hv]) (hR _ _ () () dX2_passNumber_74 trivial)
        · have hdg := vDg_iff.mp c28
          have hv9 : v ≤ 1000 := by omega
          refine k_aload_n hJ dX2_passNumber_31 0 rfl ?_
          refine k_bipush (v := nI 10) hJ dX2_passNumber_32 (by decide) ?_
          refine k_aload_n hJ dX2_passNumber_34 0 rfl ?_
          refine gf_X2_28 (v := .int (nI v)) hJ 0 rfl rfl dX2_passNumber_35 ?_
          refine n_imul hJ dX2_passNumber_38 ?_
          refine k_aload_n hJ dX2_passNumber_39 0 rfl ?_
          refine gf_X2_15 (v := .ref (a 3)) hJ 0 rfl rfl dX2_passNumber_40 ?_
          refine k_aload_n hJ dX2_passNumber_43 0 rfl ?_
          refine gf_X2_19 (v := .int (nI x)) hJ 0 rfl rfl dX2_passNumber_44 ?_
          refine k_iald hJ 1 rfl x (by omega) (by decide) rfl dX2_passNumber_47 ?_
          refine n_iadd hJ dX2_passNumber_48 ?_
          refine k_bipush (v := nI 48) hJ dX2_passNumber_49 (by decide) ?_
          refine n_isub hJ dX2_passNumber_51 (by omega) ?_
          refine k_sipush (v := nI 1000) hJ dX2_passNumber_52 (by decide) ?_
          refine k_mmin hJ ml_X2_143 (Nat.le_of_ble_eq_true rfl) dX2_passNumber_55 ?_
          refine k_eqs (st2 := [.int (nI (min (10 * v + tp x - 48) 1000)), .ref (a 2)]) (by rw [nI_min (by omega) (by decide)]) ?_
          refine pf_X2_28 (ws2 := tapW g a tp tl x tk sr (min (10 * v + tp x - 48) 1000)) hJ 0 rfl rfl (Nat.le_of_ble_eq_true rfl) dX2_passNumber_58 ?_
          refine k_aload_n hJ dX2_passNumber_61 0 rfl ?_
          refine k_dup hJ dX2_passNumber_62 rfl ?_
          refine gf_X2_19 (v := .int (nI x)) hJ 0 rfl rfl dX2_passNumber_63 ?_
          refine k_iconst (v := nI 1) hJ dX2_passNumber_66 (by decide) ?_
          refine n_iadd hJ dX2_passNumber_67 ?_
          refine pf_X2_19 (ws2 := tapW g a tp tl (x + 1) tk sr (min (10 * v + tp x - 48) 1000)) hJ 0 rfl rfl (Nat.le_of_ble_eq_true rfl) dX2_passNumber_68 ?_
          refine k_goto (tgt := 5) hJ dX2_passNumber_71 (by decide) ?_
          exact ih (x + 1) _ (by omega) (by omega) (by omega) (fun i a b => by rcases Nat.lt_or_ge i x with r | r; exact hI i a r; rw [show i = x by omega]; exact ⟨by omega, c28⟩) (by rw [show x + 1 - nx = (x - nx) + 1 by omega, vNm, show nx + (x - nx) = x by omega]; exact nm_s hdg _ hv)
  exact L5 (tl + 1) nx 0 (by omega) (by omega) (by omega) (fun i a b => absurd a (by omega)) (by rw [Nat.sub_self]; rfl)
set_option maxHeartbeats 4000000 in
set_option maxRecDepth 100000 in
theorem ct_X2_step (l : Launch) (g : KG) (a tp : Nat → Nat) (tl nx tk sr va : Nat)  (ht : tl ≤ 120) (htp : ∀ i, tp i < 256) (hnx : nx ≤ tl) : CV l yX2_step cX2_step 1 none (rmK 2) g [.ref (a 2)] (tapW g a tp tl nx tk sr va) (tapW g a tp tl (tkE tp tl (tkS tp tl nx)) (tkK tp tl (tkS tp tl nx)) (tkS tp tl nx) (vaN tp tl (tkS tp tl nx) va)) := by
  refine k_bodyV (by decide) (Nat.le_of_ble_eq_true rfl) (fun J hJ hR => ?_)
  show J (tapW g a tp tl nx tk sr va) [(0, .ref (a 2))] 0 []
  have L0 : ∀ (fu : Nat) (q : Nat), (nx ≤ q) → (q ≤ tl) → (tl + 1 ≤ q + fu) → (∀ i, nx ≤ i → i < q → i < tl ∧ tp i = 32) → J (tapW g a tp tl q tk sr va) [(0, .ref (a 2))] 0 [] := by
    intro fu
    induction fu with
    | zero => intro q hp hql hf hI; exfalso; omega
    | succ fu ih =>
      intro q hp hql hf hI
      refine k_aload_n hJ dX2_step_0 0 rfl ?_
      refine gf_X2_19 (v := .int (nI q)) hJ 0 rfl rfl dX2_step_1 ?_
      refine k_aload_n hJ dX2_step_4 0 rfl ?_
      refine gf_X2_9 (v := .int (nI tl)) hJ 0 rfl rfl dX2_step_5 ?_
      refine n_icmp_ge (tgt := 38) hJ dX2_step_8 (by decide) (by omega) (by omega) (fun c8 => ?_) (fun c8 => ?_)
      · have hq : tkS tp tl nx = q := tkS_end hp hI (fun z => by have := z.1; omega)
        refine k_aload_n hJ dX2_step_38 0 rfl ?_
        refine k_aload_n hJ dX2_step_39 0 rfl ?_
        refine gf_X2_19 (v := .int (nI q)) hJ 0 rfl rfl dX2_step_40 ?_
        refine pf_X2_25 (ws2 := tapW g a tp tl q tk q va) hJ 0 rfl rfl (Nat.le_of_ble_eq_true rfl) dX2_step_43 ?_
        refine k_aload_n hJ dX2_step_46 0 rfl ?_
        refine gf_X2_19 (v := .int (nI q)) hJ 0 rfl rfl dX2_step_47 ?_
        refine k_aload_n hJ dX2_step_50 0 rfl ?_
        refine gf_X2_9 (v := .int (nI tl)) hJ 0 rfl rfl dX2_step_51 ?_
        refine n_icmp_lt (tgt := 65) hJ dX2_step_54 (by decide) (by omega) (by omega) (fun c54 => ?_) (fun c54 => ?_)
        · refine k_aload_n hJ dX2_step_65 0 rfl ?_
          refine gf_X2_15 (v := .ref (a 3)) hJ 0 rfl rfl dX2_step_66 ?_
          refine k_aload_n hJ dX2_step_69 0 rfl ?_
          refine gf_X2_19 (v := .int (nI q)) hJ 0 rfl rfl dX2_step_70 ?_
          refine k_iald hJ 1 rfl q (by omega) (by decide) rfl dX2_step_73 ?_
          refine c_SI (As := [.int (nI (tp q))]) (st := []) hJ (ct_X2_isLetter l g (tp q) (Nat.lt_trans (htp _) (by decide))) Fr.none ms_X2_isLetter ml_X2_130 (kRm_ok (by decide) (by decide)) rfl rfl (Nat.le_of_ble_eq_true rfl) dX2_step_74 ?_
          refine b_if_eq (tgt := 92) hJ dX2_step_77 (by decide) (fun c77 => ?_) (fun c77 => ?_)
          · refine k_aload_n hJ dX2_step_92 0 rfl ?_
            refine gf_X2_15 (v := .ref (a 3)) hJ 0 rfl rfl dX2_step_93 ?_
            refine k_aload_n hJ dX2_step_96 0 rfl ?_
            refine gf_X2_19 (v := .int (nI q)) hJ 0 rfl rfl dX2_step_97 ?_
            refine k_iald hJ 1 rfl q (by omega) (by decide) rfl dX2_step_100 ?_
            refine c_SI (As := [.int (nI (tp q))]) (st := []) hJ (ct_X2_isDigit l g (tp q) (Nat.lt_trans (htp _) (by decide))) Fr.none ms_X2_isDigit ml_X2_137 (kRm_ok (by decide) (by decide)) rfl rfl (Nat.le_of_ble_eq_true rfl) dX2_step_101 ?_
            refine b_if_eq (tgt := 119) hJ dX2_step_104 (by decide) (fun c104 => ?_) (fun c104 => ?_)
            · refine k_aload_n hJ dX2_step_119 0 rfl ?_
              refine k_aload_n hJ dX2_step_120 0 rfl ?_
              refine gf_X2_15 (v := .ref (a 3)) hJ 0 rfl rfl dX2_step_121 ?_
              refine k_aload_n hJ dX2_step_124 0 rfl ?_
              refine gf_X2_19 (v := .int (nI q)) hJ 0 rfl rfl dX2_step_125 ?_
              refine k_iald hJ 1 rfl q (by omega) (by decide) rfl dX2_step_128 ?_
              refine k_bipush (v := nI 59) hJ dX2_step_129 (by decide) ?_
              refine n_icmp_ne (tgt := 138) hJ dX2_step_131 (by decide) (Nat.lt_trans (htp _) (by decide)) (by omega) (fun c131 => ?_) (fun c131 => ?_)
              · refine k_iconst (v := nI 4) hJ dX2_step_138 (by decide) ?_
                refine pf_X2_22 (ws2 := tapW g a tp tl q 4 q va) hJ 0 rfl rfl (Nat.le_of_ble_eq_true rfl) dX2_step_139 ?_
                refine k_aload_n hJ dX2_step_142 0 rfl ?_
                refine k_dup hJ dX2_step_143 rfl ?_
                refine gf_X2_19 (v := .int (nI q)) hJ 0 rfl rfl dX2_step_144 ?_
                refine k_iconst (v := nI 1) hJ dX2_step_147 (by decide) ?_
                refine n_iadd hJ dX2_step_148 ?_
                refine pf_X2_19 (ws2 := tapW g a tp tl (q + 1) 4 q va) hJ 0 rfl rfl (Nat.le_of_ble_eq_true rfl) dX2_step_149 ?_
                have e1 : tkE tp tl q = q + 1 := tkE_ot (by omega) c77 c104
                have e2 : tkK tp tl q = 4 := by unfold tkK; rw [if_pos (by omega), if_neg (by rw [c77]; decide), if_neg (by rw [c104]; decide), if_neg c131]
                have e3 : vaN tp tl q va = va := if_neg (fun z => by have := (of_decide_eq_true z).2; rw [c104] at this; cases this)
                exact k_eqw (ws2 := tapW g a tp tl (tkE tp tl (tkS tp tl nx)) (tkK tp tl (tkS tp tl nx)) (tkS tp tl nx) (vaN tp tl (tkS tp tl nx) va)) (by rw [hq, e2, e3, e1]) (hR _ _ () () dX2_step_152 trivial)
              · refine k_iconst (v := nI 3) hJ dX2_step_134 (by decide) ?_
                refine k_goto (tgt := 139) hJ dX2_step_135 (by decide) ?_
                refine pf_X2_22 (ws2 := tapW g a tp tl q 3 q va) hJ 0 rfl rfl (Nat.le_of_ble_eq_true rfl) dX2_step_139 ?_
                refine k_aload_n hJ dX2_step_142 0 rfl ?_
                refine k_dup hJ dX2_step_143 rfl ?_
                refine gf_X2_19 (v := .int (nI q)) hJ 0 rfl rfl dX2_step_144 ?_
                refine k_iconst (v := nI 1) hJ dX2_step_147 (by decide) ?_
                refine n_iadd hJ dX2_step_148 ?_
                refine pf_X2_19 (ws2 := tapW g a tp tl (q + 1) 3 q va) hJ 0 rfl rfl (Nat.le_of_ble_eq_true rfl) dX2_step_149 ?_
                have e1 : tkE tp tl q = q + 1 := tkE_ot (by omega) c77 c104
                have e2 : tkK tp tl q = 3 := tkK_3.mpr ⟨by omega, c131⟩
                have e3 : vaN tp tl q va = va := if_neg (fun z => by have := (of_decide_eq_true z).2; rw [c104] at this; cases this)
                exact k_eqw (ws2 := tapW g a tp tl (tkE tp tl (tkS tp tl nx)) (tkK tp tl (tkS tp tl nx)) (tkS tp tl nx) (vaN tp tl (tkS tp tl nx) va)) (by rw [hq, e2, e3, e1]) (hR _ _ () () dX2_step_152 trivial)
            · refine k_aload_n hJ dX2_step_107 0 rfl ?_
              refine k_iconst (v := nI 2) hJ dX2_step_108 (by decide) ?_
              refine pf_X2_22 (ws2 := tapW g a tp tl q 2 q va) hJ 0 rfl rfl (Nat.le_of_ble_eq_true rfl) dX2_step_109 ?_
              refine k_aload_n hJ dX2_step_112 0 rfl ?_
              refine c_VV (As := []) (st := []) hJ (ct_X2_passNumber l g a tp tl q 2 q va ht htp hql) (Fr.all rfl) mv_X2_passNumber ml_X2_140 0 rfl rfl rfl (kRm_ok (by decide) (by decide)) rfl rfl (Nat.le_of_ble_eq_true rfl) dX2_step_113 ?_
              refine k_goto (tgt := 152) hJ dX2_step_116 (by decide) ?_
              have e1 : tkE tp tl q = vRt (fun i => vDg (tp i)) tl q := tkE_dg (by omega) c104
              have e2 : tkK tp tl q = 2 := tkK_2.mpr ⟨by omega, c104⟩
              have e3 : vaN tp tl q va = min (vNm tp q (vRt (fun i => vDg (tp i)) tl q - q)) 1000 := by unfold vaN hVal; rw [if_pos (show bD tp tl q = true from decide_eq_true ⟨c54, c104⟩), e1]
              exact k_eqw (ws2 := tapW g a tp tl (tkE tp tl (tkS tp tl nx)) (tkK tp tl (tkS tp tl nx)) (tkS tp tl nx) (vaN tp tl (tkS tp tl nx) va)) (by rw [hq, e2, e3, e1]) (hR _ _ () () dX2_step_152 trivial)
          · refine k_aload_n hJ dX2_step_80 0 rfl ?_
            refine k_iconst (v := nI 1) hJ dX2_step_81 (by decide) ?_
            refine pf_X2_22 (ws2 := tapW g a tp tl q 1 q va) hJ 0 rfl rfl (Nat.le_of_ble_eq_true rfl) dX2_step_82 ?_
            refine k_aload_n hJ dX2_step_85 0 rfl ?_
            refine c_VV (As := []) (st := []) hJ (ct_X2_passWord l g a tp tl q 1 q va ht htp hql) (Fr.all rfl) mv_X2_passWord ml_X2_134 0 rfl rfl rfl (kRm_ok (by decide) (by decide)) rfl rfl (Nat.le_of_ble_eq_true rfl) dX2_step_86 ?_
            refine k_goto (tgt := 152) hJ dX2_step_89 (by decide) ?_
            have e1 : tkE tp tl q = vRt (fun i => vLt (tp i)) tl q := tkE_lt (by omega) c77
            have e2 : tkK tp tl q = 1 := tkK_1.mpr ⟨by omega, c77⟩
            have e3 : vaN tp tl q va = va := if_neg (fun z => absurd (z.symm.trans (bL_D (decide_eq_true ⟨c54, c77⟩))) (by decide))
            exact k_eqw (ws2 := tapW g a tp tl (tkE tp tl (tkS tp tl nx)) (tkK tp tl (tkS tp tl nx)) (tkS tp tl nx) (vaN tp tl (tkS tp tl nx) va)) (by rw [hq, e2, e3, e1]) (hR _ _ () () dX2_step_152 trivial)
        · refine k_aload_n hJ dX2_step_57 0 rfl ?_
          refine k_iconst (v := nI 0) hJ dX2_step_58 (by decide) ?_
          refine pf_X2_22 (ws2 := tapW g a tp tl q 0 q va) hJ 0 rfl rfl (Nat.le_of_ble_eq_true rfl) dX2_step_59 ?_
          refine k_goto (tgt := 152) hJ dX2_step_62 (by decide) ?_
          have e1 : tkE tp tl q = q := tkE_en (by omega)
          have e2 : tkK tp tl q = 0 := tkK_0.mpr (by omega)
          have e3 : vaN tp tl q va = va := if_neg (fun z => by have := (of_decide_eq_true z).1; omega)
          exact k_eqw (ws2 := tapW g a tp tl (tkE tp tl (tkS tp tl nx)) (tkK tp tl (tkS tp tl nx)) (tkS tp tl nx) (vaN tp tl (tkS tp tl nx) va)) (by rw [hq, e2, e3, e1]) (hR _ _ () () dX2_step_152 trivial)
      · have hb256 := htp q
        refine k_aload_n hJ dX2_step_11 0 rfl ?_
        refine gf_X2_15 (v := .ref (a 3)) hJ 0 rfl rfl dX2_step_12 ?_
        refine k_aload_n hJ dX2_step_15 0 rfl ?_
        refine gf_X2_19 (v := .int (nI q)) hJ 0 rfl rfl dX2_step_16 ?_
        refine k_iald hJ 1 rfl q (by omega) (by decide) rfl dX2_step_19 ?_
        refine k_bipush (v := nI 32) hJ dX2_step_20 (by decide) ?_
        refine n_icmp_ne (tgt := 38) hJ dX2_step_22 (by decide) (Nat.lt_trans (htp _) (by decide)) (by omega) (fun c22 => ?_) (fun c22 => ?_)
        · have hq : tkS tp tl nx = q := tkS_end hp hI (fun z => c22 z.2)
          refine k_aload_n hJ dX2_step_38 0 rfl ?_
          refine k_aload_n hJ dX2_step_39 0 rfl ?_
          refine gf_X2_19 (v := .int (nI q)) hJ 0 rfl rfl dX2_step_40 ?_
          refine pf_X2_25 (ws2 := tapW g a tp tl q tk q va) hJ 0 rfl rfl (Nat.le_of_ble_eq_true rfl) dX2_step_43 ?_
          refine k_aload_n hJ dX2_step_46 0 rfl ?_
          refine gf_X2_19 (v := .int (nI q)) hJ 0 rfl rfl dX2_step_47 ?_
          refine k_aload_n hJ dX2_step_50 0 rfl ?_
          refine gf_X2_9 (v := .int (nI tl)) hJ 0 rfl rfl dX2_step_51 ?_
          refine n_icmp_lt (tgt := 65) hJ dX2_step_54 (by decide) (by omega) (by omega) (fun c54 => ?_) (fun c54 => ?_)
          · refine k_aload_n hJ dX2_step_65 0 rfl ?_
            refine gf_X2_15 (v := .ref (a 3)) hJ 0 rfl rfl dX2_step_66 ?_
            refine k_aload_n hJ dX2_step_69 0 rfl ?_
            refine gf_X2_19 (v := .int (nI q)) hJ 0 rfl rfl dX2_step_70 ?_
            refine k_iald hJ 1 rfl q (by omega) (by decide) rfl dX2_step_73 ?_
            refine c_SI (As := [.int (nI (tp q))]) (st := []) hJ (ct_X2_isLetter l g (tp q) (Nat.lt_trans (htp _) (by decide))) Fr.none ms_X2_isLetter ml_X2_130 (kRm_ok (by decide) (by decide)) rfl rfl (Nat.le_of_ble_eq_true rfl) dX2_step_74 ?_
            refine b_if_eq (tgt := 92) hJ dX2_step_77 (by decide) (fun c77 => ?_) (fun c77 => ?_)
            · refine k_aload_n hJ dX2_step_92 0 rfl ?_
              refine gf_X2_15 (v := .ref (a 3)) hJ 0 rfl rfl dX2_step_93 ?_
              refine k_aload_n hJ dX2_step_96 0 rfl ?_
              refine gf_X2_19 (v := .int (nI q)) hJ 0 rfl rfl dX2_step_97 ?_
              refine k_iald hJ 1 rfl q (by omega) (by decide) rfl dX2_step_100 ?_
              refine c_SI (As := [.int (nI (tp q))]) (st := []) hJ (ct_X2_isDigit l g (tp q) (Nat.lt_trans (htp _) (by decide))) Fr.none ms_X2_isDigit ml_X2_137 (kRm_ok (by decide) (by decide)) rfl rfl (Nat.le_of_ble_eq_true rfl) dX2_step_101 ?_
              refine b_if_eq (tgt := 119) hJ dX2_step_104 (by decide) (fun c104 => ?_) (fun c104 => ?_)
              · refine k_aload_n hJ dX2_step_119 0 rfl ?_
                refine k_aload_n hJ dX2_step_120 0 rfl ?_
                refine gf_X2_15 (v := .ref (a 3)) hJ 0 rfl rfl dX2_step_121 ?_
                refine k_aload_n hJ dX2_step_124 0 rfl ?_
                refine gf_X2_19 (v := .int (nI q)) hJ 0 rfl rfl dX2_step_125 ?_
                refine k_iald hJ 1 rfl q (by omega) (by decide) rfl dX2_step_128 ?_
                refine k_bipush (v := nI 59) hJ dX2_step_129 (by decide) ?_
                refine n_icmp_ne (tgt := 138) hJ dX2_step_131 (by decide) (Nat.lt_trans (htp _) (by decide)) (by omega) (fun c131 => ?_) (fun c131 => ?_)
                · refine k_iconst (v := nI 4) hJ dX2_step_138 (by decide) ?_
                  refine pf_X2_22 (ws2 := tapW g a tp tl q 4 q va) hJ 0 rfl rfl (Nat.le_of_ble_eq_true rfl) dX2_step_139 ?_
                  refine k_aload_n hJ dX2_step_142 0 rfl ?_
                  refine k_dup hJ dX2_step_143 rfl ?_
                  refine gf_X2_19 (v := .int (nI q)) hJ 0 rfl rfl dX2_step_144 ?_
                  refine k_iconst (v := nI 1) hJ dX2_step_147 (by decide) ?_
                  refine n_iadd hJ dX2_step_148 ?_
                  refine pf_X2_19 (ws2 := tapW g a tp tl (q + 1) 4 q va) hJ 0 rfl rfl (Nat.le_of_ble_eq_true rfl) dX2_step_149 ?_
                  have e1 : tkE tp tl q = q + 1 := tkE_ot (by omega) c77 c104
                  have e2 : tkK tp tl q = 4 := by unfold tkK; rw [if_pos (by omega), if_neg (by rw [c77]; decide), if_neg (by rw [c104]; decide), if_neg c131]
                  have e3 : vaN tp tl q va = va := if_neg (fun z => by have := (of_decide_eq_true z).2; rw [c104] at this; cases this)
                  exact k_eqw (ws2 := tapW g a tp tl (tkE tp tl (tkS tp tl nx)) (tkK tp tl (tkS tp tl nx)) (tkS tp tl nx) (vaN tp tl (tkS tp tl nx) va)) (by rw [hq, e2, e3, e1]) (hR _ _ () () dX2_step_152 trivial)
                · refine k_iconst (v := nI 3) hJ dX2_step_134 (by decide) ?_
                  refine k_goto (tgt := 139) hJ dX2_step_135 (by decide) ?_
                  refine pf_X2_22 (ws2 := tapW g a tp tl q 3 q va) hJ 0 rfl rfl (Nat.le_of_ble_eq_true rfl) dX2_step_139 ?_
                  refine k_aload_n hJ dX2_step_142 0 rfl ?_
                  refine k_dup hJ dX2_step_143 rfl ?_
                  refine gf_X2_19 (v := .int (nI q)) hJ 0 rfl rfl dX2_step_144 ?_
                  refine k_iconst (v := nI 1) hJ dX2_step_147 (by decide) ?_
                  refine n_iadd hJ dX2_step_148 ?_
                  refine pf_X2_19 (ws2 := tapW g a tp tl (q + 1) 3 q va) hJ 0 rfl rfl (Nat.le_of_ble_eq_true rfl) dX2_step_149 ?_
                  have e1 : tkE tp tl q = q + 1 := tkE_ot (by omega) c77 c104
                  have e2 : tkK tp tl q = 3 := tkK_3.mpr ⟨by omega, c131⟩
                  have e3 : vaN tp tl q va = va := if_neg (fun z => by have := (of_decide_eq_true z).2; rw [c104] at this; cases this)
                  exact k_eqw (ws2 := tapW g a tp tl (tkE tp tl (tkS tp tl nx)) (tkK tp tl (tkS tp tl nx)) (tkS tp tl nx) (vaN tp tl (tkS tp tl nx) va)) (by rw [hq, e2, e3, e1]) (hR _ _ () () dX2_step_152 trivial)
              · refine k_aload_n hJ dX2_step_107 0 rfl ?_
                refine k_iconst (v := nI 2) hJ dX2_step_108 (by decide) ?_
                refine pf_X2_22 (ws2 := tapW g a tp tl q 2 q va) hJ 0 rfl rfl (Nat.le_of_ble_eq_true rfl) dX2_step_109 ?_
                refine k_aload_n hJ dX2_step_112 0 rfl ?_
                refine c_VV (As := []) (st := []) hJ (ct_X2_passNumber l g a tp tl q 2 q va ht htp hql) (Fr.all rfl) mv_X2_passNumber ml_X2_140 0 rfl rfl rfl (kRm_ok (by decide) (by decide)) rfl rfl (Nat.le_of_ble_eq_true rfl) dX2_step_113 ?_
                refine k_goto (tgt := 152) hJ dX2_step_116 (by decide) ?_
                have e1 : tkE tp tl q = vRt (fun i => vDg (tp i)) tl q := tkE_dg (by omega) c104
                have e2 : tkK tp tl q = 2 := tkK_2.mpr ⟨by omega, c104⟩
                have e3 : vaN tp tl q va = min (vNm tp q (vRt (fun i => vDg (tp i)) tl q - q)) 1000 := by unfold vaN hVal; rw [if_pos (show bD tp tl q = true from decide_eq_true ⟨c54, c104⟩), e1]
                exact k_eqw (ws2 := tapW g a tp tl (tkE tp tl (tkS tp tl nx)) (tkK tp tl (tkS tp tl nx)) (tkS tp tl nx) (vaN tp tl (tkS tp tl nx) va)) (by rw [hq, e2, e3, e1]) (hR _ _ () () dX2_step_152 trivial)
            · refine k_aload_n hJ dX2_step_80 0 rfl ?_
              refine k_iconst (v := nI 1) hJ dX2_step_81 (by decide) ?_
              refine pf_X2_22 (ws2 := tapW g a tp tl q 1 q va) hJ 0 rfl rfl (Nat.le_of_ble_eq_true rfl) dX2_step_82 ?_
              refine k_aload_n hJ dX2_step_85 0 rfl ?_
              refine c_VV (As := []) (st := []) hJ (ct_X2_passWord l g a tp tl q 1 q va ht htp hql) (Fr.all rfl) mv_X2_passWord ml_X2_134 0 rfl rfl rfl (kRm_ok (by decide) (by decide)) rfl rfl (Nat.le_of_ble_eq_true rfl) dX2_step_86 ?_
              refine k_goto (tgt := 152) hJ dX2_step_89 (by decide) ?_
              have e1 : tkE tp tl q = vRt (fun i => vLt (tp i)) tl q := tkE_lt (by omega) c77
              have e2 : tkK tp tl q = 1 := tkK_1.mpr ⟨by omega, c77⟩
              have e3 : vaN tp tl q va = va := if_neg (fun z => absurd (z.symm.trans (bL_D (decide_eq_true ⟨c54, c77⟩))) (by decide))
              exact k_eqw (ws2 := tapW g a tp tl (tkE tp tl (tkS tp tl nx)) (tkK tp tl (tkS tp tl nx)) (tkS tp tl nx) (vaN tp tl (tkS tp tl nx) va)) (by rw [hq, e2, e3, e1]) (hR _ _ () () dX2_step_152 trivial)
          · refine k_aload_n hJ dX2_step_57 0 rfl ?_
            refine k_iconst (v := nI 0) hJ dX2_step_58 (by decide) ?_
            refine pf_X2_22 (ws2 := tapW g a tp tl q 0 q va) hJ 0 rfl rfl (Nat.le_of_ble_eq_true rfl) dX2_step_59 ?_
            refine k_goto (tgt := 152) hJ dX2_step_62 (by decide) ?_
            have e1 : tkE tp tl q = q := tkE_en (by omega)
            have e2 : tkK tp tl q = 0 := tkK_0.mpr (by omega)
            have e3 : vaN tp tl q va = va := if_neg (fun z => by have := (of_decide_eq_true z).1; omega)
            exact k_eqw (ws2 := tapW g a tp tl (tkE tp tl (tkS tp tl nx)) (tkK tp tl (tkS tp tl nx)) (tkS tp tl nx) (vaN tp tl (tkS tp tl nx) va)) (by rw [hq, e2, e3, e1]) (hR _ _ () () dX2_step_152 trivial)
        · refine k_aload_n hJ dX2_step_25 0 rfl ?_
          refine k_dup hJ dX2_step_26 rfl ?_
          refine gf_X2_19 (v := .int (nI q)) hJ 0 rfl rfl dX2_step_27 ?_
          refine k_iconst (v := nI 1) hJ dX2_step_30 (by decide) ?_
          refine n_iadd hJ dX2_step_31 ?_
          refine pf_X2_19 (ws2 := tapW g a tp tl (q + 1) tk sr va) hJ 0 rfl rfl (Nat.le_of_ble_eq_true rfl) dX2_step_32 ?_
          refine k_goto (tgt := 0) hJ dX2_step_35 (by decide) ?_
          exact ih (q + 1) (by omega) (by omega) (by omega) (fun i a b => by rcases Nat.lt_or_ge i q with r | r; exact hI i a r; rw [show i = q by omega]; exact ⟨by omega, c22⟩)
  exact L0 (tl + 1) nx (by omega) (by omega) (by omega) (fun i a b => absurd a (by omega))
