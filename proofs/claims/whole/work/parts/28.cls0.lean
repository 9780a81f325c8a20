/-- what of the class no call's answer shows -/
abbrev CJ : Type := (Nat → Nat) × (Nat → Int32) × (Nat → Int32) × (Nat → Nat) × (Nat → Int32) × Nat × Nat × Nat × Nat
def clsA (g : KG) (a aK aL aT : Nat → Nat) : KS → CJ → va_W := fun (m, k, kf, tp, tl, sb, sz, nu, ct) (jk, lk, lm, t, lt, nx, tk, sr, va) => clsW g a aK aL aT kf ct (if kf then k else jk) lk m lm t lt tp tl nx tk sr va sb sz nu
theorem bit_a : ∀ p, p < 8 → ∀ s, s < 256 → (s &&& 2 ^ p = 0 ↔ s / 2 ^ p % 2 = 0) := by decide +kernel
theorem vPut_up (m : Nat → Nat) (p t v : Nat) : vPut m p t v = vUp m (if t = 0 then 2 else if t = 1 then 4 + 10 * p + 1 else 4 + 10 * p + 0) v := by
  unfold vPut
  (repeat' split) <;> rfl
set_option maxHeartbeats 4000000 in
set_option maxRecDepth 100000 in
theorem ct_X3_within (l : Launch) (g : KG) (x : Int32) (lo hi : Nat)  : CI l yX3_within cX3_within 3 (some .boolean) (rmK 0) g [.int x, .int (nI lo), .int (nI hi)] ([]) (kb (vBt x lo hi)) ([]) := by
  refine k_bodyI (by decide) (Nat.le_of_ble_eq_true rfl) (fun _ _ h => by rw [h]; exact kb_nar _) (fun J hJ hR => ?_)
  show J ([]) [(0, .int x), (1, .int (nI lo)), (2, .int (nI hi))] 0 []
  refine k_iload_n hJ dX3_within_0 0 rfl ?_
  refine k_iload_n hJ dX3_within_1 1 rfl ?_
  refine k_icmp_lt (tgt := 14) hJ dX3_within_2 (by decide) (fun c2 => ?_) (fun c2 => ?_)
  · refine k_iconst (v := nI 0) hJ dX3_within_14 (by decide) ?_
    exact hR _ _ _ () dX3_within_15 (by unfold vBt; simp only [c2, if_true, if_false]; rfl)
  · refine k_iload_n hJ dX3_within_5 0 rfl ?_
    refine k_iload_n hJ dX3_within_6 2 rfl ?_
    refine k_icmp_gt (tgt := 14) hJ dX3_within_7 (by decide) (fun c7 => ?_) (fun c7 => ?_)
    · refine k_iconst (v := nI 0) hJ dX3_within_14 (by decide) ?_
      exact hR _ _ _ () dX3_within_15 (by unfold vBt; simp only [c2, c7, if_true, if_false]; rfl)
    · refine k_iconst (v := nI 1) hJ dX3_within_10 (by decide) ?_
      refine k_goto (tgt := 15) hJ dX3_within_11 (by decide) ?_
      exact hR _ _ _ () dX3_within_15 (by unfold vBt; simp only [c2, c7, if_true, if_false]; rfl)
set_option maxHeartbeats 4000000 in
set_option maxRecDepth 100000 in
theorem ct_X3_isKind (l : Launch) (g : KG) (x : Int32)  : CI l yX3_isKind cX3_isKind 1 (some .boolean) (rmK 1) g [.int x] ([]) (kb (vIn x 6)) ([]) := by
  refine k_bodyI (by decide) (Nat.le_of_ble_eq_true rfl) (fun _ _ h => by rw [h]; exact kb_nar _) (fun J hJ hR => ?_)
  show J ([]) [(0, .int x)] 0 []
  refine k_iload_n hJ dX3_isKind_0 0 rfl ?_
  refine k_iconst (v := nI 0) hJ dX3_isKind_1 (by decide) ?_
  refine k_iconst (v := nI 5) hJ dX3_isKind_2 (by decide) ?_
  refine c_SI (As := [.int x, .int (nI 0), .int (nI 5)]) (st := []) hJ (ct_X3_within l g x 0 5) Fr.none ms_X3_within ml_X3_44 (kRm_ok (by decide) (by decide)) rfl rfl (Nat.le_of_ble_eq_true rfl) dX3_isKind_3 ?_
  refine k_eqs (st2 := [.int (kb (vIn x 6))]) (by rw [vBt_in _ (by decide)]) ?_
  exact hR _ _ _ () dX3_isKind_6 rfl
set_option maxHeartbeats 4000000 in
set_option maxRecDepth 100000 in
theorem ct_X3_isPlace (l : Launch) (g : KG) (x : Int32)  : CI l yX3_isPlace cX3_isPlace 1 (some .boolean) (rmK 1) g [.int x] ([]) (kb (vIn x 48)) ([]) := by
  refine k_bodyI (by decide) (Nat.le_of_ble_eq_true rfl) (fun _ _ h => by rw [h]; exact kb_nar _) (fun J hJ hR => ?_)
  show J ([]) [(0, .int x)] 0 []
  refine k_iload_n hJ dX3_isPlace_0 0 rfl ?_
  refine k_iconst (v := nI 0) hJ dX3_isPlace_1 (by decide) ?_
  refine k_bipush (v := nI 47) hJ dX3_isPlace_2 (by decide) ?_
  refine c_SI (As := [.int x, .int (nI 0), .int (nI 47)]) (st := []) hJ (ct_X3_within l g x 0 47) Fr.none ms_X3_within ml_X3_44 (kRm_ok (by decide) (by decide)) rfl rfl (Nat.le_of_ble_eq_true rfl) dX3_isPlace_4 ?_
  refine k_eqs (st2 := [.int (kb (vIn x 48))]) (by rw [vBt_in _ (by decide)]) ?_
  exact hR _ _ _ () dX3_isPlace_7 rfl
set_option maxHeartbeats 4000000 in
set_option maxRecDepth 100000 in
theorem ct_X3_isDeed (l : Launch) (g : KG) (x : Int32)  : CI l yX3_isDeed cX3_isDeed 1 (some .boolean) (rmK 1) g [.int x] ([]) (kb (vIn x 6)) ([]) := by
  refine k_bodyI (by decide) (Nat.le_of_ble_eq_true rfl) (fun _ _ h => by rw [h]; exact kb_nar _) (fun J hJ hR => ?_)
  show J ([]) [(0, .int x)] 0 []
  refine k_iload_n hJ dX3_isDeed_0 0 rfl ?_
  refine k_iconst (v := nI 0) hJ dX3_isDeed_1 (by decide) ?_
  refine k_iconst (v := nI 5) hJ dX3_isDeed_2 (by decide) ?_
  refine c_SI (As := [.int x, .int (nI 0), .int (nI 5)]) (st := []) hJ (ct_X3_within l g x 0 5) Fr.none ms_X3_within ml_X3_44 (kRm_ok (by decide) (by decide)) rfl rfl (Nat.le_of_ble_eq_true rfl) dX3_isDeed_3 ?_
  refine k_eqs (st2 := [.int (kb (vIn x 6))]) (by rw [vBt_in _ (by decide)]) ?_
  exact hR _ _ _ () dX3_isDeed_6 rfl
set_option maxHeartbeats 4000000 in
set_option maxRecDepth 100000 in
theorem ct_X3_isSheet (l : Launch) (g : KG) (x : Int32)  : CI l yX3_isSheet cX3_isSheet 1 (some .boolean) (rmK 1) g [.int x] ([]) (kb (vIn x 4)) ([]) := by
  refine k_bodyI (by decide) (Nat.le_of_ble_eq_true rfl) (fun _ _ h => by rw [h]; exact kb_nar _) (fun J hJ hR => ?_)
  show J ([]) [(0, .int x)] 0 []
  refine k_iload_n hJ dX3_isSheet_0 0 rfl ?_
  refine k_iconst (v := nI 0) hJ dX3_isSheet_1 (by decide) ?_
  refine k_iconst (v := nI 3) hJ dX3_isSheet_2 (by decide) ?_
  refine c_SI (As := [.int x, .int (nI 0), .int (nI 3)]) (st := []) hJ (ct_X3_within l g x 0 3) Fr.none ms_X3_within ml_X3_44 (kRm_ok (by decide) (by decide)) rfl rfl (Nat.le_of_ble_eq_true rfl) dX3_isSheet_3 ?_
  refine k_eqs (st2 := [.int (kb (vIn x 4))]) (by rw [vBt_in _ (by decide)]) ?_
  exact hR _ _ _ () dX3_isSheet_6 rfl
set_option maxHeartbeats 4000000 in
set_option maxRecDepth 100000 in
theorem ct_X3_exchange (l : Launch) (g : KG) (b : Nat) (f : Nat → Int32) (p v : Nat)  (hp : p < 8) : CI l yX3_exchange cX3_exchange 4 (some .int) (rmK 0) g [.ref b, .int (nI p), .int (nI v)] ([(b, .inl (kI g, 8, .inl f))]) (f p) ([(b, .inl (kI g, 8, .inl (upd f p (nI v))))]) := by
  refine k_bodyI (by decide) (Nat.le_of_ble_eq_true rfl) (fun _ _ _ => rfl) (fun J hJ hR => ?_)
  show J ([(b, .inl (kI g, 8, .inl f))]) [(0, .ref b), (1, .int (nI p)), (2, .int (nI v))] 0 []
  refine k_aload_n hJ dX3_exchange_0 0 rfl ?_
  refine k_iload_n hJ dX3_exchange_1 1 rfl ?_
  refine k_iald hJ 0 rfl p (by omega) (by decide) rfl dX3_exchange_2 ?_
  refine k_istore_n (lv1 := [(0, .ref b), (1, .int (nI p)), (2, .int (nI v)), (3, .int (f p))]) hJ dX3_exchange_3 (by decide) [1, 2, 3, 0] rfl ?_
  refine k_aload_n hJ dX3_exchange_4 0 rfl ?_
  refine k_iload_n hJ dX3_exchange_5 1 rfl ?_
  refine k_iload_n hJ dX3_exchange_6 2 rfl ?_
  refine k_iast hJ 0 rfl p (by omega) (by decide) rfl dX3_exchange_7 ?_
  refine k_iload_n hJ dX3_exchange_8 3 rfl ?_
  exact hR _ _ _ () dX3_exchange_9 rfl
set_option maxHeartbeats 4000000 in
set_option maxRecDepth 100000 in
theorem ct_X3_isMajority (l : Launch) (g : KG) (j f : Nat)  (hj : j < 256) : CI l yX3_isMajority cX3_isMajority 2 (some .boolean) (rmK 1) g [.int (nI j), .int (nI f)] ([]) (kb (vConv j f)) ([]) := by
  refine k_bodyI (by decide) (Nat.le_of_ble_eq_true rfl) (fun _ _ h => by rw [h]; exact kb_nar _) (fun J hJ hR => ?_)
  have h1 := vPop_le (s := j)
  have h2 := vPop_le (s := j &&& f)
  show J ([]) [(0, .int (nI j)), (1, .int (nI f))] 0 []
  refine k_iconst (v := nI 2) hJ dX3_isMajority_0 (by decide) ?_
  refine k_iload_n hJ dX3_isMajority_1 0 rfl ?_
  refine k_iload_n hJ dX3_isMajority_2 1 rfl ?_
  refine n_iand hJ dX3_isMajority_3 ?_
  refine c_SI (As := [.int (nI (j &&& f))]) (st := [.int (nI 2)]) hJ (ct_J6_bitCount_0f7a4 l g (j &&& f) (by first | omega | exact and_lt256 (by omega))) Fr.none ms_J6_bitCount_0f7a4 ml_X3_165 (kRm_ok (by decide) (by decide)) rfl rfl (Nat.le_of_ble_eq_true rfl) dX3_isMajority_4 ?_
  refine n_imul hJ dX3_isMajority_7 ?_
  refine k_iload_n hJ dX3_isMajority_8 0 rfl ?_
  refine c_SI (As := [.int (nI j)]) (st := [.int (nI (2 * (vPop (j &&& f))))]) hJ (ct_J6_bitCount_0f7a4 l g j (by first | omega | exact and_lt256 (by omega))) Fr.none ms_J6_bitCount_0f7a4 ml_X3_165 (kRm_ok (by decide) (by decide)) rfl rfl (Nat.le_of_ble_eq_true rfl) dX3_isMajority_9 ?_
  refine n_icmp_le (tgt := 19) hJ dX3_isMajority_12 (by decide) (by omega) (by omega) (fun c12 => ?_) (fun c12 => ?_)
  · refine k_iconst (v := nI 0) hJ dX3_isMajority_19 (by decide) ?_
    exact hR _ _ _ () dX3_isMajority_20 (by show kb false = _; refine congrArg kb ?_; unfold vConv; (try simp only [vKd, vPl, vNs, vCd, vSc]); (repeat' split) <;> first | rfl | omega | (symm; exact decide_eq_true (by omega)) | (symm; exact decide_eq_false (by omega)))
  · refine k_iconst (v := nI 1) hJ dX3_isMajority_15 (by decide) ?_
    refine k_goto (tgt := 20) hJ dX3_isMajority_16 (by decide) ?_
    exact hR _ _ _ () dX3_isMajority_20 (by show kb true = _; refine congrArg kb ?_; unfold vConv; (try simp only [vKd, vPl, vNs, vCd, vSc]); (repeat' split) <;> first | rfl | omega | (symm; exact decide_eq_true (by omega)) | (symm; exact decide_eq_false (by omega)))
set_option maxHeartbeats 4000000 in
set_option maxRecDepth 100000 in
theorem ct_X3_isJuryAgainst (l : Launch) (g : KG) (S p n f : Nat)  (hS : S < 256) (hp : p < 8) (hn : n < 2 ^ 31) : CI l yX3_isJuryAgainst cX3_isJuryAgainst 4 (some .boolean) (rmK 2) g [.int (nI S), .int (nI p), .int (nI n), .int (nI f)] ([]) (kb (vJu f p n S)) ([]) := by
  refine k_bodyI (by decide) (Nat.le_of_ble_eq_true rfl) (fun _ _ h => by rw [h]; exact kb_nar _) (fun J hJ hR => ?_)
  have h1 := vPop_le (s := S)
  have h2 : S &&& 2 ^ p < 256 := and_lt256 hS
  show J ([]) [(0, .int (nI S)), (1, .int (nI p)), (2, .int (nI n)), (3, .int (nI f))] 0 []
  refine k_iload_n hJ dX3_isJuryAgainst_0 0 rfl ?_
  refine k_iconst (v := nI 1) hJ dX3_isJuryAgainst_1 (by decide) ?_
  refine k_iload_n hJ dX3_isJuryAgainst_2 1 rfl ?_
  refine n_ibit hJ dX3_isJuryAgainst_3 (by omega) ?_
  refine n_iand hJ dX3_isJuryAgainst_4 ?_
  refine n_if_ne (tgt := 28) hJ dX3_isJuryAgainst_5 (by decide) (by omega) (fun c5 => ?_) (fun c5 => ?_)
  · refine k_iconst (v := nI 0) hJ dX3_isJuryAgainst_28 (by decide) ?_
    exact hR _ _ _ () dX3_isJuryAgainst_29 (by show kb false = _; refine congrArg kb ?_; unfold vJu; rw [beq_false_of_ne (fun q => c5 ((bit_a p hp S hS).mpr q))]; rfl)
  · refine k_iload_n hJ dX3_isJuryAgainst_8 0 rfl ?_
    refine c_SI (As := [.int (nI S)]) (st := []) hJ (ct_J6_bitCount_0f7a4 l g S (by first | omega | exact and_lt256 (by omega))) Fr.none ms_J6_bitCount_0f7a4 ml_X3_165 (kRm_ok (by decide) (by decide)) rfl rfl (Nat.le_of_ble_eq_true rfl) dX3_isJuryAgainst_9 ?_
    refine k_iload_n hJ dX3_isJuryAgainst_12 2 rfl ?_
    refine n_icmp_ne (tgt := 28) hJ dX3_isJuryAgainst_13 (by decide) (by omega) (by omega) (fun c13 => ?_) (fun c13 => ?_)
    · refine k_iconst (v := nI 0) hJ dX3_isJuryAgainst_28 (by decide) ?_
      exact hR _ _ _ () dX3_isJuryAgainst_29 (by show kb false = _; refine congrArg kb ?_; unfold vJu; rw [beq_false_of_ne c13, Bool.and_false]; rfl)
    · refine k_iload_n hJ dX3_isJuryAgainst_16 0 rfl ?_
      refine k_iload_n hJ dX3_isJuryAgainst_17 3 rfl ?_
      refine c_SI (As := [.int (nI S), .int (nI f)]) (st := []) hJ (ct_X3_isMajority l g S f (by omega)) Fr.none ms_X3_isMajority ml_X3_139 (kRm_ok (by decide) (by decide)) rfl rfl (Nat.le_of_ble_eq_true rfl) dX3_isJuryAgainst_18 ?_
      refine b_if_eq (tgt := 28) hJ dX3_isJuryAgainst_21 (by decide) (fun c21 => ?_) (fun c21 => ?_)
      · refine k_iconst (v := nI 0) hJ dX3_isJuryAgainst_28 (by decide) ?_
        exact hR _ _ _ () dX3_isJuryAgainst_29 (by show kb false = _; refine congrArg kb ?_; unfold vJu; rw [c21, Bool.and_false])
      · refine k_iconst (v := nI 1) hJ dX3_isJuryAgainst_24 (by decide) ?_
        refine k_goto (tgt := 29) hJ dX3_isJuryAgainst_25 (by decide) ?_
        exact hR _ _ _ () dX3_isJuryAgainst_29 (by show kb true = _; refine congrArg kb ?_; unfold vJu; rw [(bit_a p hp S hS).mp c5, c13, c21]; simp)
set_option maxHeartbeats 4000000 in
set_option maxRecDepth 100000 in
theorem ct_X3_tell (l : Launch) (g : KG) (a aK aL aT : Nat → Nat) (kf : Bool) (ct : Nat → Int32) (i : Nat)  (hi : i < 7) : CI l yX3_tell cX3_tell 3 (some .int) (rmK 1) g [.ref (a 0), .int (kFi i)] (clsX g a aK aL aT kf ct) (kFi i) (clsX g a aK aL aT kf (kTe ct i)) := by
  refine k_bodyI (by decide) (Nat.le_of_ble_eq_true rfl) (fun _ _ _ => rfl) (fun J hJ hR => ?_)
  show J (clsX g a aK aL aT kf ct) [(0, .ref (a 0)), (1, .int (kFi i))] 0 []
  refine k_ldc hJ dX3_tell_0 cw_X3_55 ?_
  refine k_iload_n hJ dX3_tell_2 1 rfl ?_
  refine k_isub hJ dX3_tell_3 ?_
  refine k_eqs (st2 := [.int (nI i)]) (by rw [kFi_ix i hi]) ?_
  refine k_istore_n (lv1 := [(0, .ref (a 0)), (1, .int (kFi i)), (2, .int (nI i))]) hJ dX3_tell_4 (by decide) [1, 2, 0] rfl ?_
  refine k_iload_n hJ dX3_tell_5 2 rfl ?_
  refine k_iconst (v := nI 0) hJ dX3_tell_6 (by decide) ?_
  refine k_bipush (v := nI 6) hJ dX3_tell_7 (by decide) ?_
  refine c_SI (As := [.int (nI i), .int (nI 0), .int (nI 6)]) (st := []) hJ (ct_X3_within l g (nI i) 0 6) Fr.none ms_X3_within ml_X3_44 (kRm_ok (by decide) (by decide)) rfl rfl (Nat.le_of_ble_eq_true rfl) dX3_tell_9 ?_
  refine k_eqs (st2 := [.int (kb (vIn (nI i) 7))]) (by rw [vBt_in _ (by decide)]) ?_
  refine b_if_eq (tgt := 25) hJ dX3_tell_12 (by decide) (fun c12 => ?_) (fun c12 => ?_)
  · exact absurd c12 (by rw [vIn_nI hi (by decide)]; decide)
  · refine k_aload_n hJ dX3_tell_15 0 rfl ?_
    refine gf_X3_36 (v := .ref (a 1)) hJ 0 rfl rfl dX3_tell_16 ?_
    refine k_iload_n hJ dX3_tell_19 2 rfl ?_
    refine k_dup2 hJ dX3_tell_20 rfl rfl ?_
    refine k_iald hJ 1 rfl i (by omega) (by decide) rfl dX3_tell_21 ?_
    refine k_iconst (v := nI 1) hJ dX3_tell_22 (by decide) ?_
    refine k_iadd hJ dX3_tell_23 ?_
    refine k_iast (ws2 := clsX g a aK aL aT kf (upd ct i ((ct i) + (nI 1)))) hJ 1 rfl i (by omega) (by decide) rfl dX3_tell_24 ?_
    refine k_iload_n hJ dX3_tell_25 1 rfl ?_
    exact hR _ _ _ () dX3_tell_26 rfl
set_option maxHeartbeats 4000000 in
set_option maxRecDepth 100000 in
theorem ct_X1_renew (l : Launch) (g : KG) (a : Nat → Nat) (c z : Nat) (f : Nat → Int64) (q : Nat) (c2 z2 : Nat)  : CV l yX1_renew cX1_renew 4 none (rmK 0) g [.ref (a (5 + 2 * q)), .int (nI c2), .int (nI z2)] (shS g a c z f q) (shS g a c2 z2 (fun _ => 0) q) := by
  refine k_bodyV (by decide) (Nat.le_of_ble_eq_true rfl) (fun J hJ hR => ?_)
  show J (shS g a c z f q) [(0, .ref (a (5 + 2 * q))), (1, .int (nI c2)), (2, .int (nI z2))] 0 []
  have L12 : ∀ (fu : Nat) (i : Nat) (F : Nat → Int64), (i ≤ 40) → (41 ≤ i + fu) → (∀ j, j < i → F j = 0) → J (shS g a c2 z2 F q) [(0, .ref (a (5 + 2 * q))), (1, .int (nI c2)), (2, .int (nI z2)), (3, .int (nI i))] 12 [] := by
    intro fu
    induction fu with
    | zero => intro i F hi hf hF; exfalso; omega
    | succ fu ih =>
      intro i F hi hf hF
      refine k_iload_n hJ dX1_renew_12 3 rfl ?_
      refine k_bipush (v := nI 40) hJ dX1_renew_13 (by decide) ?_
      refine n_icmp_ge (tgt := 31) hJ dX1_renew_15 (by decide) (by omega) (by omega) (fun c15 => ?_) (fun c15 => ?_)
      · exact k_ws (ws2 := shS g a c2 z2 (fun _ => 0) q) hJ (fun H hP => kP_arrL (q := 1) (f2 := fun _ => 0) rfl (fun j hj => (hF j (by omega)).symm) hP) rfl (hR _ _ () () dX1_renew_31 trivial)
      · refine k_aload_n hJ dX1_renew_18 0 rfl ?_
        refine gf_X1_18 (v := .ref (a (6 + 2 * q))) hJ 0 rfl rfl dX1_renew_19 ?_
        refine k_iload_n hJ dX1_renew_22 3 rfl ?_
        refine k_lconst (v := 0) hJ dX1_renew_23 (by decide) ?_
        refine k_last (ws2 := shS g a c2 z2 (vp_updL F i 0) q) hJ 1 rfl i (by omega) (by decide) rfl dX1_renew_24 ?_
        refine n_iinc (b := 1) (lv1 := [(0, .ref (a (5 + 2 * q))), (1, .int (nI c2)), (2, .int (nI z2)), (3, .int (nI (i + 1)))]) hJ dX1_renew_25 3 rfl (by decide) (by decide) [1, 2, 3, 0] rfl ?_
        refine k_goto (tgt := 12) hJ dX1_renew_28 (by decide) ?_
        refine ih (i + 1) _ (by omega) (by omega) (fun j hj => ?_)
        by_cases e : j = i
        · rw [e, pk_uLs]
        · rw [pk_uLn e]; exact hF j (by omega)
  refine k_aload_n hJ dX1_renew_0 0 rfl ?_
  refine k_iload_n hJ dX1_renew_1 1 rfl ?_
  refine pf_X1_9 (ws2 := shS g a c2 z f q) hJ 0 rfl rfl (Nat.le_of_ble_eq_true rfl) dX1_renew_2 ?_
  refine k_aload_n hJ dX1_renew_5 0 rfl ?_
  refine k_iload_n hJ dX1_renew_6 2 rfl ?_
  refine pf_X1_15 (ws2 := shS g a c2 z2 f q) hJ 0 rfl rfl (Nat.le_of_ble_eq_true rfl) dX1_renew_7 ?_
  refine k_iconst (v := nI 0) hJ dX1_renew_10 (by decide) ?_
  refine k_istore_n (lv1 := [(0, .ref (a (5 + 2 * q))), (1, .int (nI c2)), (2, .int (nI z2)), (3, .int (nI 0))]) hJ dX1_renew_11 (by decide) [1, 2, 3, 0] rfl ?_
  exact L12 41 0 f (by omega) (by omega) (fun j hj => absurd hj (by omega))
set_option maxHeartbeats 4000000 in
set_option maxRecDepth 100000 in
theorem ct_X1_put (l : Launch) (g : KG) (a : Nat → Nat) (c z : Nat) (f : Nat → Int64) (q : Nat) (i : Nat) (v : Int64)  (hi : i < 40) (hc : c < 2 ^ 31) : CV l yX1_put cX1_put 4 none (rmK 0) g [.ref (a (5 + 2 * q)), .int (nI i), .long v] (shS g a c z f q) (shS g a c z (vp_updL f i (vNar c v)) q) := by
  refine k_bodyV (by decide) (Nat.le_of_ble_eq_true rfl) (fun J hJ hR => ?_)
  show J (shS g a c z f q) [(0, .ref (a (5 + 2 * q))), (1, .int (nI i)), (2, .long v)] 0 []
  refine k_aload_n hJ dX1_put_0 0 rfl ?_
  refine gf_X1_18 (v := .ref (a (6 + 2 * q))) hJ 0 rfl rfl dX1_put_1 ?_
  refine k_iload_n hJ dX1_put_4 1 rfl ?_
  refine k_aload_n hJ dX1_put_5 0 rfl ?_
  refine gf_X1_9 (v := .int (nI c)) hJ 0 rfl rfl dX1_put_6 ?_
  refine k_bipush (v := nI 8) hJ dX1_put_9 (by decide) ?_
  refine n_icmp_ne (tgt := 21) hJ dX1_put_11 (by decide) (by omega) (by omega) (fun c11 => ?_) (fun c11 => ?_)
  · refine k_aload_n hJ dX1_put_21 0 rfl ?_
    refine gf_X1_9 (v := .int (nI c)) hJ 0 rfl rfl dX1_put_22 ?_
    refine k_bipush (v := nI 16) hJ dX1_put_25 (by decide) ?_
    refine n_icmp_ne (tgt := 37) hJ dX1_put_27 (by decide) (by omega) (by omega) (fun c27 => ?_) (fun c27 => ?_)
    · refine k_lload_n hJ dX1_put_37 2 rfl ?_
      refine k_last (ws2 := shS g a c z (vp_updL f i v) q) hJ 1 rfl i (by omega) (by decide) rfl dX1_put_38 ?_
      exact k_eqw (ws2 := shS g a c z (vp_updL f i (vNar c v)) q) (by unfold vNar; (repeat' split) <;> first | rfl | omega) (hR _ _ () () dX1_put_39 trivial)
    · refine k_lload_n hJ dX1_put_30 2 rfl ?_
      refine k_l2i hJ dX1_put_31 rfl ?_
      refine k_i2s hJ dX1_put_32 rfl ?_
      refine k_i2l hJ dX1_put_33 rfl ?_
      refine k_goto (tgt := 38) hJ dX1_put_34 (by decide) ?_
      refine k_last (ws2 := shS g a c z (vp_updL f i v.toInt32.toInt16.toInt32.toInt64) q) hJ 1 rfl i (by omega) (by decide) rfl dX1_put_38 ?_
      exact k_eqw (ws2 := shS g a c z (vp_updL f i (vNar c v)) q) (by unfold vNar; (repeat' split) <;> first | rfl | omega) (hR _ _ () () dX1_put_39 trivial)
  · refine k_lload_n hJ dX1_put_14 2 rfl ?_
    refine k_l2i hJ dX1_put_15 rfl ?_
    refine k_i2b hJ dX1_put_16 rfl ?_
    refine k_i2l hJ dX1_put_17 rfl ?_
    refine k_goto (tgt := 38) hJ dX1_put_18 (by decide) ?_
    refine k_last (ws2 := shS g a c z (vp_updL f i v.toInt32.toInt8.toInt32.toInt64) q) hJ 1 rfl i (by omega) (by decide) rfl dX1_put_38 ?_
    exact k_eqw (ws2 := shS g a c z (vp_updL f i (vNar c v)) q) (by unfold vNar; (repeat' split) <;> first | rfl | omega) (hR _ _ () () dX1_put_39 trivial)
set_option maxHeartbeats 4000000 in
set_option maxRecDepth 100000 in
theorem ct_X1_hasRun (l : Launch) (g : KG) (a : Nat → Nat) (c z : Nat) (f : Nat → Int64) (q : Nat) (x y : Int32)  (hz : z ≤ 40) : CI l yX1_hasRun cX1_hasRun 3 (some .boolean) (rmK 0) g [.ref (a (5 + 2 * q)), .int x, .int y] (shS g a c z f q) (kb (vRun x y z)) (shS g a c z f q) := by
  refine k_bodyI (by decide) (Nat.le_of_ble_eq_true rfl) (fun _ _ h => by rw [h]; exact kb_nar _) (fun J hJ hR => ?_)
  show J (shS g a c z f q) [(0, .ref (a (5 + 2 * q))), (1, .int x), (2, .int y)] 0 []
  refine k_iload_n hJ dX1_hasRun_0 1 rfl ?_
  refine k_if_lt (tgt := 30) hJ dX1_hasRun_1 (by decide) (fun c1 => ?_) (fun c1 => ?_)
  · refine k_iconst (v := nI 0) hJ dX1_hasRun_30 (by decide) ?_
    exact hR _ _ _ () dX1_hasRun_31 (by show kb false = _; rw [vRun_s c1])
  · obtain ⟨px, hpx, rfl⟩ := nI_of c1
    refine k_iload_n hJ dX1_hasRun_4 2 rfl ?_
    refine k_if_lt (tgt := 30) hJ dX1_hasRun_5 (by decide) (fun c5 => ?_) (fun c5 => ?_)
    · refine k_iconst (v := nI 0) hJ dX1_hasRun_30 (by decide) ?_
      exact hR _ _ _ () dX1_hasRun_31 (by show kb false = _; rw [vRun_n c5])
    · obtain ⟨py, hpy, rfl⟩ := nI_of c5
      refine k_iload_n hJ dX1_hasRun_8 1 rfl ?_
      refine k_aload_n hJ dX1_hasRun_9 0 rfl ?_
      refine gf_X1_15 (v := .int (nI z)) hJ 0 rfl rfl dX1_hasRun_10 ?_
      refine n_icmp_gt (tgt := 30) hJ dX1_hasRun_13 (by decide) (by omega) (by omega) (fun c13 => ?_) (fun c13 => ?_)
      · refine k_iconst (v := nI 0) hJ dX1_hasRun_30 (by decide) ?_
        exact hR _ _ _ () dX1_hasRun_31 (by show kb false = _; rw [vRun_nI hpx hpy hz, decide_eq_false (by omega)])
      · refine k_iload_n hJ dX1_hasRun_16 2 rfl ?_
        refine k_aload_n hJ dX1_hasRun_17 0 rfl ?_
        refine gf_X1_15 (v := .int (nI z)) hJ 0 rfl rfl dX1_hasRun_18 ?_
        refine k_iload_n hJ dX1_hasRun_21 1 rfl ?_
        refine k_isub hJ dX1_hasRun_22 ?_
        refine k_icmp_gt (tgt := 30) hJ dX1_hasRun_23 (by decide) (fun c23 => ?_) (fun c23 => ?_)
        · rw [(nI_dif hz hpx hpy).1] at c23
          refine k_iconst (v := nI 0) hJ dX1_hasRun_30 (by decide) ?_
          exact hR _ _ _ () dX1_hasRun_31 (by show kb false = _; rw [vRun_nI hpx hpy hz, decide_eq_false (by omega)])
        · rw [(nI_dif hz hpx hpy).1] at c23
          refine k_iconst (v := nI 1) hJ dX1_hasRun_26 (by decide) ?_
          refine k_goto (tgt := 31) hJ dX1_hasRun_27 (by decide) ?_
          exact hR _ _ _ () dX1_hasRun_31 (by show kb true = _; rw [vRun_nI hpx hpy hz, decide_eq_true (by omega)])
theorem tap_set {g : KG} {a tp : Nat → Nat} {tl nx tk sr va i v : Nat} : (tapW g a tp tl nx tk sr va).set 1 (a 3, .inl (kI g, 120, .inl (upd (fun i => nI (tp i)) i (nI v)))) = tapW g a (vUp tp i v) tl nx tk sr va := by rw [nI_upd]; rfl
set_option maxHeartbeats 4000000 in
set_option maxRecDepth 100000 in
theorem ct_X2_append (l : Launch) (g : KG) (a tp : Nat → Nat) (tl nx tk sr va v : Nat)  (ht : tl < 120) : CV l yX2_append cX2_append 2 none (rmK 0) g [.ref (a 2), .int (nI v)] (tapW g a tp tl nx tk sr va) (tapW g a (vUp tp tl v) (tl + 1) nx tk sr va) := by
  refine k_bodyV (by decide) (Nat.le_of_ble_eq_true rfl) (fun J hJ hR => ?_)
  show J (tapW g a tp tl nx tk sr va) [(0, .ref (a 2)), (1, .int (nI v))] 0 []
  refine k_aload_n hJ dX2_append_0 0 rfl ?_
  refine gf_X2_15 (v := .ref (a 3)) hJ 0 rfl rfl dX2_append_1 ?_
  refine k_aload_n hJ dX2_append_4 0 rfl ?_
  refine gf_X2_9 (v := .int (nI tl)) hJ 0 rfl rfl dX2_append_5 ?_
  refine k_iload_n hJ dX2_append_8 1 rfl ?_
  refine k_iast (ws2 := tapW g a (vUp tp tl v) tl nx tk sr va) hJ 1 rfl tl (by omega) (by decide) tap_set dX2_append_9 ?_
  refine k_aload_n hJ dX2_append_10 0 rfl ?_
  refine k_dup hJ dX2_append_11 rfl ?_
  refine gf_X2_9 (v := .int (nI tl)) hJ 0 rfl rfl dX2_append_12 ?_
  refine k_iconst (v := nI 1) hJ dX2_append_15 (by decide) ?_
  refine n_iadd hJ dX2_append_16 ?_
  refine pf_X2_9 (ws2 := tapW g a (vUp tp tl v) (tl + 1) nx tk sr va) hJ 0 rfl rfl (Nat.le_of_ble_eq_true rfl) dX2_append_17 ?_
  exact hR _ _ () () dX2_append_20 trivial
set_option maxHeartbeats 4000000 in
set_option maxRecDepth 100000 in
theorem ct_X3_findingOfSheet (l : Launch) (g : KG) (a aK aL aT : Nat → Nat) (kf : Bool) (ct : Nat → Int32) (k : Nat → Nat) (lk : Nat → Int32) (m : Nat → Nat) (lm : Nat → Int32) (t : Nat → Nat) (lt : Nat → Int32) (tp : Nat → Nat) (tl nx tk sr va : Nat) (sb sz : Nat → Nat) (nu : Nat → Nat → Int64) (x : Int32)  (hb : ∀ s, s < 4 → sb s < 2 ^ 31) : CI l yX3_findingOfSheet cX3_findingOfSheet 2 (some .int) (rmK 2) g [.ref (a 0), .int x] (clsW g a aK aL aT kf ct k lk m lm t lt tp tl nx tk sr va sb sz nu) (kWr (vWr sb x)) (clsW g a aK aL aT kf ct k lk m lm t lt tp tl nx tk sr va sb sz nu) := by
  refine k_bodyI (by decide) (Nat.le_of_ble_eq_true rfl) (fun _ _ _ => rfl) (fun J hJ hR => ?_)
  show J (clsW g a aK aL aT kf ct k lk m lm t lt tp tl nx tk sr va sb sz nu) [(0, .ref (a 0)), (1, .int x)] 0 []
  refine k_iload_n hJ dX3_findingOfSheet_0 1 rfl ?_
  refine c_SI (As := [.int x]) (st := []) hJ (ct_X3_isSheet l g x) Fr.none ms_X3_isSheet ml_X3_193 (kRm_ok (by decide) (by decide)) rfl rfl (Nat.le_of_ble_eq_true rfl) dX3_findingOfSheet_1 ?_
  refine b_if_ne (tgt := 10) hJ dX3_findingOfSheet_4 (by decide) (fun c4 => ?_) (fun c4 => ?_)
  · obtain ⟨px, hpx, rfl⟩ := vIn_of (by omega) c4
    refine k_aload_n hJ dX3_findingOfSheet_10 0 rfl ?_
    refine gf_X3_31 (v := .ref (a 4)) hJ 0 rfl rfl dX3_findingOfSheet_11 ?_
    refine k_iload_n hJ dX3_findingOfSheet_14 1 rfl ?_
    refine k_aaldS (f := fun i => some (a (5 + 2 * i))) (b := a (5 + 2 * px)) hJ 43 rfl px (by omega) (by decide) rfl dX3_findingOfSheet_15 ?_
    refine gf_X3_215 (v := .int (nI (sb px))) hJ (44 + 2 * px) (cls_sh (by omega)) rfl dX3_findingOfSheet_16 ?_
    refine n_if_ne (tgt := 27) hJ dX3_findingOfSheet_19 (by decide) (hb px (by omega)) (fun c19 => ?_) (fun c19 => ?_)
    · refine k_iconst (v := nI 0) hJ dX3_findingOfSheet_27 (by decide) ?_
      exact hR _ _ _ () dX3_findingOfSheet_28 (by unfold vWr; rw [if_pos c4, tN_nI (by omega), if_neg c19]; rfl)
    · refine k_ldc hJ dX3_findingOfSheet_22 cw_X3_218 ?_
      refine k_eqs (st2 := [.int (kFi 5)]) (by rw [kFi_c5]) ?_
      refine k_goto (tgt := 28) hJ dX3_findingOfSheet_24 (by decide) ?_
      exact hR _ _ _ () dX3_findingOfSheet_28 (by unfold vWr; rw [if_pos c4, tN_nI (by omega), if_pos c19]; rfl)
  · refine k_ldc hJ dX3_findingOfSheet_7 cw_X3_55 ?_
    refine k_eqs (st2 := [.int (kFi 0)]) (by rw [kFi_c0]) ?_
    exact hR _ _ _ () dX3_findingOfSheet_9 (by unfold vWr; rw [if_neg (by rw [c4]; decide)]; rfl)
set_option maxHeartbeats 4000000 in
set_option maxRecDepth 100000 in
theorem ct_X3_findingOfBook (l : Launch) (g : KG) (a aK aL aT : Nat → Nat) (kf : Bool) (ct : Nat → Int32) (k : Nat → Nat) (lk : Nat → Int32) (m : Nat → Nat) (lm : Nat → Int32) (t : Nat → Nat) (lt : Nat → Int32) (tp : Nat → Nat) (tl nx tk sr va : Nat) (sb sz : Nat → Nat) (nu : Nat → Nat → Int64) (x y z u : Int32)  (hb : ∀ s, s < 4 → sb s < 2 ^ 31) : CI l yX3_findingOfBook cX3_findingOfBook 6 (some .int) (rmK 3) g [.ref (a 0), .int x, .int y, .int z, .int u] (clsW g a aK aL aT kf ct k lk m lm t lt tp tl nx tk sr va sb sz nu) (kWr (vWb m sb x y z u)) (clsW g a aK aL aT kf ct k lk m lm t lt tp tl nx tk sr va sb sz nu) := by
  refine k_bodyI (by decide) (Nat.le_of_ble_eq_true rfl) (fun _ _ _ => rfl) (fun J hJ hR => ?_)
  show J (clsW g a aK aL aT kf ct k lk m lm t lt tp tl nx tk sr va sb sz nu) [(0, .ref (a 0)), (1, .int x), (2, .int y), (3, .int z), (4, .int u)] 0 []
  refine k_aload_n hJ dX3_findingOfBook_0 0 rfl ?_
  refine k_iload_n hJ dX3_findingOfBook_1 1 rfl ?_
  refine c_VI (As := [.int x]) (st := []) hJ (ct_X3_findingOfSheet l g a aK aL aT kf ct k lk m lm t lt tp tl nx tk sr va sb sz nu x hb) (Fr.all rfl) mv_X3_findingOfSheet ml_X3_204 0 rfl rfl rfl (kRm_ok (by decide) (by decide)) rfl rfl (Nat.le_of_ble_eq_true rfl) dX3_findingOfBook_2 ?_
  refine k_istore (lv1 := [(0, .ref (a 0)), (1, .int x), (2, .int y), (3, .int z), (4, .int u), (5, .int (kWr (vWr sb x)))]) hJ dX3_findingOfBook_5 (by decide) [1, 2, 3, 4, 5, 0] rfl ?_
  rcases hW : vWr sb x with _ | wi
  · show J (clsW g a aK aL aT kf ct k lk m lm t lt tp tl nx tk sr va sb sz nu) [(0, .ref (a 0)), (1, .int x), (2, .int y), (3, .int z), (4, .int u), (5, .int (nI 0))] 7 []
    refine k_iload hJ dX3_findingOfBook_7 5 rfl ?_
    refine n_if_eq (tgt := 15) hJ dX3_findingOfBook_9 (by decide) (by omega) (fun c9 => ?_) (fun c9 => ?_)
    · refine k_aload_n hJ dX3_findingOfBook_15 0 rfl ?_
      refine gf_X3_10 (v := .ref (aL 0)) hJ 0 rfl rfl dX3_findingOfBook_16 ?_
      refine k_iload_n hJ dX3_findingOfBook_19 2 rfl ?_
      refine k_iload_n hJ dX3_findingOfBook_20 3 rfl ?_
      refine c_VI (As := [.int y, .int z]) (st := []) hJ (ct_X0_hasTwo l g aL m lm y z ) cls_frL mv_X0_hasTwo ml_X3_118 15 rfl rfl rfl (kRm_ok (by decide) (by decide)) rfl rfl (Nat.le_of_ble_eq_true rfl) dX3_findingOfBook_21 ?_
      refine b_if_eq (tgt := 39) hJ dX3_findingOfBook_24 (by decide) (fun c24 => ?_) (fun c24 => ?_)
      · refine k_ldc hJ dX3_findingOfBook_39 cw_X3_55 ?_
        refine k_eqs (st2 := [.int (kFi 0)]) (by rw [kFi_c0]) ?_
        exact hR _ _ _ () dX3_findingOfBook_41 (by unfold vWb; rw [hW]; simp only []; rw [if_neg (fun q => by have a := q.1; rw [c24] at a; cases a)]; rfl)
      · refine k_iload hJ dX3_findingOfBook_27 4 rfl ?_
        refine c_SI (As := [.int u]) (st := []) hJ (ct_X3_isDeed l g u) Fr.none ms_X3_isDeed ml_X3_100 (kRm_ok (by decide) (by decide)) rfl rfl (Nat.le_of_ble_eq_true rfl) dX3_findingOfBook_29 ?_
        refine b_if_eq (tgt := 39) hJ dX3_findingOfBook_32 (by decide) (fun c32 => ?_) (fun c32 => ?_)
        · refine k_ldc hJ dX3_findingOfBook_39 cw_X3_55 ?_
          refine k_eqs (st2 := [.int (kFi 0)]) (by rw [kFi_c0]) ?_
          exact hR _ _ _ () dX3_findingOfBook_41 (by unfold vWb; rw [hW]; simp only []; rw [if_neg (fun q => by have a := q.2; rw [c32] at a; cases a)]; rfl)
        · refine k_iconst (v := nI 0) hJ dX3_findingOfBook_35 (by decide) ?_
          refine k_goto (tgt := 41) hJ dX3_findingOfBook_36 (by decide) ?_
          exact hR _ _ _ () dX3_findingOfBook_41 (by unfold vWb; rw [hW]; simp only []; rw [if_pos ⟨c24, c32⟩]; rfl)
    · exact absurd c9 (by decide)
  · show J (clsW g a aK aL aT kf ct k lk m lm t lt tp tl nx tk sr va sb sz nu) [(0, .ref (a 0)), (1, .int x), (2, .int y), (3, .int z), (4, .int u), (5, .int (kFi wi))] 7 []
    refine k_iload hJ dX3_findingOfBook_7 5 rfl ?_
    refine k_if_eq (tgt := 15) hJ dX3_findingOfBook_9 (by decide) (fun c9 => ?_) (fun c9 => ?_)
    · exact absurd c9 (kWr_0 wi (vWr_lt hW))
    · refine k_iload hJ dX3_findingOfBook_12 5 rfl ?_
      exact hR _ _ _ () dX3_findingOfBook_14 (by unfold vWb; rw [hW]; rfl)
set_option maxHeartbeats 4000000 in
set_option maxRecDepth 100000 in
theorem ct_X3_fewestFind (l : Launch) (g : KG) (a aK aL aT : Nat → Nat) (kf : Bool) (ct : Nat → Int32) (k : Nat → Nat) (lk : Nat → Int32) (m : Nat → Nat) (lm : Nat → Int32) (t : Nat → Nat) (lt : Nat → Int32) (tp : Nat → Nat) (tl nx tk sr va : Nat) (sb sz : Nat → Nat) (nu : Nat → Nat → Int64) (p tr n w : Nat)  {B : Nat} (hB : B < 2 ^ 30) (hw : w = (if tr = 0 then 2 else if tr = 1 then 4 + 10 * p + 1 else 4 + 10 * p + 0)) (hv : ∀ v, v < n → vOk B (vUp m w v)) (ht : tr < 2 ^ 31) (hn : n ≤ 48) (hp : p < 8) : CT l yX3_fewestFind cX3_fewestFind 8 (some .int) (rmK 5) g [.ref (a 0), .int (nI p), .int (nI tr), .int (nI n)] (clsW g a aK aL aT kf ct k lk m lm t lt tp tl nx tk sr va sb sz nu) (S := Nat → Nat) oI (fun r _ => r = nI (vLst m w p n).1) (fun u => clsW g a aK aL aT kf ct k lk m lm u lt tp tl nx tk sr va sb sz nu) := by
  refine k_bodyI (by decide) (Nat.le_of_ble_eq_true rfl) (fun _ _ _ => rfl) (fun J hJ hR => ?_)
  show J (clsW g a aK aL aT kf ct k lk m lm t lt tp tl nx tk sr va sb sz nu) [(0, .ref (a 0)), (1, .int (nI p)), (2, .int (nI tr)), (3, .int (nI n))] 0 []
  have L21 : ∀ (fu : Nat) (v : Nat) (x : Nat) (f : Nat) (M : Nat → Nat), (v ≤ n) → (n + 1 ≤ v + fu) → ((x, f) = vLst m w p v) → (∀ y, vUp M w y = vUp m w y) → (f ≤ 9) → J (clsW g a aK aL aT kf ct k lk m lm M lt tp tl nx tk sr va sb sz nu) [(0, .ref (a 0)), (1, .int (nI p)), (2, .int (nI tr)), (3, .int (nI n)), (4, .int (nI f)), (5, .int (nI x)), (6, .int (nI v))] 21 [] := by
    intro fu
    induction fu with
    | zero => intro v x f M hvn hf hx hM hf9; exfalso; omega
    | succ fu ih =>
      intro v x f M hvn hf hx hM hf9
      refine k_iload hJ dX3_fewestFind_21 6 rfl ?_
      refine k_iload_n hJ dX3_fewestFind_23 3 rfl ?_
      refine n_icmp_ge (tgt := 72) hJ dX3_fewestFind_24 (by decide) (by omega) (by omega) (fun c24 => ?_) (fun c24 => ?_)
      · refine k_iload hJ dX3_fewestFind_72 5 rfl ?_
        exact hR _ _ _ M dX3_fewestFind_74 (by rw [show n = v by omega, ← hx])
      · refine k_aload_n hJ dX3_fewestFind_27 0 rfl ?_
        refine gf_X3_19 (v := .ref (aT 0)) hJ 0 rfl rfl dX3_fewestFind_28 ?_
        refine k_iload_n hJ dX3_fewestFind_31 1 rfl ?_
        refine k_iload_n hJ dX3_fewestFind_32 2 rfl ?_
        refine k_iload hJ dX3_fewestFind_33 6 rfl ?_
        refine c_VV (As := [.int (nI p), .int (nI tr), .int (nI v)]) (st := []) hJ (ct_X0_put l g aT M lt p tr v hp ht) cls_frT mv_X0_put ml_X3_242 28 rfl rfl rfl (kRm_ok (by decide) (by decide)) rfl rfl (Nat.le_of_ble_eq_true rfl) dX3_fewestFind_35 ?_
        refine k_eqw (ws2 := clsW g a aK aL aT kf ct k lk m lm (vUp M w v) lt tp tl nx tk sr va sb sz nu) (by rw [vPut_up, ← hw]) ?_
        refine k_aload_n hJ dX3_fewestFind_38 0 rfl ?_
        refine gf_X3_19 (v := .ref (aT 0)) hJ 0 rfl rfl dX3_fewestFind_39 ?_
        refine k_iload_n hJ dX3_fewestFind_42 1 rfl ?_
        have hk := hv v (by omega)
        rw [← hM] at hk
        refine c_VI (As := [.int (nI p)]) (st := []) hJ (ct_X0_finders l g aT (vUp M w v) lt p hB hk hp) cls_frT mv_X0_finders ml_X3_131 28 rfl rfl rfl (kRm_ok (by decide) (by decide)) rfl rfl (Nat.le_of_ble_eq_true rfl) dX3_fewestFind_43 ?_
        have hff : vFinders (vUp M w v) p < 256 := vBits_le8 _ hk.1
        have hbb := vPop_le (s := vFinders (vUp M w v) p)
        refine c_SI (As := [.int (nI (vFinders (vUp M w v) p))]) (st := []) hJ (ct_J6_bitCount_0f7a4 l g (vFinders (vUp M w v) p) (by first | omega | exact and_lt256 (by omega))) Fr.none ms_J6_bitCount_0f7a4 ml_X3_165 (kRm_ok (by decide) (by decide)) rfl rfl (Nat.le_of_ble_eq_true rfl) dX3_fewestFind_46 ?_
        refine k_istore (lv1 := [(0, .ref (a 0)), (1, .int (nI p)), (2, .int (nI tr)), (3, .int (nI n)), (4, .int (nI f)), (5, .int (nI x)), (6, .int (nI v)), (7, .int (nI (vPop (vFinders (vUp M w v) p))))]) hJ dX3_fewestFind_49 (by decide) [1, 2, 3, 4, 5, 6, 7, 0] rfl ?_
        refine k_iload hJ dX3_fewestFind_51 7 rfl ?_
        refine k_iload hJ dX3_fewestFind_53 4 rfl ?_
        refine n_icmp_ge (tgt := 66) hJ dX3_fewestFind_55 (by decide) (by omega) (by omega) (fun c55 => ?_) (fun c55 => ?_)
        · refine n_iinc (b := 1) (lv1 := [(0, .ref (a 0)), (1, .int (nI p)), (2, .int (nI tr)), (3, .int (nI n)), (4, .int (nI f)), (5, .int (nI x)), (6, .int (nI (v + 1))), (7, .int (nI (vPop (vFinders (vUp M w v) p))))]) hJ dX3_fewestFind_66 6 rfl (by decide) (by decide) [1, 2, 3, 4, 5, 6, 0, 7] rfl ?_
          refine k_goto (tgt := 21) hJ dX3_fewestFind_69 (by decide) ?_
          refine k_lv (lv1 := [(0, .ref (a 0)), (1, .int (nI p)), (2, .int (nI tr)), (3, .int (nI n)), (4, .int (nI f)), (5, .int (nI x)), (6, .int (nI (v + 1)))]) hJ [0, 1, 2, 3, 4, 5, 6] rfl ?_
          exact ih (v + 1) x f _ (by omega) (by omega) (by rw [vLst, if_neg (by rw [← hx]; show ¬ _ < f; rw [← hM]; omega)]; exact hx) (fun y => by rw [vUp_up]; exact hM y) (by omega)
        · refine k_iload hJ dX3_fewestFind_58 7 rfl ?_
          refine k_istore (lv1 := [(0, .ref (a 0)), (1, .int (nI p)), (2, .int (nI tr)), (3, .int (nI n)), (4, .int (nI (vPop (vFinders (vUp M w v) p)))), (5, .int (nI x)), (6, .int (nI v)), (7, .int (nI (vPop (vFinders (vUp M w v) p))))]) hJ dX3_fewestFind_60 (by decide) [1, 2, 3, 4, 0, 5, 6, 7] rfl ?_
          refine k_iload hJ dX3_fewestFind_62 6 rfl ?_
          refine k_istore (lv1 := [(0, .ref (a 0)), (1, .int (nI p)), (2, .int (nI tr)), (3, .int (nI n)), (4, .int (nI (vPop (vFinders (vUp M w v) p)))), (5, .int (nI v)), (6, .int (nI v)), (7, .int (nI (vPop (vFinders (vUp M w v) p))))]) hJ dX3_fewestFind_64 (by decide) [1, 2, 3, 4, 5, 0, 6, 7] rfl ?_
          refine n_iinc (b := 1) (lv1 := [(0, .ref (a 0)), (1, .int (nI p)), (2, .int (nI tr)), (3, .int (nI n)), (4, .int (nI (vPop (vFinders (vUp M w v) p)))), (5, .int (nI v)), (6, .int (nI (v + 1))), (7, .int (nI (vPop (vFinders (vUp M w v) p))))]) hJ dX3_fewestFind_66 6 rfl (by decide) (by decide) [1, 2, 3, 4, 5, 6, 0, 7] rfl ?_
          refine k_goto (tgt := 21) hJ dX3_fewestFind_69 (by decide) ?_
          refine k_lv (lv1 := [(0, .ref (a 0)), (1, .int (nI p)), (2, .int (nI tr)), (3, .int (nI n)), (4, .int (nI (vPop (vFinders (vUp M w v) p)))), (5, .int (nI v)), (6, .int (nI (v + 1)))]) hJ [0, 1, 2, 3, 4, 5, 6] rfl ?_
          exact ih (v + 1) v _ _ (by omega) (by omega) (by rw [vLst, if_pos (by rw [← hx]; show _ < f; rw [← hM]; omega), hM]) (fun y => by rw [vUp_up]; exact hM y) (by omega)
  refine k_aload_n hJ dX3_fewestFind_0 0 rfl ?_
  refine gf_X3_19 (v := .ref (aT 0)) hJ 0 rfl rfl dX3_fewestFind_1 ?_
  refine k_aload_n hJ dX3_fewestFind_4 0 rfl ?_
  refine gf_X3_10 (v := .ref (aL 0)) hJ 0 rfl rfl dX3_fewestFind_5 ?_
  refine c_VV (As := [.ref (aL 0)]) (st := []) hJ (CT_swap (ct_X0_become l g aT aL t m lt lm)) cls_frLT mv_X0_become ml_X3_154 28 rfl rfl rfl (kRm_ok (by decide) (by decide)) rfl rfl (Nat.le_of_ble_eq_true rfl) dX3_fewestFind_8 ?_
  refine k_bipush (v := nI 9) hJ dX3_fewestFind_11 (by decide) ?_
  refine k_istore (lv1 := [(0, .ref (a 0)), (1, .int (nI p)), (2, .int (nI tr)), (3, .int (nI n)), (4, .int (nI 9))]) hJ dX3_fewestFind_13 (by decide) [1, 2, 3, 4, 0] rfl ?_
  refine k_iconst (v := nI 0) hJ dX3_fewestFind_15 (by decide) ?_
  refine k_istore (lv1 := [(0, .ref (a 0)), (1, .int (nI p)), (2, .int (nI tr)), (3, .int (nI n)), (4, .int (nI 9)), (5, .int (nI 0))]) hJ dX3_fewestFind_16 (by decide) [1, 2, 3, 4, 5, 0] rfl ?_
  refine k_iconst (v := nI 0) hJ dX3_fewestFind_18 (by decide) ?_
  refine k_istore (lv1 := [(0, .ref (a 0)), (1, .int (nI p)), (2, .int (nI tr)), (3, .int (nI n)), (4, .int (nI 9)), (5, .int (nI 0)), (6, .int (nI 0))]) hJ dX3_fewestFind_19 (by decide) [1, 2, 3, 4, 5, 6, 0] rfl ?_
  exact L21 (n + 1) 0 0 9 m (by omega) (by omega) rfl (fun _ => rfl) (by omega)
