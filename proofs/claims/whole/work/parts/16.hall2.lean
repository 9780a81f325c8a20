theorem hs_upd84 (m : Nat → Nat) (p : Nat) : vWash m p 0 = m := funext fun j => if_neg (by omega)
theorem vWash_step (m : Nat → Nat) (p d : Nat) : vUp (vWash m p d) (4 + 10 * p + (4 + d)) (vSc m p d / 3) = vWash m p (d + 1) := by
  funext j
  unfold vUp vWash
  by_cases h : j = 4 + 10 * p + (4 + d)
  · rw [if_pos h, if_pos (by omega), h]
  · rw [if_neg h]
    by_cases h2 : 4 + 10 * p + 4 ≤ j ∧ j < 4 + 10 * p + 4 + d
    · rw [if_pos h2, if_pos (by omega)]
    · rw [if_neg h2, if_neg (by omega)]
/-- cells beside a hall's that the hall's rows come from -/
theorem hs_become {g : KG} {a m k : Nat → Nat} {lt : Nat → Int32} (h : ∀ j, j < 84 → m j = k j) {D : va_G} {cl : List vw_C} {H : Heap} (hP : va_P D cl (hallW g a m lt) H) : va_P D cl (hallW g a k lt) H := hallW_cong (fun j hj => (h j hj).symm) hP
set_option maxHeartbeats 4000000 in
set_option maxRecDepth 100000 in
theorem ct_X0_sumOver (l : Launch) (g : KG) (a m : Nat → Nat) (lt : Nat → Int32) (f : Nat → Nat) (q b : Nat)  {B : Nat} (hB : B < 2 ^ 30) (hm : vOk B m) (he : (hallW g a m lt)[q]? = some (b, .inl (kI g, 8, .inl (fun i => nI (f i))))) : CI l yX0_sumOver cX0_sumOver 4 (some .int) (rmK 0) g [.ref (a 0), .ref b] (hallW g a m lt) (nI (vSum f (m 0))) (hallW g a m lt) := by
  refine k_bodyI (by decide) (Nat.le_of_ble_eq_true rfl) (fun _ _ _ => rfl) (fun J hJ hR => ?_)
  have h0 := hm.1
  show J (hallW g a m lt) [(0, .ref (a 0)), (1, .ref b)] 0 []
  have L : ∀ (k : Nat) (i : Nat) (S : Nat), (i ≤ m 0) → (m 0 + 1 ≤ i + k) → (S = vSum f i) → J (hallW g a m lt) [(0, .ref (a 0)), (1, .ref b), (2, .int (nI S)), (3, .int (nI i))] 4 [] := by
    intro k
    induction k with
    | zero => intro i S hi hf hS; exfalso; omega
    | succ k ih =>
      intro i S hi hf hS
      refine k_iload_n hJ dX0_sumOver_4 3 rfl ?_
      refine k_aload_n hJ dX0_sumOver_5 0 rfl ?_
      refine gf_X0_21 hJ 0 rfl rfl dX0_sumOver_6 ?_
      refine n_icmp_ge (tgt := 24) hJ dX0_sumOver_9 (by decide) (by omega) (by omega) (fun c9 => ?_) (fun c9 => ?_)
      · refine k_iload_n hJ dX0_sumOver_24 2 rfl ?_
        exact hR _ _ _ () dX0_sumOver_25 (by rw [hS, show i = m 0 by omega]; try (rfl))
      · refine k_iload_n hJ dX0_sumOver_12 2 rfl ?_
        refine k_aload_n hJ dX0_sumOver_13 1 rfl ?_
        refine k_iload_n hJ dX0_sumOver_14 3 rfl ?_
        refine k_iald hJ q he i (by omega) (by decide) rfl dX0_sumOver_15 ?_
        refine n_iadd hJ dX0_sumOver_16 ?_
        refine k_istore_n (lv1 := [(0, .ref (a 0)), (1, .ref b), (2, .int (nI (S + (f i)))), (3, .int (nI i))]) hJ dX0_sumOver_17 (by decide) [1, 2, 0, 3] rfl ?_
        refine n_iinc (b := 1) (lv1 := [(0, .ref (a 0)), (1, .ref b), (2, .int (nI (S + (f i)))), (3, .int (nI (i + 1)))]) hJ dX0_sumOver_18 3 rfl (by decide) (by decide) [1, 2, 3, 0] rfl ?_
        refine k_goto (tgt := 4) hJ dX0_sumOver_21 (by decide) ?_
        exact ih (i + 1) _ (by omega) (by omega) (by rw [vSum, hS])
  refine k_iconst (v := nI 0) hJ dX0_sumOver_0 (by decide) ?_
  refine k_istore_n (lv1 := [(0, .ref (a 0)), (1, .ref b), (2, .int (nI 0))]) hJ dX0_sumOver_1 (by decide) [1, 2, 0] rfl ?_
  refine k_iconst (v := nI 0) hJ dX0_sumOver_2 (by decide) ?_
  refine k_istore_n (lv1 := [(0, .ref (a 0)), (1, .ref b), (2, .int (nI 0)), (3, .int (nI 0))]) hJ dX0_sumOver_3 (by decide) [1, 2, 3, 0] rfl ?_
  exact L (m 0 + 1) 0 0 (by omega) (by omega) rfl
set_option maxHeartbeats 4000000 in
set_option maxRecDepth 100000 in
theorem ct_X0_scentsOf (l : Launch) (g : KG) (a m : Nat → Nat) (lt : Nat → Int32) (p : Nat)  {B : Nat} (hB : B < 2 ^ 30) (hm : vOk B m) (hp : p < 8) : CI l yX0_scentsOf cX0_scentsOf 4 (some .int) (rmK 0) g [.ref (a 0), .int (nI p)] (hallW g a m lt) (nI (vScents m p)) (hallW g a m lt) := by
  refine k_bodyI (by decide) (Nat.le_of_ble_eq_true rfl) (fun _ _ _ => rfl) (fun J hJ hR => ?_)
  show J (hallW g a m lt) [(0, .ref (a 0)), (1, .int (nI p))] 0 []
  have L : ∀ (k : Nat) (i : Nat) (S : Nat), (i ≤ 6) → (6 + 1 ≤ i + k) → (S = vSum (fun d => m (4 + 10 * p + (4 + d))) i) → J (hallW g a m lt) [(0, .ref (a 0)), (1, .int (nI p)), (2, .int (nI S)), (3, .int (nI i))] 4 [] := by
    intro k
    induction k with
    | zero => intro i S hi hf hS; exfalso; omega
    | succ k ih =>
      intro i S hi hf hS
      refine k_iload_n hJ dX0_scentsOf_4 3 rfl ?_
      refine k_bipush (v := nI 6) hJ dX0_scentsOf_5 (by decide) ?_
      refine n_icmp_ge (tgt := 27) hJ dX0_scentsOf_7 (by decide) (by omega) (by omega) (fun c7 => ?_) (fun c7 => ?_)
      · refine k_iload_n hJ dX0_scentsOf_27 2 rfl ?_
        exact hR _ _ _ () dX0_scentsOf_28 (by rw [hS, show i = 6 by omega]; try (rfl))
      · refine k_iload_n hJ dX0_scentsOf_10 2 rfl ?_
        refine k_aload_n hJ dX0_scentsOf_11 0 rfl ?_
        refine gf_X0_39 hJ 0 rfl rfl dX0_scentsOf_12 ?_
        refine k_iload_n hJ dX0_scentsOf_15 3 rfl ?_
        refine k_aald (f := fun i => some (a (7 + i))) (b := a (7 + i)) hJ 5 rfl i (by omega) (by decide) rfl dX0_scentsOf_16 ?_
        refine k_iload_n hJ dX0_scentsOf_17 1 rfl ?_
        refine k_iald hJ (7 + i) (hallW_row g a m lt (by omega)) p (by omega) (by decide) rfl dX0_scentsOf_18 ?_
        have hb18 : m (4 + 10 * p + (4 + i)) ≤ 99 := hm.sc (show p < 8 by omega) (show i < 6 by omega)
        refine n_iadd hJ dX0_scentsOf_19 ?_
        refine k_istore_n (lv1 := [(0, .ref (a 0)), (1, .int (nI p)), (2, .int (nI (S + (m (4 + 10 * p + (4 + i)))))), (3, .int (nI i))]) hJ dX0_scentsOf_20 (by decide) [1, 2, 0, 3] rfl ?_
        refine n_iinc (b := 1) (lv1 := [(0, .ref (a 0)), (1, .int (nI p)), (2, .int (nI (S + (m (4 + 10 * p + (4 + i)))))), (3, .int (nI (i + 1)))]) hJ dX0_scentsOf_21 3 rfl (by decide) (by decide) [1, 2, 3, 0] rfl ?_
        refine k_goto (tgt := 4) hJ dX0_scentsOf_24 (by decide) ?_
        exact ih (i + 1) _ (by omega) (by omega) (by rw [vSum, hS])
  refine k_iconst (v := nI 0) hJ dX0_scentsOf_0 (by decide) ?_
  refine k_istore_n (lv1 := [(0, .ref (a 0)), (1, .int (nI p)), (2, .int (nI 0))]) hJ dX0_scentsOf_1 (by decide) [1, 2, 0] rfl ?_
  refine k_iconst (v := nI 0) hJ dX0_scentsOf_2 (by decide) ?_
  refine k_istore_n (lv1 := [(0, .ref (a 0)), (1, .int (nI p)), (2, .int (nI 0)), (3, .int (nI 0))]) hJ dX0_scentsOf_3 (by decide) [1, 2, 3, 0] rfl ?_
  exact L (6 + 1) 0 0 (by omega) (by omega) rfl
set_option maxHeartbeats 4000000 in
set_option maxRecDepth 100000 in
theorem ct_X0_givenOffBy (l : Launch) (g : KG) (a m : Nat → Nat) (lt : Nat → Int32) (p : Nat)  {B : Nat} (hB : B < 2 ^ 30) (hm : vOk B m) (hp : p < 8) : CI l yX0_givenOffBy cX0_givenOffBy 4 (some .int) (rmK 2) g [.ref (a 0), .int (nI p)] (hallW g a m lt) (nI (vGivesAll m p)) (hallW g a m lt) := by
  refine k_bodyI (by decide) (Nat.le_of_ble_eq_true rfl) (fun _ _ _ => rfl) (fun J hJ hR => ?_)
  show J (hallW g a m lt) [(0, .ref (a 0)), (1, .int (nI p))] 0 []
  have L : ∀ (k : Nat) (i : Nat) (S : Nat), (i ≤ 6) → (6 + 1 ≤ i + k) → (S = vSum (fun d => vGives m p d) i) → J (hallW g a m lt) [(0, .ref (a 0)), (1, .int (nI p)), (2, .int (nI S)), (3, .int (nI i))] 4 [] := by
    intro k
    induction k with
    | zero => intro i S hi hf hS; exfalso; omega
    | succ k ih =>
      intro i S hi hf hS
      refine k_iload_n hJ dX0_givenOffBy_4 3 rfl ?_
      refine k_bipush (v := nI 6) hJ dX0_givenOffBy_5 (by decide) ?_
      refine n_icmp_ge (tgt := 25) hJ dX0_givenOffBy_7 (by decide) (by omega) (by omega) (fun c7 => ?_) (fun c7 => ?_)
      · refine k_iload_n hJ dX0_givenOffBy_25 2 rfl ?_
        exact hR _ _ _ () dX0_givenOffBy_26 (by rw [hS, show i = 6 by omega]; try (rfl))
      · refine k_iload_n hJ dX0_givenOffBy_10 2 rfl ?_
        refine k_aload_n hJ dX0_givenOffBy_11 0 rfl ?_
        refine k_iload_n hJ dX0_givenOffBy_12 1 rfl ?_
        refine k_iload_n hJ dX0_givenOffBy_13 3 rfl ?_
        refine c_VI (As := [.int (nI p), .int (nI i)]) (st := [.int (nI S)]) hJ (ct_X0_givesOff l g a m lt p i hB hm (by omega) (by omega)) (Fr.all rfl) mv_X0_givesOff ml_X0_65 0 rfl rfl rfl (kRm_ok (by decide) (by decide)) rfl rfl (Nat.le_of_ble_eq_true rfl) dX0_givenOffBy_14 ?_
        refine n_iadd hJ dX0_givenOffBy_17 ?_
        refine k_istore_n (lv1 := [(0, .ref (a 0)), (1, .int (nI p)), (2, .int (nI (S + (vGives m p i)))), (3, .int (nI i))]) hJ dX0_givenOffBy_18 (by decide) [1, 2, 0, 3] rfl ?_
        refine n_iinc (b := 1) (lv1 := [(0, .ref (a 0)), (1, .int (nI p)), (2, .int (nI (S + (vGives m p i)))), (3, .int (nI (i + 1)))]) hJ dX0_givenOffBy_19 3 rfl (by decide) (by decide) [1, 2, 3, 0] rfl ?_
        refine k_goto (tgt := 4) hJ dX0_givenOffBy_22 (by decide) ?_
        exact ih (i + 1) _ (by omega) (by omega) (by rw [vSum, hS])
  refine k_iconst (v := nI 0) hJ dX0_givenOffBy_0 (by decide) ?_
  refine k_istore_n (lv1 := [(0, .ref (a 0)), (1, .int (nI p)), (2, .int (nI 0))]) hJ dX0_givenOffBy_1 (by decide) [1, 2, 0] rfl ?_
  refine k_iconst (v := nI 0) hJ dX0_givenOffBy_2 (by decide) ?_
  refine k_istore_n (lv1 := [(0, .ref (a 0)), (1, .int (nI p)), (2, .int (nI 0)), (3, .int (nI 0))]) hJ dX0_givenOffBy_3 (by decide) [1, 2, 3, 0] rfl ?_
  exact L (6 + 1) 0 0 (by omega) (by omega) rfl
set_option maxHeartbeats 4000000 in
set_option maxRecDepth 100000 in
theorem ct_X0_scentsOfAll (l : Launch) (g : KG) (a m : Nat → Nat) (lt : Nat → Int32)  {B : Nat} (hB : B < 2 ^ 30) (hm : vOk B m) : CI l yX0_scentsOfAll cX0_scentsOfAll 3 (some .int) (rmK 1) g [.ref (a 0)] (hallW g a m lt) (nI (vScentsAll m)) (hallW g a m lt) := by
  refine k_bodyI (by decide) (Nat.le_of_ble_eq_true rfl) (fun _ _ _ => rfl) (fun J hJ hR => ?_)
  show J (hallW g a m lt) [(0, .ref (a 0))] 0 []
  have L : ∀ (k : Nat) (i : Nat) (S : Nat), (i ≤ 6) → (6 + 1 ≤ i + k) → (S = vSum (fun d => vSum (fun p => m (4 + 10 * p + (4 + d))) (m 0)) i) → J (hallW g a m lt) [(0, .ref (a 0)), (1, .int (nI S)), (2, .int (nI i))] 4 [] := by
    intro k
    induction k with
    | zero => intro i S hi hf hS; exfalso; omega
    | succ k ih =>
      intro i S hi hf hS
      refine k_iload_n hJ dX0_scentsOfAll_4 2 rfl ?_
      refine k_bipush (v := nI 6) hJ dX0_scentsOfAll_5 (by decide) ?_
      refine n_icmp_ge (tgt := 29) hJ dX0_scentsOfAll_7 (by decide) (by omega) (by omega) (fun c7 => ?_) (fun c7 => ?_)
      · refine k_iload_n hJ dX0_scentsOfAll_29 1 rfl ?_
        exact hR _ _ _ () dX0_scentsOfAll_30 (by rw [hS, show i = 6 by omega]; try (refine congrArg nI ?_; exact vSum_swap (fun p d => m (4 + 10 * p + (4 + d))) 6 (m 0)))
      · refine k_iload_n hJ dX0_scentsOfAll_10 1 rfl ?_
        refine k_aload_n hJ dX0_scentsOfAll_11 0 rfl ?_
        refine k_aload_n hJ dX0_scentsOfAll_12 0 rfl ?_
        refine gf_X0_39 hJ 0 rfl rfl dX0_scentsOfAll_13 ?_
        refine k_iload_n hJ dX0_scentsOfAll_16 2 rfl ?_
        refine k_aald (f := fun i => some (a (7 + i))) (b := a (7 + i)) hJ 5 rfl i (by omega) (by decide) rfl dX0_scentsOfAll_17 ?_
        refine c_VI (As := [.ref (a (7 + i))]) (st := [.int (nI S)]) hJ (ct_X0_sumOver l g a m lt (fun p => m (4 + 10 * p + (4 + i))) (7 + i) (a (7 + i)) hB hm (hallW_row g a m lt (by omega))) (Fr.all rfl) mv_X0_sumOver ml_X0_55 0 rfl rfl rfl (kRm_ok (by decide) (by decide)) rfl rfl (Nat.le_of_ble_eq_true rfl) dX0_scentsOfAll_18 ?_
        refine n_iadd hJ dX0_scentsOfAll_21 ?_
        refine k_istore_n (lv1 := [(0, .ref (a 0)), (1, .int (nI (S + (vSum (fun p => m (4 + 10 * p + (4 + i))) (m 0))))), (2, .int (nI i))]) hJ dX0_scentsOfAll_22 (by decide) [1, 0, 2] rfl ?_
        refine n_iinc (b := 1) (lv1 := [(0, .ref (a 0)), (1, .int (nI (S + (vSum (fun p => m (4 + 10 * p + (4 + i))) (m 0))))), (2, .int (nI (i + 1)))]) hJ dX0_scentsOfAll_23 2 rfl (by decide) (by decide) [1, 2, 0] rfl ?_
        refine k_goto (tgt := 4) hJ dX0_scentsOfAll_26 (by decide) ?_
        exact ih (i + 1) _ (by omega) (by omega) (by rw [vSum, hS])
  refine k_iconst (v := nI 0) hJ dX0_scentsOfAll_0 (by decide) ?_
  refine k_istore_n (lv1 := [(0, .ref (a 0)), (1, .int (nI 0))]) hJ dX0_scentsOfAll_1 (by decide) [1, 0] rfl ?_
  refine k_iconst (v := nI 0) hJ dX0_scentsOfAll_2 (by decide) ?_
  refine k_istore_n (lv1 := [(0, .ref (a 0)), (1, .int (nI 0)), (2, .int (nI 0))]) hJ dX0_scentsOfAll_3 (by decide) [1, 2, 0] rfl ?_
  exact L (6 + 1) 0 0 (by omega) (by omega) rfl
set_option maxHeartbeats 4000000 in
set_option maxRecDepth 100000 in
theorem ct_X0_washes (l : Launch) (g : KG) (a m : Nat → Nat) (lt : Nat → Int32) (p : Nat)  {B : Nat} (hB : B < 2 ^ 30) (hm : vOk B m) (hp : p < 8) : CI l yX0_washes cX0_washes 5 (some .int) (rmK 0) g [.ref (a 0), .int (nI p)] (hallW g a m lt) (nI (vWashed m p)) (hallW g a (vWash m p 6) lt) := by
  refine k_bodyI (by decide) (Nat.le_of_ble_eq_true rfl) (fun _ _ _ => rfl) (fun J hJ hR => ?_)
  show J (hallW g a m lt) [(0, .ref (a 0)), (1, .int (nI p))] 0 []
  have L4 : ∀ (k : Nat) (d : Nat) (S : Nat), (d ≤ 6) → (7 ≤ d + k) → (S = vSum (fun d => m (4 + 10 * p + (4 + d)) - m (4 + 10 * p + (4 + d)) / 3) d) → J (hallW g a (vWash m p d) lt) [(0, .ref (a 0)), (1, .int (nI p)), (2, .int (nI S)), (3, .int (nI d))] 4 [] := by
    intro k
    induction k with
    | zero => intro d S hd hf hS; exfalso; omega
    | succ k ih =>
      intro d S hd hf hS
      refine k_iload_n hJ dX0_washes_4 3 rfl ?_
      refine k_bipush (v := nI 6) hJ dX0_washes_5 (by decide) ?_
      refine n_icmp_ge (tgt := 48) hJ dX0_washes_7 (by decide) (by omega) (by omega) (fun c7 => ?_) (fun c7 => ?_)
      · refine k_iload_n hJ dX0_washes_48 2 rfl ?_
        exact k_eqw (ws2 := hallW g a (vWash m p 6) lt) (by rw [show d = 6 by omega]) (hR _ _ _ () dX0_washes_49 (by rw [hS, show d = 6 by omega]; rfl))
      · have hev : (vWash m p d) (4 + 10 * p + (4 + d)) = m (4 + 10 * p + (4 + d)) := if_neg (by omega)
        have hb : (vWash m p d) (4 + 10 * p + (4 + d)) ≤ 99 := by rw [hev]; exact hm.sc hp (by omega)
        refine k_aload_n hJ dX0_washes_10 0 rfl ?_
        refine gf_X0_39 hJ 0 rfl rfl dX0_washes_11 ?_
        refine k_iload_n hJ dX0_washes_14 3 rfl ?_
        refine k_aald (f := fun i => some (a (7 + i))) (b := a (7 + d)) hJ 5 rfl d (by omega) (by decide) rfl dX0_washes_15 ?_
        refine k_iload_n hJ dX0_washes_16 1 rfl ?_
        refine k_iald hJ (7 + d) (hallW_row g a (vWash m p d) lt (by omega)) p (by omega) (by decide) rfl dX0_washes_17 ?_
        refine k_istore (lv1 := [(0, .ref (a 0)), (1, .int (nI p)), (2, .int (nI S)), (3, .int (nI d)), (4, .int (nI ((vWash m p d) (4 + 10 * p + (4 + d)))))]) hJ dX0_washes_18 (by decide) [1, 2, 3, 4, 0] rfl ?_
        refine k_aload_n hJ dX0_washes_20 0 rfl ?_
        refine gf_X0_39 hJ 0 rfl rfl dX0_washes_21 ?_
        refine k_iload_n hJ dX0_washes_24 3 rfl ?_
        refine k_aald (f := fun i => some (a (7 + i))) (b := a (7 + d)) hJ 5 rfl d (by omega) (by decide) rfl dX0_washes_25 ?_
        refine k_iload_n hJ dX0_washes_26 1 rfl ?_
        refine k_iload hJ dX0_washes_27 4 rfl ?_
        refine k_iconst (v := nI 3) hJ dX0_washes_29 (by decide) ?_
        refine n_idiv hJ dX0_washes_30 (by omega) (by omega) (by omega) ?_
        refine k_iast hJ (7 + d) (hallW_row g a (vWash m p d) lt (by omega)) p (by omega) (by decide) (hs_row g a (vWash m p d) lt p (((vWash m p d) (4 + 10 * p + (4 + d))) / 3) (by omega)) dX0_washes_31 ?_
        refine k_iload_n hJ dX0_washes_32 2 rfl ?_
        refine k_iload hJ dX0_washes_33 4 rfl ?_
        refine k_iload hJ dX0_washes_35 4 rfl ?_
        refine k_iconst (v := nI 3) hJ dX0_washes_37 (by decide) ?_
        refine n_idiv hJ dX0_washes_38 (by omega) (by omega) (by omega) ?_
        refine n_isub hJ dX0_washes_39 (by omega) ?_
        refine n_iadd hJ dX0_washes_40 ?_
        refine k_istore_n (lv1 := [(0, .ref (a 0)), (1, .int (nI p)), (2, .int (nI (S + (((vWash m p d) (4 + 10 * p + (4 + d))) - (((vWash m p d) (4 + 10 * p + (4 + d))) / 3))))), (3, .int (nI d)), (4, .int (nI ((vWash m p d) (4 + 10 * p + (4 + d)))))]) hJ dX0_washes_41 (by decide) [1, 2, 0, 3, 4] rfl ?_
        refine n_iinc (b := 1) (lv1 := [(0, .ref (a 0)), (1, .int (nI p)), (2, .int (nI (S + (((vWash m p d) (4 + 10 * p + (4 + d))) - (((vWash m p d) (4 + 10 * p + (4 + d))) / 3))))), (3, .int (nI (d + 1))), (4, .int (nI ((vWash m p d) (4 + 10 * p + (4 + d)))))]) hJ dX0_washes_42 3 rfl (by decide) (by decide) [1, 2, 3, 0, 4] rfl ?_
        refine k_goto (tgt := 4) hJ dX0_washes_45 (by decide) ?_
        refine k_eqw (ws2 := hallW g a (vWash m p (d + 1)) lt) (by rw [hev, ← vWash_step]) ?_
        refine k_lv (lv1 := [(0, .ref (a 0)), (1, .int (nI p)), (2, .int (nI (S + (((vWash m p d) (4 + 10 * p + (4 + d))) - (((vWash m p d) (4 + 10 * p + (4 + d))) / 3))))), (3, .int (nI (d + 1)))]) hJ [0, 1, 2, 3] rfl ?_
        exact ih (d + 1) _ (by omega) (by omega) (by rw [vSum, hS, hev])
  refine k_iconst (v := nI 0) hJ dX0_washes_0 (by decide) ?_
  refine k_istore_n (lv1 := [(0, .ref (a 0)), (1, .int (nI p)), (2, .int (nI 0))]) hJ dX0_washes_1 (by decide) [1, 2, 0] rfl ?_
  refine k_iconst (v := nI 0) hJ dX0_washes_2 (by decide) ?_
  refine k_istore_n (lv1 := [(0, .ref (a 0)), (1, .int (nI p)), (2, .int (nI 0)), (3, .int (nI 0))]) hJ dX0_washes_3 (by decide) [1, 2, 3, 0] rfl ?_
  exact k_eqw (ws2 := hallW g a (vWash m p 0) lt) (by rw [hs_upd84]) (L4 7 0 0 (by omega) (by omega) rfl)
set_option maxHeartbeats 4000000 in
set_option maxRecDepth 100000 in
theorem ct_X0_join (l : Launch) (g : KG) (a m : Nat → Nat) (lt : Nat → Int32) (kd plc : Nat)  (h8 : m 0 < 8) : CI l yX0_join cX0_join 5 (some .int) (rmK 0) g [.ref (a 0), .int (nI kd), .int (nI plc)] (hallW g a m lt) (nI (m 0)) (hallW g a (vJoin m kd plc) lt) := by
  refine k_bodyI (by decide) (Nat.le_of_ble_eq_true rfl) (fun _ _ _ => rfl) (fun J hJ hR => ?_)
  show J (hallW g a m lt) [(0, .ref (a 0)), (1, .int (nI kd)), (2, .int (nI plc))] 0 []
  have L36 : ∀ (k : Nat) (d : Nat) (M : Nat → Nat), (d ≤ 6) → (7 ≤ d + k) → (∀ j, M j = if 4 + 10 * m 0 + 4 ≤ j ∧ j < 4 + 10 * m 0 + 4 + d then 0 else (vUp (vUp (vUp (vUp m (4 + 10 * m 0 + 0) kd) (4 + 10 * m 0 + 1) plc) (4 + 10 * m 0 + 2) 5) (4 + 10 * m 0 + 3) 0) j) → J (hallW g a M lt) [(0, .ref (a 0)), (1, .int (nI kd)), (2, .int (nI plc)), (3, .int (nI (m 0))), (4, .int (nI d))] 36 [] := by
    intro k
    induction k with
    | zero => intro d M hd hf hM; exfalso; omega
    | succ k ih =>
      intro d M hd hf hM
      refine k_iload hJ dX0_join_36 4 rfl ?_
      refine k_bipush (v := nI 6) hJ dX0_join_38 (by decide) ?_
      refine n_icmp_ge (tgt := 59) hJ dX0_join_40 (by decide) (by omega) (by omega) (fun c40 => ?_) (fun c40 => ?_)
      · refine k_aload_n hJ dX0_join_59 0 rfl ?_
        refine k_dup hJ dX0_join_60 rfl ?_
        refine gf_X0_21 hJ 0 rfl rfl dX0_join_61 ?_
        refine k_iconst (v := nI 1) hJ dX0_join_64 (by decide) ?_
        refine n_iadd hJ dX0_join_65 ?_
        refine pf_X0_21 hJ 0 rfl (hs_people g a M lt ((M 0) + 1)) (Nat.le_of_ble_eq_true rfl) dX0_join_66 ?_
        refine k_iload_n hJ dX0_join_69 3 rfl ?_
        refine k_eqw (ws2 := hallW g a (vJoin m kd plc) lt) ?_ (hR _ _ _ () dX0_join_70 rfl)
        have h00 : M 0 = m 0 := by rw [hM, if_neg (by omega)]; unfold vUp; rw [if_neg (by omega), if_neg (by omega), if_neg (by omega), if_neg (by omega)]
        refine congrArg (fun x => hallW g a x lt) (funext fun j => ?_)
        unfold vJoin
        by_cases e0 : j = 0
        · rw [if_pos e0, vUp_eq e0, h00]
        · rw [if_neg e0, vUp_ne e0, hM, show d = 6 by omega]; unfold vUp
          (repeat' split) <;> first | rfl | omega
      · refine k_aload_n hJ dX0_join_43 0 rfl ?_
        refine gf_X0_39 hJ 0 rfl rfl dX0_join_44 ?_
        refine k_iload hJ dX0_join_47 4 rfl ?_
        refine k_aald (f := fun i => some (a (7 + i))) (b := a (7 + d)) hJ 5 rfl d (by omega) (by decide) rfl dX0_join_49 ?_
        refine k_iload_n hJ dX0_join_50 3 rfl ?_
        refine k_iconst (v := nI 0) hJ dX0_join_51 (by decide) ?_
        refine k_iast hJ (7 + d) (hallW_row g a M lt (by omega)) (m 0) (by omega) (by decide) (hs_row g a M lt (m 0) 0 (by omega)) dX0_join_52 ?_
        refine n_iinc (b := 1) (lv1 := [(0, .ref (a 0)), (1, .int (nI kd)), (2, .int (nI plc)), (3, .int (nI (m 0))), (4, .int (nI (d + 1)))]) hJ dX0_join_53 4 rfl (by decide) (by decide) [1, 2, 3, 4, 0] rfl ?_
        refine k_goto (tgt := 36) hJ dX0_join_56 (by decide) ?_
        refine ih (d + 1) _ (by omega) (by omega) (fun j => ?_)
        by_cases e : j = 4 + 10 * m 0 + (4 + d)
        · rw [vUp_eq e, if_pos (by omega)]
        · rw [vUp_ne e, hM]; by_cases e2 : 4 + 10 * m 0 + 4 ≤ j ∧ j < 4 + 10 * m 0 + 4 + d
          · rw [if_pos e2, if_pos (by omega)]
          · rw [if_neg e2, if_neg (by omega)]
  refine k_aload_n hJ dX0_join_0 0 rfl ?_
  refine gf_X0_21 hJ 0 rfl rfl dX0_join_1 ?_
  refine k_istore_n (lv1 := [(0, .ref (a 0)), (1, .int (nI kd)), (2, .int (nI plc)), (3, .int (nI (m 0)))]) hJ dX0_join_4 (by decide) [1, 2, 3, 0] rfl ?_
  refine k_aload_n hJ dX0_join_5 0 rfl ?_
  refine gf_X0_24 hJ 0 rfl rfl dX0_join_6 ?_
  refine k_iload_n hJ dX0_join_9 3 rfl ?_
  refine k_iload_n hJ dX0_join_10 1 rfl ?_
  refine k_iast hJ 1 rfl (m 0) (by omega) (by decide) (hs_kinds g a m lt (m 0) kd) dX0_join_11 ?_
  refine k_aload_n hJ dX0_join_12 0 rfl ?_
  refine gf_X0_28 hJ 0 rfl rfl dX0_join_13 ?_
  refine k_iload_n hJ dX0_join_16 3 rfl ?_
  refine k_iload_n hJ dX0_join_17 2 rfl ?_
  refine k_iast hJ 2 rfl (m 0) (by omega) (by decide) (hs_places g a (vUp m (4 + 10 * (m 0) + 0) kd) lt (m 0) plc) dX0_join_18 ?_
  refine k_aload_n hJ dX0_join_19 0 rfl ?_
  refine gf_X0_31 hJ 0 rfl rfl dX0_join_20 ?_
  refine k_iload_n hJ dX0_join_23 3 rfl ?_
  refine k_iconst (v := nI 5) hJ dX0_join_24 (by decide) ?_
  refine k_iast hJ 3 rfl (m 0) (by omega) (by decide) (hs_noses g a (vUp (vUp m (4 + 10 * (m 0) + 0) kd) (4 + 10 * (m 0) + 1) plc) lt (m 0) 5) dX0_join_25 ?_
  refine k_aload_n hJ dX0_join_26 0 rfl ?_
  refine gf_X0_34 hJ 0 rfl rfl dX0_join_27 ?_
  refine k_iload_n hJ dX0_join_30 3 rfl ?_
  refine k_iconst (v := nI 0) hJ dX0_join_31 (by decide) ?_
  refine k_iast hJ 4 rfl (m 0) (by omega) (by decide) (hs_colds g a (vUp (vUp (vUp m (4 + 10 * (m 0) + 0) kd) (4 + 10 * (m 0) + 1) plc) (4 + 10 * (m 0) + 2) 5) lt (m 0) 0) dX0_join_32 ?_
  refine k_iconst (v := nI 0) hJ dX0_join_33 (by decide) ?_
  refine k_istore (lv1 := [(0, .ref (a 0)), (1, .int (nI kd)), (2, .int (nI plc)), (3, .int (nI (m 0))), (4, .int (nI 0))]) hJ dX0_join_34 (by decide) [1, 2, 3, 4, 0] rfl ?_
  exact L36 7 0 _ (by omega) (by omega) (fun j => by rw [if_neg (by omega)])
def vPut (m : Nat → Nat) (p t v : Nat) : Nat → Nat := if t = 0 then vUp m 2 v else if t = 1 then vUp m (4 + 10 * p + 1) v else vUp m (4 + 10 * p + 0) v
set_option maxHeartbeats 4000000 in
set_option maxRecDepth 100000 in
theorem ct_X0_put (l : Launch) (g : KG) (a m : Nat → Nat) (lt : Nat → Int32) (p t v : Nat)  (hp : p < 8) (ht : t < 2 ^ 31) : CV l yX0_put cX0_put 4 none (rmK 0) g [.ref (a 0), .int (nI p), .int (nI t), .int (nI v)] (hallW g a m lt) (hallW g a (vPut m p t v) lt) := by
  refine k_bodyV (by decide) (Nat.le_of_ble_eq_true rfl) (fun J hJ hR => ?_)
  show J (hallW g a m lt) [(0, .ref (a 0)), (1, .int (nI p)), (2, .int (nI t)), (3, .int (nI v))] 0 []
  refine k_iload_n hJ dX0_put_0 2 rfl ?_
  refine n_if_ne (tgt := 12) hJ dX0_put_1 (by decide) (by omega) (fun c1 => ?_) (fun c1 => ?_)
  · refine k_iload_n hJ dX0_put_12 2 rfl ?_
    refine k_iconst (v := nI 1) hJ dX0_put_13 (by decide) ?_
    refine n_icmp_ne (tgt := 27) hJ dX0_put_14 (by decide) (by omega) (by omega) (fun c14 => ?_) (fun c14 => ?_)
    · refine k_aload_n hJ dX0_put_27 0 rfl ?_
      refine gf_X0_24 hJ 0 rfl rfl dX0_put_28 ?_
      refine k_iload_n hJ dX0_put_31 1 rfl ?_
      refine k_iload_n hJ dX0_put_32 3 rfl ?_
      refine k_iast hJ 1 rfl p (by omega) (by decide) (hs_kinds g a m lt p v) dX0_put_33 ?_
      exact k_eqw (ws2 := hallW g a (vPut m p t v) lt) (by unfold vPut; (repeat' split) <;> first | rfl | omega) (hR _ _ () () dX0_put_34 trivial)
    · refine k_aload_n hJ dX0_put_17 0 rfl ?_
      refine gf_X0_28 hJ 0 rfl rfl dX0_put_18 ?_
      refine k_iload_n hJ dX0_put_21 1 rfl ?_
      refine k_iload_n hJ dX0_put_22 3 rfl ?_
      refine k_iast hJ 2 rfl p (by omega) (by decide) (hs_places g a m lt p v) dX0_put_23 ?_
      refine k_goto (tgt := 34) hJ dX0_put_24 (by decide) ?_
      exact k_eqw (ws2 := hallW g a (vPut m p t v) lt) (by unfold vPut; (repeat' split) <;> first | rfl | omega) (hR _ _ () () dX0_put_34 trivial)
  · refine k_aload_n hJ dX0_put_4 0 rfl ?_
    refine k_iload_n hJ dX0_put_5 3 rfl ?_
    refine pf_X0_9 hJ 0 rfl (hs_wind g a m lt v) (Nat.le_of_ble_eq_true rfl) dX0_put_6 ?_
    refine k_goto (tgt := 34) hJ dX0_put_9 (by decide) ?_
    exact k_eqw (ws2 := hallW g a (vPut m p t v) lt) (by unfold vPut; (repeat' split) <;> first | rfl | omega) (hR _ _ () () dX0_put_34 trivial)
theorem vStrong_skip {m : Nat → Nat} {p d n : Nat} (h : n = p ∨ vPl m n ≠ vPl m p) : vStrong m p d (n + 1) = vStrong m p d n := by
  rw [vStrong]
  exact if_neg (fun q => h.elim (fun e => q.1 e) (fun e => e q.2.1))
theorem vStrong_none {m : Nat → Nat} {p d n : Nat} (hO : vStrong m p d n = none) (h1 : n ≠ p) (h2 : vPl m n = vPl m p) : vStrong m p d (n + 1) = some n := by
  rw [vStrong, hO]
  exact if_pos ⟨h1, h2, rfl⟩
theorem vStrong_keep {m : Nat → Nat} {p d n b : Nat} (hO : vStrong m p d n = some b) (h : vSc m n d ≤ vSc m b d) : vStrong m p d (n + 1) = some b := by
  rw [vStrong, hO]
  exact if_neg (fun q => by have := of_decide_eq_true q.2.2; omega)
theorem vStrong_more {m : Nat → Nat} {p d n b : Nat} (hO : vStrong m p d n = some b) (h1 : n ≠ p) (h2 : vPl m n = vPl m p) (h : vSc m b d < vSc m n d) : vStrong m p d (n + 1) = some n := by
  rw [vStrong, hO]
  exact if_pos ⟨h1, h2, decide_eq_true h⟩
set_option maxHeartbeats 4000000 in
set_option maxRecDepth 100000 in
theorem ct_X0_strongestBeside (l : Launch) (g : KG) (a m : Nat → Nat) (lt : Nat → Int32) (p d : Nat)  {B : Nat} (hB : B < 2 ^ 30) (hm : vOk B m) (hp : p < 8) (hd : d < 6) : CI l yX0_strongestBeside cX0_strongestBeside 6 (some .int) (rmK 0) g [.ref (a 0), .int (nI p), .int (nI d)] (hallW g a m lt) (kOpt (vStrong m p d (m 0))) (hallW g a m lt) := by
  refine k_bodyI (by decide) (Nat.le_of_ble_eq_true rfl) (fun _ _ _ => rfl) (fun J hJ hR => ?_)
  have h0 := hm.1
  show J (hallW g a m lt) [(0, .ref (a 0)), (1, .int (nI p)), (2, .int (nI d))] 0 []
  have L13 : ∀ (k : Nat) (i : Nat), (i ≤ m 0) → (m 0 + 1 ≤ i + k) → J (hallW g a m lt) [(0, .ref (a 0)), (1, .int (nI p)), (2, .int (nI d)), (3, .ref (a (7 + d))), (4, .int (kOpt (vStrong m p d i))), (5, .int (nI i))] 13 [] := by
    intro k
    induction k with
    | zero => intro i hi hf; exfalso; omega
    | succ k ih =>
      intro i hi hf
      refine k_iload hJ dX0_strongestBeside_13 5 rfl ?_
      refine k_aload_n hJ dX0_strongestBeside_15 0 rfl ?_
      refine gf_X0_21 hJ 0 rfl rfl dX0_strongestBeside_16 ?_
      refine n_icmp_ge (tgt := 70) hJ dX0_strongestBeside_19 (by decide) (by omega) (by omega) (fun c19 => ?_) (fun c19 => ?_)
      · refine k_iload hJ dX0_strongestBeside_70 4 rfl ?_
        exact hR _ _ _ () dX0_strongestBeside_72 (by rw [show i = m 0 by omega])
      · refine k_iload hJ dX0_strongestBeside_22 5 rfl ?_
        refine k_iload_n hJ dX0_strongestBeside_24 1 rfl ?_
        refine n_icmp_eq (tgt := 64) hJ dX0_strongestBeside_25 (by decide) (by omega) (by omega) (fun c25 => ?_) (fun c25 => ?_)
        · refine n_iinc (b := 1) (lv1 := [(0, .ref (a 0)), (1, .int (nI p)), (2, .int (nI d)), (3, .ref (a (7 + d))), (4, .int (kOpt (vStrong m p d i))), (5, .int (nI (i + 1)))]) hJ dX0_strongestBeside_64 5 rfl (by decide) (by decide) [1, 2, 3, 4, 5, 0] rfl ?_
          refine k_goto (tgt := 13) hJ dX0_strongestBeside_67 (by decide) ?_
          refine k_eql (lv1 := [(0, .ref (a 0)), (1, .int (nI p)), (2, .int (nI d)), (3, .ref (a (7 + d))), (4, .int (kOpt (vStrong m p d (i + 1)))), (5, .int (nI (i + 1)))]) (by rw [vStrong_skip (Or.inl c25)]) ?_
          exact ih (i + 1) (by omega) (by omega)
        · refine k_aload_n hJ dX0_strongestBeside_28 0 rfl ?_
          refine gf_X0_28 hJ 0 rfl rfl dX0_strongestBeside_29 ?_
          refine k_iload hJ dX0_strongestBeside_32 5 rfl ?_
          refine k_iald hJ 2 rfl i (by omega) (by decide) rfl dX0_strongestBeside_34 ?_
          have hb34 : m (4 + 10 * i + 1) ≤ 47 := hm.pl (show i < 8 by omega)
          refine k_aload_n hJ dX0_strongestBeside_35 0 rfl ?_
          refine gf_X0_28 hJ 0 rfl rfl dX0_strongestBeside_36 ?_
          refine k_iload_n hJ dX0_strongestBeside_39 1 rfl ?_
          refine k_iald hJ 2 rfl p (by omega) (by decide) rfl dX0_strongestBeside_40 ?_
          have hb40 : m (4 + 10 * p + 1) ≤ 47 := hm.pl (show p < 8 by omega)
          refine n_icmp_ne (tgt := 64) hJ dX0_strongestBeside_41 (by decide) (by omega) (by omega) (fun c41 => ?_) (fun c41 => ?_)
          · refine n_iinc (b := 1) (lv1 := [(0, .ref (a 0)), (1, .int (nI p)), (2, .int (nI d)), (3, .ref (a (7 + d))), (4, .int (kOpt (vStrong m p d i))), (5, .int (nI (i + 1)))]) hJ dX0_strongestBeside_64 5 rfl (by decide) (by decide) [1, 2, 3, 4, 5, 0] rfl ?_
            refine k_goto (tgt := 13) hJ dX0_strongestBeside_67 (by decide) ?_
            refine k_eql (lv1 := [(0, .ref (a 0)), (1, .int (nI p)), (2, .int (nI d)), (3, .ref (a (7 + d))), (4, .int (kOpt (vStrong m p d (i + 1)))), (5, .int (nI (i + 1)))]) (by rw [vStrong_skip (Or.inr c41)]) ?_
            exact ih (i + 1) (by omega) (by omega)
          · rcases hO : vStrong m p d i with _ | b
            · show J (hallW g a m lt) [(0, .ref (a 0)), (1, .int (nI p)), (2, .int (nI d)), (3, .ref (a (7 + d))), (4, .int (-1)), (5, .int (nI i))] 44 []
              refine k_iload hJ dX0_strongestBeside_44 4 rfl ?_
              refine k_if_lt (tgt := 60) hJ dX0_strongestBeside_46 (by decide) (fun c46 => ?_) (fun c46 => ?_)
              · refine k_iload hJ dX0_strongestBeside_60 5 rfl ?_
                refine k_istore (lv1 := [(0, .ref (a 0)), (1, .int (nI p)), (2, .int (nI d)), (3, .ref (a (7 + d))), (4, .int (nI i)), (5, .int (nI i))]) hJ dX0_strongestBeside_62 (by decide) [1, 2, 3, 4, 0, 5] rfl ?_
                refine n_iinc (b := 1) (lv1 := [(0, .ref (a 0)), (1, .int (nI p)), (2, .int (nI d)), (3, .ref (a (7 + d))), (4, .int (nI i)), (5, .int (nI (i + 1)))]) hJ dX0_strongestBeside_64 5 rfl (by decide) (by decide) [1, 2, 3, 4, 5, 0] rfl ?_
                refine k_goto (tgt := 13) hJ dX0_strongestBeside_67 (by decide) ?_
                refine k_eql (lv1 := [(0, .ref (a 0)), (1, .int (nI p)), (2, .int (nI d)), (3, .ref (a (7 + d))), (4, .int (kOpt (vStrong m p d (i + 1)))), (5, .int (nI (i + 1)))]) (by rw [vStrong_none hO c25 c41]; rfl) ?_
                exact ih (i + 1) (by omega) (by omega)
              · exact absurd (by decide) c46
            · show J (hallW g a m lt) [(0, .ref (a 0)), (1, .int (nI p)), (2, .int (nI d)), (3, .ref (a (7 + d))), (4, .int (nI b)), (5, .int (nI i))] 44 []
              have hbi := vStrong_lt hO
              refine k_iload hJ dX0_strongestBeside_44 4 rfl ?_
              refine n_if_lt (tgt := 60) hJ dX0_strongestBeside_46 (by decide) (by omega) (fun c46 => ?_) (fun c46 => ?_)
              · exact absurd c46 (by omega)
              · refine k_aload_n hJ dX0_strongestBeside_49 3 rfl ?_
                refine k_iload hJ dX0_strongestBeside_50 5 rfl ?_
                refine k_iald hJ (7 + d) (hallW_row g a m lt (by omega)) i (by omega) (by decide) rfl dX0_strongestBeside_52 ?_
                have hb52 : m (4 + 10 * i + (4 + d)) ≤ 99 := hm.sc (show i < 8 by omega) (show d < 6 by omega)
                refine k_aload_n hJ dX0_strongestBeside_53 3 rfl ?_
                refine k_iload hJ dX0_strongestBeside_54 4 rfl ?_
                refine k_iald hJ (7 + d) (hallW_row g a m lt (by omega)) b (by omega) (by decide) rfl dX0_strongestBeside_56 ?_
                have hb56 : m (4 + 10 * b + (4 + d)) ≤ 99 := hm.sc (show b < 8 by omega) (show d < 6 by omega)
                refine n_icmp_le (tgt := 64) hJ dX0_strongestBeside_57 (by decide) (by omega) (by omega) (fun c57 => ?_) (fun c57 => ?_)
                · refine n_iinc (b := 1) (lv1 := [(0, .ref (a 0)), (1, .int (nI p)), (2, .int (nI d)), (3, .ref (a (7 + d))), (4, .int (nI b)), (5, .int (nI (i + 1)))]) hJ dX0_strongestBeside_64 5 rfl (by decide) (by decide) [1, 2, 3, 4, 5, 0] rfl ?_
                  refine k_goto (tgt := 13) hJ dX0_strongestBeside_67 (by decide) ?_
                  refine k_eql (lv1 := [(0, .ref (a 0)), (1, .int (nI p)), (2, .int (nI d)), (3, .ref (a (7 + d))), (4, .int (kOpt (vStrong m p d (i + 1)))), (5, .int (nI (i + 1)))]) (by rw [vStrong_keep hO (by show m _ ≤ m _; omega)]; rfl) ?_
                  exact ih (i + 1) (by omega) (by omega)
                · refine k_iload hJ dX0_strongestBeside_60 5 rfl ?_
                  refine k_istore (lv1 := [(0, .ref (a 0)), (1, .int (nI p)), (2, .int (nI d)), (3, .ref (a (7 + d))), (4, .int (nI i)), (5, .int (nI i))]) hJ dX0_strongestBeside_62 (by decide) [1, 2, 3, 4, 0, 5] rfl ?_
                  refine n_iinc (b := 1) (lv1 := [(0, .ref (a 0)), (1, .int (nI p)), (2, .int (nI d)), (3, .ref (a (7 + d))), (4, .int (nI i)), (5, .int (nI (i + 1)))]) hJ dX0_strongestBeside_64 5 rfl (by decide) (by decide) [1, 2, 3, 4, 5, 0] rfl ?_
                  refine k_goto (tgt := 13) hJ dX0_strongestBeside_67 (by decide) ?_
                  refine k_eql (lv1 := [(0, .ref (a 0)), (1, .int (nI p)), (2, .int (nI d)), (3, .ref (a (7 + d))), (4, .int (kOpt (vStrong m p d (i + 1)))), (5, .int (nI (i + 1)))]) (by rw [vStrong_more hO c25 c41 (by show m _ < m _; omega)]; rfl) ?_
                  exact ih (i + 1) (by omega) (by omega)
  refine k_aload_n hJ dX0_strongestBeside_0 0 rfl ?_
  refine gf_X0_39 hJ 0 rfl rfl dX0_strongestBeside_1 ?_
  refine k_iload_n hJ dX0_strongestBeside_4 2 rfl ?_
  refine k_aald (f := fun i => some (a (7 + i))) (b := a (7 + d)) hJ 5 rfl d (by omega) (by decide) rfl dX0_strongestBeside_5 ?_
  refine k_astore_n (lv1 := [(0, .ref (a 0)), (1, .int (nI p)), (2, .int (nI d)), (3, .ref (a (7 + d)))]) hJ dX0_strongestBeside_6 (by decide) [1, 2, 3, 0] rfl ?_
  refine k_iconst (v := (-1)) hJ dX0_strongestBeside_7 (by decide) ?_
  refine k_istore (lv1 := [(0, .ref (a 0)), (1, .int (nI p)), (2, .int (nI d)), (3, .ref (a (7 + d))), (4, .int (-1))]) hJ dX0_strongestBeside_8 (by decide) [1, 2, 3, 4, 0] rfl ?_
  refine k_iconst (v := nI 0) hJ dX0_strongestBeside_10 (by decide) ?_
  refine k_istore (lv1 := [(0, .ref (a 0)), (1, .int (nI p)), (2, .int (nI d)), (3, .ref (a (7 + d))), (4, .int (-1)), (5, .int (nI 0))]) hJ dX0_strongestBeside_11 (by decide) [1, 2, 3, 4, 5, 0] rfl ?_
  exact L13 (m 0 + 1) 0 (by omega) (by omega)
