theorem hW_i {tp : Nat → Nat} {tl q i : Nat} (hi : i < 12) (h1 : q < tl ∧ vLt (tp q) = true) (h2 : tkE tp tl q = q + kLen.getD i 0) (h3 : ∀ j, j < kLen.getD i 0 → tp (q + j) = (kWl.getD i []).getD j 0) : hW tp tl (kWl.getD i []) q = true := by
  unfold hW
  rw [decide_eq_true_iff, kWl_len i hi]
  exact ⟨h1.1, h1.2, h2, h3⟩
theorem hW_n1 {tp : Nat → Nat} {tl q i : Nat} (hi : i < 12) (h : tkE tp tl q ≠ q + kLen.getD i 0) : hW tp tl (kWl.getD i []) q = false := by
  unfold hW
  rw [kWl_len i hi]
  exact decide_eq_false (fun z => h z.2.2.1)
theorem hW_n2 {tp : Nat → Nat} {tl q i j : Nat} (hi : i < 12) (hj : j < kLen.getD i 0) (h : tp (q + j) ≠ (kWl.getD i []).getD j 0) : hW tp tl (kWl.getD i []) q = false := by
  unfold hW
  rw [kWl_len i hi]
  exact decide_eq_false (fun z => h (z.2.2.2 j hj))
set_option maxHeartbeats 4000000 in
set_option maxRecDepth 100000 in
theorem ct_X2_isWord (l : Launch) (g : KG) (a tp : Nat → Nat) (tl q va : Nat) (i : Nat)  (ht : tl ≤ 120) (htp : ∀ i, tp i < 256) (hq : q ≤ tl) (hi : i < 12) : CI l yX2_isWord cX2_isWord 3 (some .boolean) (rmK 6) g [.ref (a 2), .ref (g.2.2.1 i)] (tapW g a tp tl (tkE tp tl q) (tkK tp tl q) q va) (kb (hW tp tl (kWl.getD i []) q)) (tapW g a tp tl (tkE tp tl q) (tkK tp tl q) q va) := by
  refine k_bodyI (by decide) (Nat.le_of_ble_eq_true rfl) (fun _ _ h => by rw [h]; exact kb_nar _) (fun J hJ hR => ?_)
  have hk4 := tkK_le tp tl q
  have hge := tkE_ge tp tl q
  have hle := tkE_le (tp := tp) hq
  have h9 := kWl_le i hi
  show J (tapW g a tp tl (tkE tp tl q) (tkK tp tl q) q va) [(0, .ref (a 2)), (1, .ref (g.2.2.1 i))] 0 []
  refine k_aload_n hJ dX2_isWord_0 0 rfl ?_
  refine gf_X2_22 (v := .int (nI (tkK tp tl q))) hJ 0 rfl rfl dX2_isWord_1 ?_
  refine k_iconst (v := nI 1) hJ dX2_isWord_4 (by decide) ?_
  refine n_icmp_ne (tgt := 24) hJ dX2_isWord_5 (by decide) (by omega) (by omega) (fun c5 => ?_) (fun c5 => ?_)
  · refine k_iconst (v := nI 0) hJ dX2_isWord_24 (by decide) ?_
    exact hR _ _ _ () dX2_isWord_25 (by show kb false = _; rw [hW_no (fun z => c5 (tkK_1.mpr z))])
  · refine k_aload_n hJ dX2_isWord_8 0 rfl ?_
    refine gf_X2_19 (v := .int (nI (tkE tp tl q))) hJ 0 rfl rfl dX2_isWord_9 ?_
    refine k_aload_n hJ dX2_isWord_12 0 rfl ?_
    refine gf_X2_25 (v := .int (nI q)) hJ 0 rfl rfl dX2_isWord_13 ?_
    refine n_isub hJ dX2_isWord_16 (by omega) ?_
    refine k_aload_n hJ dX2_isWord_17 1 rfl ?_
    refine c_RI (As := []) (st := [.int (nI ((tkE tp tl q) - q))]) hJ i hi (ct_J0_length_8abf5 l g i hi) Fr.none mv_J0_length_8abf5 rfl ml_X2_122 (kRm_ok (by decide) (by decide)) rfl rfl (Nat.le_of_ble_eq_true rfl) dX2_isWord_18 ?_
    refine n_icmp_eq (tgt := 26) hJ dX2_isWord_21 (by decide) (by omega) (by omega) (fun c21 => ?_) (fun c21 => ?_)
    · refine k_iconst (v := nI 0) hJ dX2_isWord_26 (by decide) ?_
      refine k_istore_n (lv1 := [(0, .ref (a 2)), (1, .ref (g.2.2.1 i)), (2, .int (nI 0))]) hJ dX2_isWord_27 (by decide) [1, 2, 0] rfl ?_
      have L28 : ∀ (fu : Nat) (j : Nat), (j ≤ kLen.getD i 0) → (kLen.getD i 0 + 1 ≤ j + fu) → (∀ x, x < j → tp (q + x) = (kWl.getD i []).getD x 0) → J (tapW g a tp tl (tkE tp tl q) (tkK tp tl q) q va) [(0, .ref (a 2)), (1, .ref (g.2.2.1 i)), (2, .int (nI j))] 28 [] := by
        intro fu
        induction fu with
        | zero => intro j hj hf hI; exfalso; omega
        | succ fu ih =>
          intro j hj hf hI
          refine k_iload_n hJ dX2_isWord_28 2 rfl ?_
          refine k_aload_n hJ dX2_isWord_29 1 rfl ?_
          refine c_RI (As := []) (st := [.int (nI j)]) hJ i hi (ct_J0_length_8abf5 l g i hi) Fr.none mv_J0_length_8abf5 rfl ml_X2_122 (kRm_ok (by decide) (by decide)) rfl rfl (Nat.le_of_ble_eq_true rfl) dX2_isWord_30 ?_
          refine n_icmp_ge (tgt := 63) hJ dX2_isWord_33 (by decide) (by omega) (by omega) (fun c33 => ?_) (fun c33 => ?_)
          · refine k_iconst (v := nI 1) hJ dX2_isWord_63 (by decide) ?_
            exact hR _ _ _ () dX2_isWord_64 (by show kb true = _; rw [hW_i hi (tkK_1.mp c5) (by omega) (fun j2 h2 => hI j2 (by omega))])
          · refine k_aload_n hJ dX2_isWord_36 0 rfl ?_
            refine gf_X2_15 (v := .ref (a 3)) hJ 0 rfl rfl dX2_isWord_37 ?_
            refine k_aload_n hJ dX2_isWord_40 0 rfl ?_
            refine gf_X2_25 (v := .int (nI q)) hJ 0 rfl rfl dX2_isWord_41 ?_
            refine k_iload_n hJ dX2_isWord_44 2 rfl ?_
            refine n_iadd hJ dX2_isWord_45 ?_
            refine k_iald hJ 1 rfl (q + j) (by omega) (by decide) rfl dX2_isWord_46 ?_
            refine k_aload_n hJ dX2_isWord_47 1 rfl ?_
            refine k_iload_n hJ dX2_isWord_48 2 rfl ?_
            have hjl : j < kLen.getD i 0 := by omega
            refine c_RI (As := [.int (nI j)]) (st := [.int (nI (tp (q + j)))]) hJ i hi (ct_J0_charAt_5068e l g i j hi hjl) Fr.none mv_J0_charAt_5068e rfl ml_X2_126 (kRm_ok (by decide) (by decide)) rfl rfl (Nat.le_of_ble_eq_true rfl) dX2_isWord_49 ?_
            have hch := kWl_b i hi j (by omega)
            refine n_icmp_eq (tgt := 57) hJ dX2_isWord_52 (by decide) (Nat.lt_trans (htp _) (by decide)) (by omega) (fun c52 => ?_) (fun c52 => ?_)
            · refine n_iinc (b := 1) (lv1 := [(0, .ref (a 2)), (1, .ref (g.2.2.1 i)), (2, .int (nI (j + 1)))]) hJ dX2_isWord_57 2 rfl (by decide) (by decide) [1, 2, 0] rfl ?_
              refine k_goto (tgt := 28) hJ dX2_isWord_60 (by decide) ?_
              exact ih (j + 1) (by omega) (by omega) (fun x hx => by rcases Nat.lt_or_ge x j with r | r; exact hI x r; rw [show x = j by omega]; exact c52)
            · refine k_iconst (v := nI 0) hJ dX2_isWord_55 (by decide) ?_
              exact hR _ _ _ () dX2_isWord_56 (by show kb false = _; rw [hW_n2 hi hjl c52])
      exact L28 (kLen.getD i 0 + 1) 0 (by omega) (by omega) (fun x hx => absurd hx (by omega))
    · refine k_iconst (v := nI 0) hJ dX2_isWord_24 (by decide) ?_
      exact hR _ _ _ () dX2_isWord_25 (by show kb false = _; rw [hW_n1 hi (by omega)])
set_option maxHeartbeats 4000000 in
set_option maxRecDepth 100000 in
theorem ct_X2_nameOf (l : Launch) (g : KG) (k : Nat)  (hk : k < 6) : CA l yX2_nameOf cX2_nameOf 1 (some (.object "java/lang/String")) (rmK 0) g [.int (nI k)] ([]) (g.2.2.1 (kIx k)) ([]) := by
  refine k_bodyA (by decide) (Nat.le_of_ble_eq_true rfl) (fun J hJ hR => ?_)
  show J ([]) [(0, .int (nI k))] 0 []
  refine k_iload_n hJ dX2_nameOf_0 0 rfl ?_
  rcases (show k = 0 ∨ k = 1 ∨ k = 2 ∨ k = 3 ∨ k = 4 ∨ k = 5 from by omega) with c1 | c1 | c1 | c1 | c1 | c1
  · refine n_tabOut (tgt := 51) hJ dX2_nameOf_1 (by omega) (by omega) (by decide) ?_
    refine k_ldcS hJ 11 rfl dX2_nameOf_51 ?_
    exact hR _ _ _ () dX2_nameOf_53 (by rw [c1]; rfl)
  · refine n_tabIn (c := 1) (tgt := 36) hJ dX2_nameOf_1 c1 (by decide) (by decide) (by decide) rfl (by decide) ?_
    refine k_ldcS hJ 6 rfl dX2_nameOf_36 ?_
    exact hR _ _ _ () dX2_nameOf_38 (by rw [c1]; rfl)
  · refine n_tabIn (c := 2) (tgt := 39) hJ dX2_nameOf_1 c1 (by decide) (by decide) (by decide) rfl (by decide) ?_
    refine k_ldcS hJ 7 rfl dX2_nameOf_39 ?_
    exact hR _ _ _ () dX2_nameOf_41 (by rw [c1]; rfl)
  · refine n_tabIn (c := 3) (tgt := 42) hJ dX2_nameOf_1 c1 (by decide) (by decide) (by decide) rfl (by decide) ?_
    refine k_ldcS hJ 8 rfl dX2_nameOf_42 ?_
    exact hR _ _ _ () dX2_nameOf_44 (by rw [c1]; rfl)
  · refine n_tabIn (c := 4) (tgt := 45) hJ dX2_nameOf_1 c1 (by decide) (by decide) (by decide) rfl (by decide) ?_
    refine k_ldcS hJ 9 rfl dX2_nameOf_45 ?_
    exact hR _ _ _ () dX2_nameOf_47 (by rw [c1]; rfl)
  · refine n_tabIn (c := 5) (tgt := 48) hJ dX2_nameOf_1 c1 (by decide) (by decide) (by decide) rfl (by decide) ?_
    refine k_ldcS hJ 10 rfl dX2_nameOf_48 ?_
    exact hR _ _ _ () dX2_nameOf_50 (by rw [c1]; rfl)
set_option maxHeartbeats 4000000 in
set_option maxRecDepth 100000 in
theorem ct_X2_kindNamed (l : Launch) (g : KG) (a tp : Nat → Nat) (tl q va : Nat)  (ht : tl ≤ 120) (htp : ∀ i, tp i < 256) (hq : q ≤ tl) : CI l yX2_kindNamed cX2_kindNamed 2 (some .int) (rmK 7) g [.ref (a 2)] (tapW g a tp tl (tkE tp tl q) (tkK tp tl q) q va) (kOpt (hKd tp tl q)) (tapW g a tp tl (tkE tp tl q) (tkK tp tl q) q va) := by
  refine k_bodyI (by decide) (Nat.le_of_ble_eq_true rfl) (fun _ _ _ => rfl) (fun J hJ hR => ?_)
  show J (tapW g a tp tl (tkE tp tl q) (tkK tp tl q) q va) [(0, .ref (a 2))] 0 []
  refine k_iconst (v := nI 0) hJ dX2_kindNamed_0 (by decide) ?_
  refine k_istore_n (lv1 := [(0, .ref (a 2)), (1, .int (nI 0))]) hJ dX2_kindNamed_1 (by decide) [1, 0] rfl ?_
  have L2 : ∀ (fu : Nat) (k : Nat), (k ≤ 6) → (7 ≤ k + fu) → (∀ j, j < k → hW tp tl (kWl.getD (kIx j) []) q = false) → J (tapW g a tp tl (tkE tp tl q) (tkK tp tl q) q va) [(0, .ref (a 2)), (1, .int (nI k))] 2 [] := by
    intro fu
    induction fu with
    | zero => intro k hk hf hI; exfalso; omega
    | succ fu ih =>
      intro k hk hf hI
      refine k_iload_n hJ dX2_kindNamed_2 1 rfl ?_
      refine k_bipush (v := nI 6) hJ dX2_kindNamed_3 (by decide) ?_
      refine n_icmp_ge (tgt := 27) hJ dX2_kindNamed_5 (by decide) (by omega) (by omega) (fun c5 => ?_) (fun c5 => ?_)
      · refine k_iconst (v := (-1)) hJ dX2_kindNamed_27 (by decide) ?_
        exact hR _ _ _ () dX2_kindNamed_28 (by rw [hKd_none (fun j hj => hI j (by omega))]; rfl)
      · refine k_aload_n hJ dX2_kindNamed_8 0 rfl ?_
        refine k_iload_n hJ dX2_kindNamed_9 1 rfl ?_
        refine c_SA (As := [.int (nI k)]) (st := [.ref (a 2)]) hJ (ct_X2_nameOf l g k (by omega)) Fr.none ms_X2_nameOf ml_X2_106 (kRm_ok (by decide) (by decide)) rfl rfl (Nat.le_of_ble_eq_true rfl) dX2_kindNamed_10 ?_
        refine c_VI (As := [.ref (g.2.2.1 (kIx k))]) (st := []) hJ (ct_X2_isWord l g a tp tl q va (kIx k) ht htp hq (by unfold kIx; split <;> omega)) (Fr.all rfl) mv_X2_isWord ml_X2_40 0 rfl rfl rfl (kRm_ok (by decide) (by decide)) rfl rfl (Nat.le_of_ble_eq_true rfl) dX2_kindNamed_13 ?_
        refine b_if_eq (tgt := 21) hJ dX2_kindNamed_16 (by decide) (fun c16 => ?_) (fun c16 => ?_)
        · refine n_iinc (b := 1) (lv1 := [(0, .ref (a 2)), (1, .int (nI (k + 1)))]) hJ dX2_kindNamed_21 1 rfl (by decide) (by decide) [1, 0] rfl ?_
          refine k_goto (tgt := 2) hJ dX2_kindNamed_24 (by decide) ?_
          exact ih (k + 1) (by omega) (by omega) (fun j hj => by rcases Nat.lt_or_ge j k with r | r; exact hI j r; rw [show j = k by omega]; exact c16)
        · refine k_iload_n hJ dX2_kindNamed_19 1 rfl ?_
          exact hR _ _ _ () dX2_kindNamed_20 (by rw [hKd_some (by omega) hI c16]; rfl)
  exact L2 7 0 (by omega) (by omega) (fun j hj => absurd hj (by omega))
theorem vaN_le {tp : Nat → Nat} {tl q va : Nat} (h : tkK tp tl q = 2) : vaN tp tl q va ≤ 1000 := by
  unfold vaN
  rw [if_pos (show bD tp tl q = true from decide_eq_true (tkK_2.mp h))]
  omega
theorem hN_v {tp : Nat → Nat} {tl q va lo hi : Nat} (hb : True) (hh : hi ≤ 999) : hNum tp tl lo hi q = true ↔ tkK tp tl q = 2 ∧ lo ≤ vaN tp tl q va ∧ vaN tp tl q va ≤ hi := by
  rw [tkK_2]
  unfold hNum
  rw [decide_eq_true_iff]
  constructor
  · rintro ⟨h1, h2, h3, h4⟩
    have e : vaN tp tl q va = min (hVal tp tl q) 1000 := if_pos (show bD tp tl q = true from decide_eq_true ⟨h1, h2⟩)
    exact ⟨⟨h1, h2⟩, by omega, by omega⟩
  · rintro ⟨⟨h1, h2⟩, h3, h4⟩
    have e : vaN tp tl q va = min (hVal tp tl q) 1000 := if_pos (show bD tp tl q = true from decide_eq_true ⟨h1, h2⟩)
    exact ⟨h1, h2, by omega, by omega⟩
set_option maxHeartbeats 4000000 in
set_option maxRecDepth 100000 in
theorem ct_X2_takesNumber (l : Launch) (g : KG) (a tp : Nat → Nat) (tl q va : Nat) (lo hi : Nat)  (ht : tl ≤ 120) (htp : ∀ i, tp i < 256) (hq : q ≤ tl) (hlo : lo ≤ 999) (hh : hi ≤ 999) : CI l yX2_takesNumber cX2_takesNumber 3 (some .boolean) (rmK 3) g [.ref (a 2), .int (nI lo), .int (nI hi)] (tapW g a tp tl (tkE tp tl q) (tkK tp tl q) q va) (kb (hNum tp tl lo hi (tkN tp tl q))) (tapW g a tp tl (tkE tp tl (tkN tp tl q)) (tkK tp tl (tkN tp tl q)) (tkN tp tl q) (vaN tp tl (tkN tp tl q) va)) := by
  refine k_bodyI (by decide) (Nat.le_of_ble_eq_true rfl) (fun _ _ h => by rw [h]; exact kb_nar _) (fun J hJ hR => ?_)
  have hk4 := tkK_le tp tl (tkN tp tl q)
  have hb := True.intro
  show J (tapW g a tp tl (tkE tp tl q) (tkK tp tl q) q va) [(0, .ref (a 2)), (1, .int (nI lo)), (2, .int (nI hi))] 0 []
  refine k_aload_n hJ dX2_takesNumber_0 0 rfl ?_
  refine c_VV (As := []) (st := []) hJ (ct_X2_step l g a tp tl (tkE tp tl q) (tkK tp tl q) q va ht htp (tkE_le hq)) (Fr.all rfl) mv_X2_step ml_X2_31 0 rfl rfl rfl (kRm_ok (by decide) (by decide)) rfl rfl (Nat.le_of_ble_eq_true rfl) dX2_takesNumber_1 ?_
  refine k_aload_n hJ dX2_takesNumber_4 0 rfl ?_
  refine gf_X2_22 (v := .int (nI (tkK tp tl (tkN tp tl q)))) hJ 0 rfl rfl dX2_takesNumber_5 ?_
  refine k_iconst (v := nI 2) hJ dX2_takesNumber_8 (by decide) ?_
  refine n_icmp_ne (tgt := 32) hJ dX2_takesNumber_9 (by decide) (by omega) (by omega) (fun c9 => ?_) (fun c9 => ?_)
  · refine k_iconst (v := nI 0) hJ dX2_takesNumber_32 (by decide) ?_
    exact hR _ _ _ () dX2_takesNumber_33 (by show kb false = _; refine congrArg kb ?_; exact (Bool.eq_false_iff.mpr (fun z => c9 ((hN_v (va := va) hb hh).mp z).1)).symm)
  · have hv4 := vaN_le (va := va) c9
    refine k_aload_n hJ dX2_takesNumber_12 0 rfl ?_
    refine gf_X2_28 (v := .int (nI (vaN tp tl (tkN tp tl q) va))) hJ 0 rfl rfl dX2_takesNumber_13 ?_
    refine k_iload_n hJ dX2_takesNumber_16 1 rfl ?_
    refine n_icmp_lt (tgt := 32) hJ dX2_takesNumber_17 (by decide) (by omega) (by omega) (fun c17 => ?_) (fun c17 => ?_)
    · refine k_iconst (v := nI 0) hJ dX2_takesNumber_32 (by decide) ?_
      exact hR _ _ _ () dX2_takesNumber_33 (by show kb false = _; refine congrArg kb ?_; exact (Bool.eq_false_iff.mpr (fun z => absurd ((hN_v (va := va) hb hh).mp z).2.1 (by omega))).symm)
    · refine k_aload_n hJ dX2_takesNumber_20 0 rfl ?_
      refine gf_X2_28 (v := .int (nI (vaN tp tl (tkN tp tl q) va))) hJ 0 rfl rfl dX2_takesNumber_21 ?_
      refine k_iload_n hJ dX2_takesNumber_24 2 rfl ?_
      refine n_icmp_gt (tgt := 32) hJ dX2_takesNumber_25 (by decide) (by omega) (by omega) (fun c25 => ?_) (fun c25 => ?_)
      · refine k_iconst (v := nI 0) hJ dX2_takesNumber_32 (by decide) ?_
        exact hR _ _ _ () dX2_takesNumber_33 (by show kb false = _; refine congrArg kb ?_; exact (Bool.eq_false_iff.mpr (fun z => absurd ((hN_v (va := va) hb hh).mp z).2.2 (by omega))).symm)
      · refine k_iconst (v := nI 1) hJ dX2_takesNumber_28 (by decide) ?_
        refine k_goto (tgt := 33) hJ dX2_takesNumber_29 (by decide) ?_
        exact hR _ _ _ () dX2_takesNumber_33 (by show kb true = _; refine congrArg kb ?_; exact ((hN_v hb hh).mpr ⟨c9, c17, c25⟩).symm)
