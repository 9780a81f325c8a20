set_option maxHeartbeats 4000000 in
set_option maxRecDepth 100000 in
theorem cp_law (l : Launch) (g : KG) (a aK aL aT : Nat → Nat) (j : CJ) (s : KS) (hs : kOk s) (x : Int32) (y : Int32) : CT l yX3_law cX3_law 4 (some .int) (rmK 2) g [.ref (a 0), .int x, .int y] (clsA g a aK aL aT s j) (S := CJ) oI (fun r _ => r = (sp_law s x y).1) (fun j => clsA g a aK aL aT (sp_law s x y).2 j) := by
  obtain ⟨m, k, kf, tp, tl, sb, sz, nu, ct⟩ := s
  obtain ⟨jk, lk, lm, t, lt, nx, tk, sr, va⟩ := j
  obtain ⟨hm, hk, htl, htp, hsh⟩ := hs
  have h0 : m 0 ≤ 8 := hm.1
  have h1 : m 1 ≤ 9999 := hm.2.1
  have h2 : m 2 ≤ 4 := hm.2.2.1
  have h3 : m 3 ≤ 99 := hm.2.2.2.2.1
  have hB : 9999 < 2 ^ 30 := by decide
  refine k_bodyI (by decide) (Nat.le_of_ble_eq_true rfl) (fun _ _ _ => rfl) (fun J hJ hR => ?_)
  show J (clsW g a aK aL aT kf ct (if kf then k else jk) lk m lm t lt tp tl nx tk sr va sb sz nu) [(0, .ref (a 0)), (1, .int x), (2, .int y)] 0 []
  refine k_iload_n hJ dX3_law_0 1 rfl ?_
  refine k_if_ne (tgt := 31) hJ dX3_law_1 (by decide) (fun c1 => ?_) (fun (c1 : x = nI 0) => ?_)
  · refine k_iload_n hJ dX3_law_31 1 rfl ?_
    refine k_iconst (v := nI 1) hJ dX3_law_32 (by decide) ?_
    refine k_icmp_ne (tgt := 64) hJ dX3_law_33 (by decide) (fun (c33 : ¬ x = (1 : Int32)) => ?_) (fun (c33 : x = nI 1) => ?_)
    · refine k_aload_n hJ dX3_law_64 0 rfl ?_
      refine k_ldc hJ dX3_law_65 cw_X3_55 ?_
      refine k_eqs (st2 := [.int (kFi 0), .ref (a 0)]) (by rw [kFi_c0]) ?_
      refine c_VI (As := [.int (kFi 0)]) (st := []) hJ (ct_X3_tell l g a aK aL aT kf ct 0 (by decide)) cls_frX mv_X3_tell ml_X3_56 0 rfl rfl rfl (kRm_ok (by decide) (by decide)) rfl rfl (Nat.le_of_ble_eq_true rfl) dX3_law_67 ?_
      have hsp : sp_law (m, k, kf, tp, tl, sb, sz, nu, ct) x y = (kFi 0, (m, k, kf, tp, tl, sb, sz, nu, kTe ct 0)) := by simp [-Nat.add_zero, sp_law, sp_tell, nI_l0, nI_l1, nI_l2, nI_l3, nI_l4, tN_l0, tN_l1, tN_l2, tN_l3, tN_l4, c1, c33] <;> (repeat' (first | intro _ | refine ⟨?_, ?_⟩ | split)) <;> first | rfl | omega | (exfalso; omega)
      exact k_eqw (ws2 := clsA g a aK aL aT (sp_law (m, k, kf, tp, tl, sb, sz, nu, ct) x y).2 (jk, lk, lm, t, lt, nx, tk, sr, va)) (by rw [hsp]; rfl) (hR _ _ _ (jk, lk, lm, t, lt, nx, tk, sr, va) dX3_law_70 (by rw [hsp]))
    · subst c33
      refine k_iload_n hJ dX3_law_36 2 rfl ?_
      refine k_iconst (v := nI 1) hJ dX3_law_37 (by decide) ?_
      refine k_bipush (v := nI 99) hJ dX3_law_38 (by decide) ?_
      refine c_SI (As := [.int y, .int (nI 1), .int (nI 99)]) (st := []) hJ (ct_X3_within l g y 1 99) Fr.none ms_X3_within ml_X3_44 (kRm_ok (by decide) (by decide)) rfl rfl (Nat.le_of_ble_eq_true rfl) dX3_law_40 ?_
      refine b_if_eq (tgt := 64) hJ dX3_law_43 (by decide) (fun c43 => ?_) (fun c43 => ?_)
      · refine k_aload_n hJ dX3_law_64 0 rfl ?_
        refine k_ldc hJ dX3_law_65 cw_X3_55 ?_
        refine k_eqs (st2 := [.int (kFi 0), .ref (a 0)]) (by rw [kFi_c0]) ?_
        refine c_VI (As := [.int (kFi 0)]) (st := []) hJ (ct_X3_tell l g a aK aL aT kf ct 0 (by decide)) cls_frX mv_X3_tell ml_X3_56 0 rfl rfl rfl (kRm_ok (by decide) (by decide)) rfl rfl (Nat.le_of_ble_eq_true rfl) dX3_law_67 ?_
        have hsp : sp_law (m, k, kf, tp, tl, sb, sz, nu, ct) (nI 1) y = (kFi 0, (m, k, kf, tp, tl, sb, sz, nu, kTe ct 0)) := by simp [-Nat.add_zero, sp_law, sp_tell, nI_l0, nI_l1, nI_l2, nI_l3, nI_l4, tN_l0, tN_l1, tN_l2, tN_l3, tN_l4, c1, c43] <;> (repeat' (first | intro _ | refine ⟨?_, ?_⟩ | split)) <;> first | rfl | omega | (exfalso; omega)
        exact k_eqw (ws2 := clsA g a aK aL aT (sp_law (m, k, kf, tp, tl, sb, sz, nu, ct) (nI 1) y).2 (jk, lk, lm, t, lt, nx, tk, sr, va)) (by rw [hsp]; rfl) (hR _ _ _ (jk, lk, lm, t, lt, nx, tk, sr, va) dX3_law_70 (by rw [hsp]))
      · obtain ⟨py, hly, hpy, rfl⟩ := vBt_of (by omega) (by first | omega | (have := Nat.pow_le_pow_right (show 0 < 2 by decide) h0; omega)) c43
        refine k_aload_n hJ dX3_law_46 0 rfl ?_
        refine gf_X3_10 (v := .ref (aL 0)) hJ 0 rfl rfl dX3_law_47 ?_
        refine gf_X3_52 (v := .int (nI (m 3))) hJ 15 rfl rfl dX3_law_50 ?_
        refine k_istore_n (lv1 := [(0, .ref (a 0)), (1, .int (nI 1)), (2, .int (nI py)), (3, .int (nI (m 3)))]) hJ dX3_law_53 (by decide) [1, 2, 3, 0] rfl ?_
        refine k_aload_n hJ dX3_law_54 0 rfl ?_
        refine gf_X3_10 (v := .ref (aL 0)) hJ 0 rfl rfl dX3_law_55 ?_
        refine k_iload_n hJ dX3_law_58 2 rfl ?_
        refine pf_X3_52 (ws2 := clsW g a aK aL aT kf ct (if kf then k else jk) lk (vUp m 3 py) lm t lt tp tl nx tk sr va sb sz nu) hJ 15 rfl (cls_setL (i := 0) (by decide) (hs_due g aL m lm py)) (Nat.le_of_ble_eq_true rfl) dX3_law_59 ?_
        refine k_iload_n hJ dX3_law_62 3 rfl ?_
        have hsp : sp_law (m, k, kf, tp, tl, sb, sz, nu, ct) (nI 1) (nI py) = (nI (m 3), (vUp m 3 py, k, kf, tp, tl, sb, sz, nu, ct)) := by simp [-Nat.add_zero, sp_law, sp_tell, nI_l0, nI_l1, nI_l2, nI_l3, nI_l4, tN_l0, tN_l1, tN_l2, tN_l3, tN_l4, c1, c43, nI_clamp (show py < 2 ^ 31 by omega)] <;> (repeat' (first | intro _ | refine ⟨?_, ?_⟩ | split)) <;> first | rfl | omega | (exfalso; omega)
        exact k_eqw (ws2 := clsA g a aK aL aT (sp_law (m, k, kf, tp, tl, sb, sz, nu, ct) (nI 1) (nI py)).2 (jk, lk, lm, t, lt, nx, tk, sr, va)) (by rw [hsp]; rfl) (hR _ _ _ (jk, lk, lm, t, lt, nx, tk, sr, va) dX3_law_63 (by rw [hsp]))
  · subst c1
    refine k_iload_n hJ dX3_law_4 2 rfl ?_
    refine k_iconst (v := nI 0) hJ dX3_law_5 (by decide) ?_
    refine k_iconst (v := nI 4) hJ dX3_law_6 (by decide) ?_
    refine c_SI (As := [.int y, .int (nI 0), .int (nI 4)]) (st := []) hJ (ct_X3_within l g y 0 4) Fr.none ms_X3_within ml_X3_44 (kRm_ok (by decide) (by decide)) rfl rfl (Nat.le_of_ble_eq_true rfl) dX3_law_7 ?_
    refine k_eqs (st2 := [.int (kb (vIn y 5))]) (by rw [vBt_in _ (by decide)]) ?_
    refine b_if_eq (tgt := 31) hJ dX3_law_10 (by decide) (fun c10 => ?_) (fun c10 => ?_)
    · refine k_iload_n hJ dX3_law_31 1 rfl ?_
      refine k_iconst (v := nI 1) hJ dX3_law_32 (by decide) ?_
      refine n_icmp_ne (tgt := 64) hJ dX3_law_33 (by decide) (by omega) (by omega) (fun c33 => ?_) (fun c33 => ?_)
      · refine k_aload_n hJ dX3_law_64 0 rfl ?_
        refine k_ldc hJ dX3_law_65 cw_X3_55 ?_
        refine k_eqs (st2 := [.int (kFi 0), .ref (a 0)]) (by rw [kFi_c0]) ?_
        refine c_VI (As := [.int (kFi 0)]) (st := []) hJ (ct_X3_tell l g a aK aL aT kf ct 0 (by decide)) cls_frX mv_X3_tell ml_X3_56 0 rfl rfl rfl (kRm_ok (by decide) (by decide)) rfl rfl (Nat.le_of_ble_eq_true rfl) dX3_law_67 ?_
        have hsp : sp_law (m, k, kf, tp, tl, sb, sz, nu, ct) (nI 0) y = (kFi 0, (m, k, kf, tp, tl, sb, sz, nu, kTe ct 0)) := by simp [-Nat.add_zero, sp_law, sp_tell, nI_l0, nI_l1, nI_l2, nI_l3, nI_l4, tN_l0, tN_l1, tN_l2, tN_l3, tN_l4, c10] <;> (repeat' (first | intro _ | refine ⟨?_, ?_⟩ | split)) <;> first | rfl | omega | (exfalso; omega)
        exact k_eqw (ws2 := clsA g a aK aL aT (sp_law (m, k, kf, tp, tl, sb, sz, nu, ct) (nI 0) y).2 (jk, lk, lm, t, lt, nx, tk, sr, va)) (by rw [hsp]; rfl) (hR _ _ _ (jk, lk, lm, t, lt, nx, tk, sr, va) dX3_law_70 (by rw [hsp]))
      · exact absurd c33 (by decide)
    · obtain ⟨py, hpy, rfl⟩ := vIn_of (by omega) c10
      refine k_aload_n hJ dX3_law_13 0 rfl ?_
      refine gf_X3_10 (v := .ref (aL 0)) hJ 0 rfl rfl dX3_law_14 ?_
      refine gf_X3_48 (v := .int (nI (m 2))) hJ 15 rfl rfl dX3_law_17 ?_
      refine k_istore_n (lv1 := [(0, .ref (a 0)), (1, .int (nI 0)), (2, .int (nI py)), (3, .int (nI (m 2)))]) hJ dX3_law_20 (by decide) [1, 2, 3, 0] rfl ?_
      refine k_aload_n hJ dX3_law_21 0 rfl ?_
      refine gf_X3_10 (v := .ref (aL 0)) hJ 0 rfl rfl dX3_law_22 ?_
      refine k_iload_n hJ dX3_law_25 2 rfl ?_
      refine pf_X3_48 (ws2 := clsW g a aK aL aT kf ct (if kf then k else jk) lk (vUp m 2 py) lm t lt tp tl nx tk sr va sb sz nu) hJ 15 rfl (cls_setL (i := 0) (by decide) (hs_wind g aL m lm py)) (Nat.le_of_ble_eq_true rfl) dX3_law_26 ?_
      refine k_iload_n hJ dX3_law_29 3 rfl ?_
      have hsp : sp_law (m, k, kf, tp, tl, sb, sz, nu, ct) (nI 0) (nI py) = (nI (m 2), (vUp m 2 py, k, kf, tp, tl, sb, sz, nu, ct)) := by simp [-Nat.add_zero, sp_law, sp_tell, nI_l0, nI_l1, nI_l2, nI_l3, nI_l4, tN_l0, tN_l1, tN_l2, tN_l3, tN_l4, c10, nI_clamp (show py < 2 ^ 31 by omega)] <;> (repeat' (first | intro _ | refine ⟨?_, ?_⟩ | split)) <;> first | rfl | omega | (exfalso; omega)
      exact k_eqw (ws2 := clsA g a aK aL aT (sp_law (m, k, kf, tp, tl, sb, sz, nu, ct) (nI 0) (nI py)).2 (jk, lk, lm, t, lt, nx, tk, sr, va)) (by rw [hsp]; rfl) (hR _ _ _ (jk, lk, lm, t, lt, nx, tk, sr, va) dX3_law_30 (by rw [hsp]))
set_option maxHeartbeats 4000000 in
set_option maxRecDepth 100000 in
theorem cp_person (l : Launch) (g : KG) (a aK aL aT : Nat → Nat) (j : CJ) (s : KS) (hs : kOk s) (x : Int32) (y : Int32) : CT l yX3_person cX3_person 3 (some .int) (rmK 2) g [.ref (a 0), .int x, .int y] (clsA g a aK aL aT s j) (S := CJ) oI (fun r _ => r = (sp_person s x y).1) (fun j => clsA g a aK aL aT (sp_person s x y).2 j) := by
  obtain ⟨m, k, kf, tp, tl, sb, sz, nu, ct⟩ := s
  obtain ⟨jk, lk, lm, t, lt, nx, tk, sr, va⟩ := j
  obtain ⟨hm, hk, htl, htp, hsh⟩ := hs
  have h0 : m 0 ≤ 8 := hm.1
  have h1 : m 1 ≤ 9999 := hm.2.1
  have h2 : m 2 ≤ 4 := hm.2.2.1
  have h3 : m 3 ≤ 99 := hm.2.2.2.2.1
  have hB : 9999 < 2 ^ 30 := by decide
  refine k_bodyI (by decide) (Nat.le_of_ble_eq_true rfl) (fun _ _ _ => rfl) (fun J hJ hR => ?_)
  show J (clsW g a aK aL aT kf ct (if kf then k else jk) lk m lm t lt tp tl nx tk sr va sb sz nu) [(0, .ref (a 0)), (1, .int x), (2, .int y)] 0 []
  refine k_iload_n hJ dX3_person_0 1 rfl ?_
  refine c_SI (As := [.int x]) (st := []) hJ (ct_X3_isKind l g x) Fr.none ms_X3_isKind ml_X3_60 (kRm_ok (by decide) (by decide)) rfl rfl (Nat.le_of_ble_eq_true rfl) dX3_person_1 ?_
  refine b_if_eq (tgt := 14) hJ dX3_person_4 (by decide) (fun c4 => ?_) (fun c4 => ?_)
  · refine k_aload_n hJ dX3_person_14 0 rfl ?_
    refine k_ldc hJ dX3_person_15 cw_X3_55 ?_
    refine k_eqs (st2 := [.int (kFi 0), .ref (a 0)]) (by rw [kFi_c0]) ?_
    refine c_VI (As := [.int (kFi 0)]) (st := []) hJ (ct_X3_tell l g a aK aL aT kf ct 0 (by decide)) cls_frX mv_X3_tell ml_X3_56 0 rfl rfl rfl (kRm_ok (by decide) (by decide)) rfl rfl (Nat.le_of_ble_eq_true rfl) dX3_person_17 ?_
    have hsp : sp_person (m, k, kf, tp, tl, sb, sz, nu, ct) x y = (kFi 0, (m, k, kf, tp, tl, sb, sz, nu, kTe ct 0)) := by simp [-Nat.add_zero, sp_person, sp_tell, nI_l0, nI_l1, nI_l2, nI_l3, nI_l4, tN_l0, tN_l1, tN_l2, tN_l3, tN_l4, c4] <;> (repeat' (first | intro _ | refine ⟨?_, ?_⟩ | split)) <;> first | rfl | omega | (exfalso; omega)
    exact k_eqw (ws2 := clsA g a aK aL aT (sp_person (m, k, kf, tp, tl, sb, sz, nu, ct) x y).2 (jk, lk, lm, t, lt, nx, tk, sr, va)) (by rw [hsp]; rfl) (hR _ _ _ (jk, lk, lm, t, lt, nx, tk, sr, va) dX3_person_20 (by rw [hsp]))
  · obtain ⟨px, hpx, rfl⟩ := vIn_of (by omega) c4
    refine k_iload_n hJ dX3_person_7 2 rfl ?_
    refine c_SI (As := [.int y]) (st := []) hJ (ct_X3_isPlace l g y) Fr.none ms_X3_isPlace ml_X3_64 (kRm_ok (by decide) (by decide)) rfl rfl (Nat.le_of_ble_eq_true rfl) dX3_person_8 ?_
    refine b_if_ne (tgt := 21) hJ dX3_person_11 (by decide) (fun c11 => ?_) (fun c11 => ?_)
    · obtain ⟨py, hpy, rfl⟩ := vIn_of (by omega) c11
      refine k_aload_n hJ dX3_person_21 0 rfl ?_
      refine gf_X3_10 (v := .ref (aL 0)) hJ 0 rfl rfl dX3_person_22 ?_
      refine gf_X3_67 (v := .int (nI (m 0))) hJ 15 rfl rfl dX3_person_25 ?_
      refine k_bipush (v := nI 8) hJ dX3_person_28 (by decide) ?_
      refine n_icmp_lt (tgt := 40) hJ dX3_person_30 (by decide) (by omega) (by omega) (fun c30 => ?_) (fun c30 => ?_)
      · refine k_aload_n hJ dX3_person_40 0 rfl ?_
        refine gf_X3_10 (v := .ref (aL 0)) hJ 0 rfl rfl dX3_person_41 ?_
        refine k_iload_n hJ dX3_person_44 1 rfl ?_
        refine k_iload_n hJ dX3_person_45 2 rfl ?_
        refine c_VI (As := [.int (nI px), .int (nI py)]) (st := []) hJ (ct_X0_join l g aL m lm px py (by omega)) cls_frL mv_X0_join ml_X3_71 15 rfl rfl rfl (kRm_ok (by decide) (by decide)) rfl rfl (Nat.le_of_ble_eq_true rfl) dX3_person_46 ?_
        have hsp : sp_person (m, k, kf, tp, tl, sb, sz, nu, ct) (nI px) (nI py) = (nI (m 0), (vJoin m px py, k, kf, tp, tl, sb, sz, nu, ct)) := by simp [-Nat.add_zero, sp_person, sp_tell, nI_l0, nI_l1, nI_l2, nI_l3, nI_l4, tN_l0, tN_l1, tN_l2, tN_l3, tN_l4, c4, c11, nI_clamp (show px < 2 ^ 31 by omega), nI_clamp (show py < 2 ^ 31 by omega)] <;> (repeat' (first | intro _ | refine ⟨?_, ?_⟩ | split)) <;> first | rfl | omega | (exfalso; omega)
        exact k_eqw (ws2 := clsA g a aK aL aT (sp_person (m, k, kf, tp, tl, sb, sz, nu, ct) (nI px) (nI py)).2 (jk, lk, lm, t, lt, nx, tk, sr, va)) (by rw [hsp]; rfl) (hR _ _ _ (jk, lk, lm, t, lt, nx, tk, sr, va) dX3_person_49 (by rw [hsp]))
      · refine k_aload_n hJ dX3_person_33 0 rfl ?_
        refine k_ldc hJ dX3_person_34 cw_X3_70 ?_
        refine k_eqs (st2 := [.int (kFi 1), .ref (a 0)]) (by rw [kFi_c1]) ?_
        refine c_VI (As := [.int (kFi 1)]) (st := []) hJ (ct_X3_tell l g a aK aL aT kf ct 1 (by decide)) cls_frX mv_X3_tell ml_X3_56 0 rfl rfl rfl (kRm_ok (by decide) (by decide)) rfl rfl (Nat.le_of_ble_eq_true rfl) dX3_person_36 ?_
        have hsp : sp_person (m, k, kf, tp, tl, sb, sz, nu, ct) (nI px) (nI py) = (kFi 1, (m, k, kf, tp, tl, sb, sz, nu, kTe ct 1)) := by simp [-Nat.add_zero, sp_person, sp_tell, nI_l0, nI_l1, nI_l2, nI_l3, nI_l4, tN_l0, tN_l1, tN_l2, tN_l3, tN_l4, c4, c11, nI_clamp (show px < 2 ^ 31 by omega), nI_clamp (show py < 2 ^ 31 by omega)] <;> (repeat' (first | intro _ | refine ⟨?_, ?_⟩ | split)) <;> first | rfl | omega | (exfalso; omega)
        exact k_eqw (ws2 := clsA g a aK aL aT (sp_person (m, k, kf, tp, tl, sb, sz, nu, ct) (nI px) (nI py)).2 (jk, lk, lm, t, lt, nx, tk, sr, va)) (by rw [hsp]; rfl) (hR _ _ _ (jk, lk, lm, t, lt, nx, tk, sr, va) dX3_person_39 (by rw [hsp]))
    · refine k_aload_n hJ dX3_person_14 0 rfl ?_
      refine k_ldc hJ dX3_person_15 cw_X3_55 ?_
      refine k_eqs (st2 := [.int (kFi 0), .ref (a 0)]) (by rw [kFi_c0]) ?_
      refine c_VI (As := [.int (kFi 0)]) (st := []) hJ (ct_X3_tell l g a aK aL aT kf ct 0 (by decide)) cls_frX mv_X3_tell ml_X3_56 0 rfl rfl rfl (kRm_ok (by decide) (by decide)) rfl rfl (Nat.le_of_ble_eq_true rfl) dX3_person_17 ?_
      have hsp : sp_person (m, k, kf, tp, tl, sb, sz, nu, ct) (nI px) y = (kFi 0, (m, k, kf, tp, tl, sb, sz, nu, kTe ct 0)) := by simp [-Nat.add_zero, sp_person, sp_tell, nI_l0, nI_l1, nI_l2, nI_l3, nI_l4, tN_l0, tN_l1, tN_l2, tN_l3, tN_l4, c4, c11, nI_clamp (show px < 2 ^ 31 by omega)] <;> (repeat' (first | intro _ | refine ⟨?_, ?_⟩ | split)) <;> first | rfl | omega | (exfalso; omega)
      exact k_eqw (ws2 := clsA g a aK aL aT (sp_person (m, k, kf, tp, tl, sb, sz, nu, ct) (nI px) y).2 (jk, lk, lm, t, lt, nx, tk, sr, va)) (by rw [hsp]; rfl) (hR _ _ _ (jk, lk, lm, t, lt, nx, tk, sr, va) dX3_person_20 (by rw [hsp]))
theorem vIn6_no {y : Int32} (h0 : ¬ y = 0) (h1 : ¬ y = 1) (h2 : ¬ y = 2) (h3 : ¬ y = 3) (h4 : ¬ y = 4) (h5 : ¬ y = 5) : vIn y 6 = false := by
  cases h : vIn y 6 with
  | false => rfl
  | true =>
    obtain ⟨p, hp, rfl⟩ := vIn_of (by decide) h
    rcases (show p = 0 ∨ p = 1 ∨ p = 2 ∨ p = 3 ∨ p = 4 ∨ p = 5 by omega) with rfl | rfl | rfl | rfl | rfl | rfl
    · exact absurd rfl h0
    · exact absurd rfl h1
    · exact absurd rfl h2
    · exact absurd rfl h3
    · exact absurd rfl h4
    · exact absurd rfl h5
set_option maxHeartbeats 4000000 in
set_option maxRecDepth 100000 in
theorem cp_of (l : Launch) (g : KG) (a aK aL aT : Nat → Nat) (j : CJ) (s : KS) (hs : kOk s) (x : Int32) (y : Int32) : CT l yX3_of cX3_of 3 (some .int) (rmK 3) g [.ref (a 0), .int x, .int y] (clsA g a aK aL aT s j) (S := CJ) oI (fun r _ => r = (sp_of s x y).1) (fun j => clsA g a aK aL aT (sp_of s x y).2 j) := by
  obtain ⟨m, k, kf, tp, tl, sb, sz, nu, ct⟩ := s
  obtain ⟨jk, lk, lm, t, lt, nx, tk, sr, va⟩ := j
  obtain ⟨hm, hk, htl, htp, hsh⟩ := hs
  have h0 : m 0 ≤ 8 := hm.1
  have h1 : m 1 ≤ 9999 := hm.2.1
  have h2 : m 2 ≤ 4 := hm.2.2.1
  have h3 : m 3 ≤ 99 := hm.2.2.2.2.1
  have hB : 9999 < 2 ^ 30 := by decide
  refine k_bodyI (by decide) (Nat.le_of_ble_eq_true rfl) (fun _ _ _ => rfl) (fun J hJ hR => ?_)
  show J (clsW g a aK aL aT kf ct (if kf then k else jk) lk m lm t lt tp tl nx tk sr va sb sz nu) [(0, .ref (a 0)), (1, .int x), (2, .int y)] 0 []
  refine k_aload_n hJ dX3_of_0 0 rfl ?_
  refine gf_X3_10 (v := .ref (aL 0)) hJ 0 rfl rfl dX3_of_1 ?_
  refine k_iload_n hJ dX3_of_4 1 rfl ?_
  refine c_VI (As := [.int x]) (st := []) hJ (ct_X0_has l g aL m lm x ) cls_frL mv_X0_has ml_X3_75 15 rfl rfl rfl (kRm_ok (by decide) (by decide)) rfl rfl (Nat.le_of_ble_eq_true rfl) dX3_of_5 ?_
  refine b_if_ne (tgt := 18) hJ dX3_of_8 (by decide) (fun c8 => ?_) (fun c8 => ?_)
  · obtain ⟨px, hpx, rfl⟩ := vIn_of (by omega) c8
    refine k_iload_n hJ dX3_of_18 2 rfl ?_
    by_cases c19_0 : y = (0 : Int32)
    · refine r_tabIn (c := 0) (tgt := 56) hJ dX3_of_19 c19_0 (by decide) (by decide) (by decide) rfl (by decide) ?_
      refine k_aload_n hJ dX3_of_56 0 rfl ?_
      refine gf_X3_10 (v := .ref (aL 0)) hJ 0 rfl rfl dX3_of_57 ?_
      refine gf_X3_78 (v := .ref (aL 1)) hJ 15 rfl rfl dX3_of_60 ?_
      refine k_iload_n hJ dX3_of_63 1 rfl ?_
      refine k_iald hJ 16 rfl px (by omega) (by decide) rfl dX3_of_64 ?_
      have hb64 : m (4 + 10 * px + 0) ≤ 5 := hm.kd (show px < 8 by omega)
      have hsp : sp_of (m, k, kf, tp, tl, sb, sz, nu, ct) (nI px) y = (nI (m (4 + 10 * px + 0)), (m, k, kf, tp, tl, sb, sz, nu, ct)) := by rw [c19_0]; simp [-Nat.add_zero, sp_of, c8, nI_clamp (show px < 2 ^ 31 by omega), show vIn (0 : Int32) 6 = true by decide, show tN (0 : Int32) = 0 by decide]
      exact k_eqw (ws2 := clsA g a aK aL aT (sp_of (m, k, kf, tp, tl, sb, sz, nu, ct) (nI px) y).2 (jk, lk, lm, t, lt, nx, tk, sr, va)) (by rw [hsp]; rfl) (hR _ _ _ (jk, lk, lm, t, lt, nx, tk, sr, va) dX3_of_65 (by rw [hsp]))
    by_cases c19_1 : y = (1 : Int32)
    · refine r_tabIn (c := 1) (tgt := 66) hJ dX3_of_19 c19_1 (by decide) (by decide) (by decide) rfl (by decide) ?_
      refine k_aload_n hJ dX3_of_66 0 rfl ?_
      refine gf_X3_10 (v := .ref (aL 0)) hJ 0 rfl rfl dX3_of_67 ?_
      refine gf_X3_81 (v := .ref (aL 2)) hJ 15 rfl rfl dX3_of_70 ?_
      refine k_iload_n hJ dX3_of_73 1 rfl ?_
      refine k_iald hJ 17 rfl px (by omega) (by decide) rfl dX3_of_74 ?_
      have hb74 : m (4 + 10 * px + 1) ≤ 47 := hm.pl (show px < 8 by omega)
      have hsp : sp_of (m, k, kf, tp, tl, sb, sz, nu, ct) (nI px) y = (nI (m (4 + 10 * px + 1)), (m, k, kf, tp, tl, sb, sz, nu, ct)) := by rw [c19_1]; simp [-Nat.add_zero, sp_of, c8, nI_clamp (show px < 2 ^ 31 by omega), show vIn (1 : Int32) 6 = true by decide, show tN (1 : Int32) = 1 by decide]
      exact k_eqw (ws2 := clsA g a aK aL aT (sp_of (m, k, kf, tp, tl, sb, sz, nu, ct) (nI px) y).2 (jk, lk, lm, t, lt, nx, tk, sr, va)) (by rw [hsp]; rfl) (hR _ _ _ (jk, lk, lm, t, lt, nx, tk, sr, va) dX3_of_75 (by rw [hsp]))
    by_cases c19_2 : y = (2 : Int32)
    · refine r_tabIn (c := 2) (tgt := 76) hJ dX3_of_19 c19_2 (by decide) (by decide) (by decide) rfl (by decide) ?_
      refine k_aload_n hJ dX3_of_76 0 rfl ?_
      refine gf_X3_10 (v := .ref (aL 0)) hJ 0 rfl rfl dX3_of_77 ?_
      refine gf_X3_84 (v := .ref (aL 3)) hJ 15 rfl rfl dX3_of_80 ?_
      refine k_iload_n hJ dX3_of_83 1 rfl ?_
      refine k_iald hJ 18 rfl px (by omega) (by decide) rfl dX3_of_84 ?_
      have hb84 : m (4 + 10 * px + 2) ≤ 9 := hm.ns (show px < 8 by omega)
      have hsp : sp_of (m, k, kf, tp, tl, sb, sz, nu, ct) (nI px) y = (nI (m (4 + 10 * px + 2)), (m, k, kf, tp, tl, sb, sz, nu, ct)) := by rw [c19_2]; simp [-Nat.add_zero, sp_of, c8, nI_clamp (show px < 2 ^ 31 by omega), show vIn (2 : Int32) 6 = true by decide, show tN (2 : Int32) = 2 by decide]
      exact k_eqw (ws2 := clsA g a aK aL aT (sp_of (m, k, kf, tp, tl, sb, sz, nu, ct) (nI px) y).2 (jk, lk, lm, t, lt, nx, tk, sr, va)) (by rw [hsp]; rfl) (hR _ _ _ (jk, lk, lm, t, lt, nx, tk, sr, va) dX3_of_85 (by rw [hsp]))
    by_cases c19_3 : y = (3 : Int32)
    · refine r_tabIn (c := 3) (tgt := 86) hJ dX3_of_19 c19_3 (by decide) (by decide) (by decide) rfl (by decide) ?_
      refine k_aload_n hJ dX3_of_86 0 rfl ?_
      refine gf_X3_10 (v := .ref (aL 0)) hJ 0 rfl rfl dX3_of_87 ?_
      refine gf_X3_87 (v := .ref (aL 4)) hJ 15 rfl rfl dX3_of_90 ?_
      refine k_iload_n hJ dX3_of_93 1 rfl ?_
      refine k_iald hJ 19 rfl px (by omega) (by decide) rfl dX3_of_94 ?_
      have hb94 : m (4 + 10 * px + 3) ≤ 1 := hm.cd (show px < 8 by omega)
      have hsp : sp_of (m, k, kf, tp, tl, sb, sz, nu, ct) (nI px) y = (nI (m (4 + 10 * px + 3)), (m, k, kf, tp, tl, sb, sz, nu, ct)) := by rw [c19_3]; simp [-Nat.add_zero, sp_of, c8, nI_clamp (show px < 2 ^ 31 by omega), show vIn (3 : Int32) 6 = true by decide, show tN (3 : Int32) = 3 by decide]
      exact k_eqw (ws2 := clsA g a aK aL aT (sp_of (m, k, kf, tp, tl, sb, sz, nu, ct) (nI px) y).2 (jk, lk, lm, t, lt, nx, tk, sr, va)) (by rw [hsp]; rfl) (hR _ _ _ (jk, lk, lm, t, lt, nx, tk, sr, va) dX3_of_95 (by rw [hsp]))
    by_cases c19_4 : y = (4 : Int32)
    · refine r_tabIn (c := 4) (tgt := 96) hJ dX3_of_19 c19_4 (by decide) (by decide) (by decide) rfl (by decide) ?_
      refine k_aload_n hJ dX3_of_96 0 rfl ?_
      refine gf_X3_10 (v := .ref (aL 0)) hJ 0 rfl rfl dX3_of_97 ?_
      refine k_iload_n hJ dX3_of_100 1 rfl ?_
      refine c_VI (As := [.int (nI px)]) (st := []) hJ (ct_X0_scentsOf l g aL m lm px hB hm (by omega)) cls_frL mv_X0_scentsOf ml_X3_90 15 rfl rfl rfl (kRm_ok (by decide) (by decide)) rfl rfl (Nat.le_of_ble_eq_true rfl) dX3_of_101 ?_
      have hsp : sp_of (m, k, kf, tp, tl, sb, sz, nu, ct) (nI px) y = (nI (vScents m px), (m, k, kf, tp, tl, sb, sz, nu, ct)) := by rw [c19_4]; simp [-Nat.add_zero, sp_of, c8, nI_clamp (show px < 2 ^ 31 by omega), show vIn (4 : Int32) 6 = true by decide, show tN (4 : Int32) = 4 by decide]
      exact k_eqw (ws2 := clsA g a aK aL aT (sp_of (m, k, kf, tp, tl, sb, sz, nu, ct) (nI px) y).2 (jk, lk, lm, t, lt, nx, tk, sr, va)) (by rw [hsp]; rfl) (hR _ _ _ (jk, lk, lm, t, lt, nx, tk, sr, va) dX3_of_104 (by rw [hsp]))
    by_cases c19_5 : y = (5 : Int32)
    · refine r_tabIn (c := 5) (tgt := 105) hJ dX3_of_19 c19_5 (by decide) (by decide) (by decide) rfl (by decide) ?_
      refine k_aload_n hJ dX3_of_105 0 rfl ?_
      refine gf_X3_10 (v := .ref (aL 0)) hJ 0 rfl rfl dX3_of_106 ?_
      refine k_iload_n hJ dX3_of_109 1 rfl ?_
      refine c_VI (As := [.int (nI px)]) (st := []) hJ (ct_X0_givenOffBy l g aL m lm px hB hm (by omega)) cls_frL mv_X0_givenOffBy ml_X3_93 15 rfl rfl rfl (kRm_ok (by decide) (by decide)) rfl rfl (Nat.le_of_ble_eq_true rfl) dX3_of_110 ?_
      have hsp : sp_of (m, k, kf, tp, tl, sb, sz, nu, ct) (nI px) y = (nI (vGivesAll m px), (m, k, kf, tp, tl, sb, sz, nu, ct)) := by rw [c19_5]; simp [-Nat.add_zero, sp_of, c8, nI_clamp (show px < 2 ^ 31 by omega), show vIn (5 : Int32) 6 = true by decide, show tN (5 : Int32) = 5 by decide]
      exact k_eqw (ws2 := clsA g a aK aL aT (sp_of (m, k, kf, tp, tl, sb, sz, nu, ct) (nI px) y).2 (jk, lk, lm, t, lt, nx, tk, sr, va)) (by rw [hsp]; rfl) (hR _ _ _ (jk, lk, lm, t, lt, nx, tk, sr, va) dX3_of_113 (by rw [hsp]))
    refine r_tabOut (N := 6) (tgt := 114) hJ dX3_of_19 (by decide) (by decide) (fun c hc e => by rcases (show c = 0 ∨ c = 1 ∨ c = 2 ∨ c = 3 ∨ c = 4 ∨ c = 5 by omega) with rfl | rfl | rfl | rfl | rfl | rfl; all_goals first | exact c19_0 e | exact c19_1 e | exact c19_2 e | exact c19_3 e | exact c19_4 e | exact c19_5 e) (by decide) ?_
    refine k_aload_n hJ dX3_of_114 0 rfl ?_
    refine k_ldc hJ dX3_of_115 cw_X3_55 ?_
    refine k_eqs (st2 := [.int (kFi 0), .ref (a 0)]) (by rw [kFi_c0]) ?_
    refine c_VI (As := [.int (kFi 0)]) (st := []) hJ (ct_X3_tell l g a aK aL aT kf ct 0 (by decide)) cls_frX mv_X3_tell ml_X3_56 0 rfl rfl rfl (kRm_ok (by decide) (by decide)) rfl rfl (Nat.le_of_ble_eq_true rfl) dX3_of_117 ?_
    have hsp : sp_of (m, k, kf, tp, tl, sb, sz, nu, ct) (nI px) y = (kFi 0, (m, k, kf, tp, tl, sb, sz, nu, kTe ct 0)) := by have hv := vIn6_no c19_0 c19_1 c19_2 c19_3 c19_4 c19_5; simp [sp_of, sp_tell, c8, hv]
    exact k_eqw (ws2 := clsA g a aK aL aT (sp_of (m, k, kf, tp, tl, sb, sz, nu, ct) (nI px) y).2 (jk, lk, lm, t, lt, nx, tk, sr, va)) (by rw [hsp]; rfl) (hR _ _ _ (jk, lk, lm, t, lt, nx, tk, sr, va) dX3_of_120 (by rw [hsp]))
  · refine k_aload_n hJ dX3_of_11 0 rfl ?_
    refine k_ldc hJ dX3_of_12 cw_X3_55 ?_
    refine k_eqs (st2 := [.int (kFi 0), .ref (a 0)]) (by rw [kFi_c0]) ?_
    refine c_VI (As := [.int (kFi 0)]) (st := []) hJ (ct_X3_tell l g a aK aL aT kf ct 0 (by decide)) cls_frX mv_X3_tell ml_X3_56 0 rfl rfl rfl (kRm_ok (by decide) (by decide)) rfl rfl (Nat.le_of_ble_eq_true rfl) dX3_of_14 ?_
    have hsp : sp_of (m, k, kf, tp, tl, sb, sz, nu, ct) x y = (kFi 0, (m, k, kf, tp, tl, sb, sz, nu, kTe ct 0)) := by simp [-Nat.add_zero, sp_of, sp_tell, nI_l0, nI_l1, nI_l2, nI_l3, nI_l4, tN_l0, tN_l1, tN_l2, tN_l3, tN_l4, c8] <;> (repeat' (first | intro _ | refine ⟨?_, ?_⟩ | split)) <;> first | rfl | omega | (exfalso; omega)
    exact k_eqw (ws2 := clsA g a aK aL aT (sp_of (m, k, kf, tp, tl, sb, sz, nu, ct) x y).2 (jk, lk, lm, t, lt, nx, tk, sr, va)) (by rw [hsp]; rfl) (hR _ _ _ (jk, lk, lm, t, lt, nx, tk, sr, va) dX3_of_17 (by rw [hsp]))
set_option maxHeartbeats 4000000 in
set_option maxRecDepth 100000 in
theorem cp_set (l : Launch) (g : KG) (a aK aL aT : Nat → Nat) (j : CJ) (s : KS) (hs : kOk s) (x : Int32) (y : Int32) (z : Int32) : CT l yX3_set cX3_set 4 (some .int) (rmK 2) g [.ref (a 0), .int x, .int y, .int z] (clsA g a aK aL aT s j) (S := CJ) oI (fun r _ => r = (sp_set s x y z).1) (fun j => clsA g a aK aL aT (sp_set s x y z).2 j) := by
  obtain ⟨m, k, kf, tp, tl, sb, sz, nu, ct⟩ := s
  obtain ⟨jk, lk, lm, t, lt, nx, tk, sr, va⟩ := j
  obtain ⟨hm, hk, htl, htp, hsh⟩ := hs
  have h0 : m 0 ≤ 8 := hm.1
  have h1 : m 1 ≤ 9999 := hm.2.1
  have h2 : m 2 ≤ 4 := hm.2.2.1
  have h3 : m 3 ≤ 99 := hm.2.2.2.2.1
  have hB : 9999 < 2 ^ 30 := by decide
  refine k_bodyI (by decide) (Nat.le_of_ble_eq_true rfl) (fun _ _ _ => rfl) (fun J hJ hR => ?_)
  show J (clsW g a aK aL aT kf ct (if kf then k else jk) lk m lm t lt tp tl nx tk sr va sb sz nu) [(0, .ref (a 0)), (1, .int x), (2, .int y), (3, .int z)] 0 []
  refine k_aload_n hJ dX3_set_0 0 rfl ?_
  refine gf_X3_10 (v := .ref (aL 0)) hJ 0 rfl rfl dX3_set_1 ?_
  refine k_iload_n hJ dX3_set_4 1 rfl ?_
  refine c_VI (As := [.int x]) (st := []) hJ (ct_X0_has l g aL m lm x ) cls_frL mv_X0_has ml_X3_75 15 rfl rfl rfl (kRm_ok (by decide) (by decide)) rfl rfl (Nat.le_of_ble_eq_true rfl) dX3_set_5 ?_
  refine b_if_ne (tgt := 18) hJ dX3_set_8 (by decide) (fun c8 => ?_) (fun c8 => ?_)
  · obtain ⟨px, hpx, rfl⟩ := vIn_of (by omega) c8
    refine k_iload_n hJ dX3_set_18 2 rfl ?_
    refine k_iconst (v := nI 1) hJ dX3_set_19 (by decide) ?_
    refine k_icmp_ne (tgt := 43) hJ dX3_set_20 (by decide) (fun (c20 : ¬ y = (1 : Int32)) => ?_) (fun (c20 : y = nI 1) => ?_)
    · refine k_iload_n hJ dX3_set_43 2 rfl ?_
      refine k_iconst (v := nI 2) hJ dX3_set_44 (by decide) ?_
      refine k_icmp_ne (tgt := 71) hJ dX3_set_45 (by decide) (fun (c45 : ¬ y = (2 : Int32)) => ?_) (fun (c45 : y = nI 2) => ?_)
      · refine k_iload_n hJ dX3_set_71 2 rfl ?_
        refine k_iconst (v := nI 3) hJ dX3_set_72 (by decide) ?_
        refine k_icmp_ne (tgt := 98) hJ dX3_set_73 (by decide) (fun (c73 : ¬ y = (3 : Int32)) => ?_) (fun (c73 : y = nI 3) => ?_)
        · refine k_aload_n hJ dX3_set_98 0 rfl ?_
          refine k_ldc hJ dX3_set_99 cw_X3_55 ?_
          refine k_eqs (st2 := [.int (kFi 0), .ref (a 0)]) (by rw [kFi_c0]) ?_
          refine c_VI (As := [.int (kFi 0)]) (st := []) hJ (ct_X3_tell l g a aK aL aT kf ct 0 (by decide)) cls_frX mv_X3_tell ml_X3_56 0 rfl rfl rfl (kRm_ok (by decide) (by decide)) rfl rfl (Nat.le_of_ble_eq_true rfl) dX3_set_101 ?_
          have hsp : sp_set (m, k, kf, tp, tl, sb, sz, nu, ct) (nI px) y z = (kFi 0, (m, k, kf, tp, tl, sb, sz, nu, kTe ct 0)) := by simp [-Nat.add_zero, sp_set, sp_tell, nI_l0, nI_l1, nI_l2, nI_l3, nI_l4, tN_l0, tN_l1, tN_l2, tN_l3, tN_l4, c8, c20, c45, c73, nI_clamp (show px < 2 ^ 31 by omega)] <;> (repeat' (first | intro _ | refine ⟨?_, ?_⟩ | split)) <;> first | rfl | omega | (exfalso; omega)
          exact k_eqw (ws2 := clsA g a aK aL aT (sp_set (m, k, kf, tp, tl, sb, sz, nu, ct) (nI px) y z).2 (jk, lk, lm, t, lt, nx, tk, sr, va)) (by rw [hsp]; rfl) (hR _ _ _ (jk, lk, lm, t, lt, nx, tk, sr, va) dX3_set_104 (by rw [hsp]))
        · subst c73
          refine k_iload_n hJ dX3_set_76 3 rfl ?_
          refine k_iconst (v := nI 0) hJ dX3_set_77 (by decide) ?_
          refine k_iconst (v := nI 1) hJ dX3_set_78 (by decide) ?_
          refine c_SI (As := [.int z, .int (nI 0), .int (nI 1)]) (st := []) hJ (ct_X3_within l g z 0 1) Fr.none ms_X3_within ml_X3_44 (kRm_ok (by decide) (by decide)) rfl rfl (Nat.le_of_ble_eq_true rfl) dX3_set_79 ?_
          refine k_eqs (st2 := [.int (kb (vIn z 2))]) (by rw [vBt_in _ (by decide)]) ?_
          refine b_if_eq (tgt := 98) hJ dX3_set_82 (by decide) (fun c82 => ?_) (fun c82 => ?_)
          · refine k_aload_n hJ dX3_set_98 0 rfl ?_
            refine k_ldc hJ dX3_set_99 cw_X3_55 ?_
            refine k_eqs (st2 := [.int (kFi 0), .ref (a 0)]) (by rw [kFi_c0]) ?_
            refine c_VI (As := [.int (kFi 0)]) (st := []) hJ (ct_X3_tell l g a aK aL aT kf ct 0 (by decide)) cls_frX mv_X3_tell ml_X3_56 0 rfl rfl rfl (kRm_ok (by decide) (by decide)) rfl rfl (Nat.le_of_ble_eq_true rfl) dX3_set_101 ?_
            have hsp : sp_set (m, k, kf, tp, tl, sb, sz, nu, ct) (nI px) (nI 3) z = (kFi 0, (m, k, kf, tp, tl, sb, sz, nu, kTe ct 0)) := by simp [-Nat.add_zero, sp_set, sp_tell, nI_l0, nI_l1, nI_l2, nI_l3, nI_l4, tN_l0, tN_l1, tN_l2, tN_l3, tN_l4, c8, c20, c45, c82, nI_clamp (show px < 2 ^ 31 by omega)] <;> (repeat' (first | intro _ | refine ⟨?_, ?_⟩ | split)) <;> first | rfl | omega | (exfalso; omega)
            exact k_eqw (ws2 := clsA g a aK aL aT (sp_set (m, k, kf, tp, tl, sb, sz, nu, ct) (nI px) (nI 3) z).2 (jk, lk, lm, t, lt, nx, tk, sr, va)) (by rw [hsp]; rfl) (hR _ _ _ (jk, lk, lm, t, lt, nx, tk, sr, va) dX3_set_104 (by rw [hsp]))
          · obtain ⟨pz, hpz, rfl⟩ := vIn_of (by omega) c82
            refine k_aload_n hJ dX3_set_85 0 rfl ?_
            refine gf_X3_10 (v := .ref (aL 0)) hJ 0 rfl rfl dX3_set_86 ?_
            refine gf_X3_87 (v := .ref (aL 4)) hJ 15 rfl rfl dX3_set_89 ?_
            refine k_iload_n hJ dX3_set_92 1 rfl ?_
            refine k_iload_n hJ dX3_set_93 3 rfl ?_
            refine c_SI (As := [.ref (aL 4), .int (nI px), .int (nI pz)]) (st := []) hJ (ct_X3_exchange l g (aL 4) (fun i => nI (m (4 + 10 * i + 3))) px pz (by omega)) (fr_cell (q := 19) rfl (cls_setL (i := 4) (by decide) (hs_colds g aL m lm px pz))) ms_X3_exchange ml_X3_96 (kRm_ok (by decide) (by decide)) rfl rfl (Nat.le_of_ble_eq_true rfl) dX3_set_94 ?_
            have hsp : sp_set (m, k, kf, tp, tl, sb, sz, nu, ct) (nI px) (nI 3) (nI pz) = (nI (m (4 + 10 * px + 3)), (vUp m (4 + 10 * px + 3) pz, k, kf, tp, tl, sb, sz, nu, ct)) := by simp [-Nat.add_zero, sp_set, sp_tell, nI_l0, nI_l1, nI_l2, nI_l3, nI_l4, tN_l0, tN_l1, tN_l2, tN_l3, tN_l4, c8, c20, c45, c82, nI_clamp (show px < 2 ^ 31 by omega), nI_clamp (show pz < 2 ^ 31 by omega)] <;> (repeat' (first | intro _ | refine ⟨?_, ?_⟩ | split)) <;> first | rfl | omega | (exfalso; omega)
            exact k_eqw (ws2 := clsA g a aK aL aT (sp_set (m, k, kf, tp, tl, sb, sz, nu, ct) (nI px) (nI 3) (nI pz)).2 (jk, lk, lm, t, lt, nx, tk, sr, va)) (by rw [hsp]; rfl) (hR _ _ _ (jk, lk, lm, t, lt, nx, tk, sr, va) dX3_set_97 (by rw [hsp]))
      · subst c45
        refine k_iload_n hJ dX3_set_48 3 rfl ?_
        refine k_iconst (v := nI 0) hJ dX3_set_49 (by decide) ?_
        refine k_bipush (v := nI 9) hJ dX3_set_50 (by decide) ?_
        refine c_SI (As := [.int z, .int (nI 0), .int (nI 9)]) (st := []) hJ (ct_X3_within l g z 0 9) Fr.none ms_X3_within ml_X3_44 (kRm_ok (by decide) (by decide)) rfl rfl (Nat.le_of_ble_eq_true rfl) dX3_set_52 ?_
        refine k_eqs (st2 := [.int (kb (vIn z 10))]) (by rw [vBt_in _ (by decide)]) ?_
        refine b_if_eq (tgt := 71) hJ dX3_set_55 (by decide) (fun c55 => ?_) (fun c55 => ?_)
        · refine k_iload_n hJ dX3_set_71 2 rfl ?_
          refine k_iconst (v := nI 3) hJ dX3_set_72 (by decide) ?_
          refine n_icmp_ne (tgt := 98) hJ dX3_set_73 (by decide) (by omega) (by omega) (fun c73 => ?_) (fun c73 => ?_)
          · refine k_aload_n hJ dX3_set_98 0 rfl ?_
            refine k_ldc hJ dX3_set_99 cw_X3_55 ?_
            refine k_eqs (st2 := [.int (kFi 0), .ref (a 0)]) (by rw [kFi_c0]) ?_
            refine c_VI (As := [.int (kFi 0)]) (st := []) hJ (ct_X3_tell l g a aK aL aT kf ct 0 (by decide)) cls_frX mv_X3_tell ml_X3_56 0 rfl rfl rfl (kRm_ok (by decide) (by decide)) rfl rfl (Nat.le_of_ble_eq_true rfl) dX3_set_101 ?_
            have hsp : sp_set (m, k, kf, tp, tl, sb, sz, nu, ct) (nI px) (nI 2) z = (kFi 0, (m, k, kf, tp, tl, sb, sz, nu, kTe ct 0)) := by simp [-Nat.add_zero, sp_set, sp_tell, nI_l0, nI_l1, nI_l2, nI_l3, nI_l4, tN_l0, tN_l1, tN_l2, tN_l3, tN_l4, c8, c20, c55, nI_clamp (show px < 2 ^ 31 by omega)] <;> (repeat' (first | intro _ | refine ⟨?_, ?_⟩ | split)) <;> first | rfl | omega | (exfalso; omega)
            exact k_eqw (ws2 := clsA g a aK aL aT (sp_set (m, k, kf, tp, tl, sb, sz, nu, ct) (nI px) (nI 2) z).2 (jk, lk, lm, t, lt, nx, tk, sr, va)) (by rw [hsp]; rfl) (hR _ _ _ (jk, lk, lm, t, lt, nx, tk, sr, va) dX3_set_104 (by rw [hsp]))
          · exact absurd c73 (by decide)
        · obtain ⟨pz, hpz, rfl⟩ := vIn_of (by omega) c55
          refine k_aload_n hJ dX3_set_58 0 rfl ?_
          refine gf_X3_10 (v := .ref (aL 0)) hJ 0 rfl rfl dX3_set_59 ?_
          refine gf_X3_84 (v := .ref (aL 3)) hJ 15 rfl rfl dX3_set_62 ?_
          refine k_iload_n hJ dX3_set_65 1 rfl ?_
          refine k_iload_n hJ dX3_set_66 3 rfl ?_
          refine c_SI (As := [.ref (aL 3), .int (nI px), .int (nI pz)]) (st := []) hJ (ct_X3_exchange l g (aL 3) (fun i => nI (m (4 + 10 * i + 2))) px pz (by omega)) (fr_cell (q := 18) rfl (cls_setL (i := 3) (by decide) (hs_noses g aL m lm px pz))) ms_X3_exchange ml_X3_96 (kRm_ok (by decide) (by decide)) rfl rfl (Nat.le_of_ble_eq_true rfl) dX3_set_67 ?_
          have hsp : sp_set (m, k, kf, tp, tl, sb, sz, nu, ct) (nI px) (nI 2) (nI pz) = (nI (m (4 + 10 * px + 2)), (vUp m (4 + 10 * px + 2) pz, k, kf, tp, tl, sb, sz, nu, ct)) := by simp [-Nat.add_zero, sp_set, sp_tell, nI_l0, nI_l1, nI_l2, nI_l3, nI_l4, tN_l0, tN_l1, tN_l2, tN_l3, tN_l4, c8, c20, c55, nI_clamp (show px < 2 ^ 31 by omega), nI_clamp (show pz < 2 ^ 31 by omega)] <;> (repeat' (first | intro _ | refine ⟨?_, ?_⟩ | split)) <;> first | rfl | omega | (exfalso; omega)
          exact k_eqw (ws2 := clsA g a aK aL aT (sp_set (m, k, kf, tp, tl, sb, sz, nu, ct) (nI px) (nI 2) (nI pz)).2 (jk, lk, lm, t, lt, nx, tk, sr, va)) (by rw [hsp]; rfl) (hR _ _ _ (jk, lk, lm, t, lt, nx, tk, sr, va) dX3_set_70 (by rw [hsp]))
    · subst c20
      refine k_iload_n hJ dX3_set_23 3 rfl ?_
      refine c_SI (As := [.int z]) (st := []) hJ (ct_X3_isPlace l g z) Fr.none ms_X3_isPlace ml_X3_64 (kRm_ok (by decide) (by decide)) rfl rfl (Nat.le_of_ble_eq_true rfl) dX3_set_24 ?_
      refine b_if_eq (tgt := 43) hJ dX3_set_27 (by decide) (fun c27 => ?_) (fun c27 => ?_)
      · refine k_iload_n hJ dX3_set_43 2 rfl ?_
        refine k_iconst (v := nI 2) hJ dX3_set_44 (by decide) ?_
        refine n_icmp_ne (tgt := 71) hJ dX3_set_45 (by decide) (by omega) (by omega) (fun c45 => ?_) (fun c45 => ?_)
        · refine k_iload_n hJ dX3_set_71 2 rfl ?_
          refine k_iconst (v := nI 3) hJ dX3_set_72 (by decide) ?_
          refine n_icmp_ne (tgt := 98) hJ dX3_set_73 (by decide) (by omega) (by omega) (fun c73 => ?_) (fun c73 => ?_)
          · refine k_aload_n hJ dX3_set_98 0 rfl ?_
            refine k_ldc hJ dX3_set_99 cw_X3_55 ?_
            refine k_eqs (st2 := [.int (kFi 0), .ref (a 0)]) (by rw [kFi_c0]) ?_
            refine c_VI (As := [.int (kFi 0)]) (st := []) hJ (ct_X3_tell l g a aK aL aT kf ct 0 (by decide)) cls_frX mv_X3_tell ml_X3_56 0 rfl rfl rfl (kRm_ok (by decide) (by decide)) rfl rfl (Nat.le_of_ble_eq_true rfl) dX3_set_101 ?_
            have hsp : sp_set (m, k, kf, tp, tl, sb, sz, nu, ct) (nI px) (nI 1) z = (kFi 0, (m, k, kf, tp, tl, sb, sz, nu, kTe ct 0)) := by simp [-Nat.add_zero, sp_set, sp_tell, nI_l0, nI_l1, nI_l2, nI_l3, nI_l4, tN_l0, tN_l1, tN_l2, tN_l3, tN_l4, c8, c27, nI_clamp (show px < 2 ^ 31 by omega)] <;> (repeat' (first | intro _ | refine ⟨?_, ?_⟩ | split)) <;> first | rfl | omega | (exfalso; omega)
            exact k_eqw (ws2 := clsA g a aK aL aT (sp_set (m, k, kf, tp, tl, sb, sz, nu, ct) (nI px) (nI 1) z).2 (jk, lk, lm, t, lt, nx, tk, sr, va)) (by rw [hsp]; rfl) (hR _ _ _ (jk, lk, lm, t, lt, nx, tk, sr, va) dX3_set_104 (by rw [hsp]))
          · exact absurd c73 (by decide)
        · exact absurd c45 (by decide)
      · obtain ⟨pz, hpz, rfl⟩ := vIn_of (by omega) c27
        refine k_aload_n hJ dX3_set_30 0 rfl ?_
        refine gf_X3_10 (v := .ref (aL 0)) hJ 0 rfl rfl dX3_set_31 ?_
        refine gf_X3_81 (v := .ref (aL 2)) hJ 15 rfl rfl dX3_set_34 ?_
        refine k_iload_n hJ dX3_set_37 1 rfl ?_
        refine k_iload_n hJ dX3_set_38 3 rfl ?_
        refine c_SI (As := [.ref (aL 2), .int (nI px), .int (nI pz)]) (st := []) hJ (ct_X3_exchange l g (aL 2) (fun i => nI (m (4 + 10 * i + 1))) px pz (by omega)) (fr_cell (q := 17) rfl (cls_setL (i := 2) (by decide) (hs_places g aL m lm px pz))) ms_X3_exchange ml_X3_96 (kRm_ok (by decide) (by decide)) rfl rfl (Nat.le_of_ble_eq_true rfl) dX3_set_39 ?_
        have hsp : sp_set (m, k, kf, tp, tl, sb, sz, nu, ct) (nI px) (nI 1) (nI pz) = (nI (m (4 + 10 * px + 1)), (vUp m (4 + 10 * px + 1) pz, k, kf, tp, tl, sb, sz, nu, ct)) := by simp [-Nat.add_zero, sp_set, sp_tell, nI_l0, nI_l1, nI_l2, nI_l3, nI_l4, tN_l0, tN_l1, tN_l2, tN_l3, tN_l4, c8, c27, nI_clamp (show px < 2 ^ 31 by omega), nI_clamp (show pz < 2 ^ 31 by omega)] <;> (repeat' (first | intro _ | refine ⟨?_, ?_⟩ | split)) <;> first | rfl | omega | (exfalso; omega)
        exact k_eqw (ws2 := clsA g a aK aL aT (sp_set (m, k, kf, tp, tl, sb, sz, nu, ct) (nI px) (nI 1) (nI pz)).2 (jk, lk, lm, t, lt, nx, tk, sr, va)) (by rw [hsp]; rfl) (hR _ _ _ (jk, lk, lm, t, lt, nx, tk, sr, va) dX3_set_42 (by rw [hsp]))
  · refine k_aload_n hJ dX3_set_11 0 rfl ?_
    refine k_ldc hJ dX3_set_12 cw_X3_55 ?_
    refine k_eqs (st2 := [.int (kFi 0), .ref (a 0)]) (by rw [kFi_c0]) ?_
    refine c_VI (As := [.int (kFi 0)]) (st := []) hJ (ct_X3_tell l g a aK aL aT kf ct 0 (by decide)) cls_frX mv_X3_tell ml_X3_56 0 rfl rfl rfl (kRm_ok (by decide) (by decide)) rfl rfl (Nat.le_of_ble_eq_true rfl) dX3_set_14 ?_
    have hsp : sp_set (m, k, kf, tp, tl, sb, sz, nu, ct) x y z = (kFi 0, (m, k, kf, tp, tl, sb, sz, nu, kTe ct 0)) := by simp [-Nat.add_zero, sp_set, sp_tell, nI_l0, nI_l1, nI_l2, nI_l3, nI_l4, tN_l0, tN_l1, tN_l2, tN_l3, tN_l4, c8] <;> (repeat' (first | intro _ | refine ⟨?_, ?_⟩ | split)) <;> first | rfl | omega | (exfalso; omega)
    exact k_eqw (ws2 := clsA g a aK aL aT (sp_set (m, k, kf, tp, tl, sb, sz, nu, ct) x y z).2 (jk, lk, lm, t, lt, nx, tk, sr, va)) (by rw [hsp]; rfl) (hR _ _ _ (jk, lk, lm, t, lt, nx, tk, sr, va) dX3_set_17 (by rw [hsp]))
set_option maxHeartbeats 4000000 in
set_option maxRecDepth 100000 in
theorem cp_did (l : Launch) (g : KG) (a aK aL aT : Nat → Nat) (j : CJ) (s : KS) (hs : kOk s) (x : Int32) (y : Int32) (z : Int32) : CT l yX3_did cX3_did 4 (some .int) (rmK 2) g [.ref (a 0), .int x, .int y, .int z] (clsA g a aK aL aT s j) (S := CJ) oI (fun r _ => r = (sp_did s x y z).1) (fun j => clsA g a aK aL aT (sp_did s x y z).2 j) := by
  obtain ⟨m, k, kf, tp, tl, sb, sz, nu, ct⟩ := s
  obtain ⟨jk, lk, lm, t, lt, nx, tk, sr, va⟩ := j
  obtain ⟨hm, hk, htl, htp, hsh⟩ := hs
  have h0 : m 0 ≤ 8 := hm.1
  have h1 : m 1 ≤ 9999 := hm.2.1
  have h2 : m 2 ≤ 4 := hm.2.2.1
  have h3 : m 3 ≤ 99 := hm.2.2.2.2.1
  have hB : 9999 < 2 ^ 30 := by decide
  refine k_bodyI (by decide) (Nat.le_of_ble_eq_true rfl) (fun _ _ _ => rfl) (fun J hJ hR => ?_)
  show J (clsW g a aK aL aT kf ct (if kf then k else jk) lk m lm t lt tp tl nx tk sr va sb sz nu) [(0, .ref (a 0)), (1, .int x), (2, .int y), (3, .int z)] 0 []
  refine k_aload_n hJ dX3_did_0 0 rfl ?_
  refine gf_X3_10 (v := .ref (aL 0)) hJ 0 rfl rfl dX3_did_1 ?_
  refine k_iload_n hJ dX3_did_4 1 rfl ?_
  refine c_VI (As := [.int x]) (st := []) hJ (ct_X0_has l g aL m lm x ) cls_frL mv_X0_has ml_X3_75 15 rfl rfl rfl (kRm_ok (by decide) (by decide)) rfl rfl (Nat.le_of_ble_eq_true rfl) dX3_did_5 ?_
  refine b_if_eq (tgt := 28) hJ dX3_did_8 (by decide) (fun c8 => ?_) (fun c8 => ?_)
  · refine k_aload_n hJ dX3_did_28 0 rfl ?_
    refine k_ldc hJ dX3_did_29 cw_X3_55 ?_
    refine k_eqs (st2 := [.int (kFi 0), .ref (a 0)]) (by rw [kFi_c0]) ?_
    refine c_VI (As := [.int (kFi 0)]) (st := []) hJ (ct_X3_tell l g a aK aL aT kf ct 0 (by decide)) cls_frX mv_X3_tell ml_X3_56 0 rfl rfl rfl (kRm_ok (by decide) (by decide)) rfl rfl (Nat.le_of_ble_eq_true rfl) dX3_did_31 ?_
    have hsp : sp_did (m, k, kf, tp, tl, sb, sz, nu, ct) x y z = (kFi 0, (m, k, kf, tp, tl, sb, sz, nu, kTe ct 0)) := by simp [-Nat.add_zero, sp_did, sp_tell, nI_l0, nI_l1, nI_l2, nI_l3, nI_l4, tN_l0, tN_l1, tN_l2, tN_l3, tN_l4, c8] <;> (repeat' (first | intro _ | refine ⟨?_, ?_⟩ | split)) <;> first | rfl | omega | (exfalso; omega)
    exact k_eqw (ws2 := clsA g a aK aL aT (sp_did (m, k, kf, tp, tl, sb, sz, nu, ct) x y z).2 (jk, lk, lm, t, lt, nx, tk, sr, va)) (by rw [hsp]; rfl) (hR _ _ _ (jk, lk, lm, t, lt, nx, tk, sr, va) dX3_did_34 (by rw [hsp]))
  · obtain ⟨px, hpx, rfl⟩ := vIn_of (by omega) c8
    refine k_iload_n hJ dX3_did_11 2 rfl ?_
    refine c_SI (As := [.int y]) (st := []) hJ (ct_X3_isDeed l g y) Fr.none ms_X3_isDeed ml_X3_100 (kRm_ok (by decide) (by decide)) rfl rfl (Nat.le_of_ble_eq_true rfl) dX3_did_12 ?_
    refine b_if_eq (tgt := 28) hJ dX3_did_15 (by decide) (fun c15 => ?_) (fun c15 => ?_)
    · refine k_aload_n hJ dX3_did_28 0 rfl ?_
      refine k_ldc hJ dX3_did_29 cw_X3_55 ?_
      refine k_eqs (st2 := [.int (kFi 0), .ref (a 0)]) (by rw [kFi_c0]) ?_
      refine c_VI (As := [.int (kFi 0)]) (st := []) hJ (ct_X3_tell l g a aK aL aT kf ct 0 (by decide)) cls_frX mv_X3_tell ml_X3_56 0 rfl rfl rfl (kRm_ok (by decide) (by decide)) rfl rfl (Nat.le_of_ble_eq_true rfl) dX3_did_31 ?_
      have hsp : sp_did (m, k, kf, tp, tl, sb, sz, nu, ct) (nI px) y z = (kFi 0, (m, k, kf, tp, tl, sb, sz, nu, kTe ct 0)) := by simp [-Nat.add_zero, sp_did, sp_tell, nI_l0, nI_l1, nI_l2, nI_l3, nI_l4, tN_l0, tN_l1, tN_l2, tN_l3, tN_l4, c8, c15, nI_clamp (show px < 2 ^ 31 by omega)] <;> (repeat' (first | intro _ | refine ⟨?_, ?_⟩ | split)) <;> first | rfl | omega | (exfalso; omega)
      exact k_eqw (ws2 := clsA g a aK aL aT (sp_did (m, k, kf, tp, tl, sb, sz, nu, ct) (nI px) y z).2 (jk, lk, lm, t, lt, nx, tk, sr, va)) (by rw [hsp]; rfl) (hR _ _ _ (jk, lk, lm, t, lt, nx, tk, sr, va) dX3_did_34 (by rw [hsp]))
    · obtain ⟨py, hpy, rfl⟩ := vIn_of (by omega) c15
      refine k_iload_n hJ dX3_did_18 3 rfl ?_
      refine k_iconst (v := nI 0) hJ dX3_did_19 (by decide) ?_
      refine k_bipush (v := nI 99) hJ dX3_did_20 (by decide) ?_
      refine c_SI (As := [.int z, .int (nI 0), .int (nI 99)]) (st := []) hJ (ct_X3_within l g z 0 99) Fr.none ms_X3_within ml_X3_44 (kRm_ok (by decide) (by decide)) rfl rfl (Nat.le_of_ble_eq_true rfl) dX3_did_22 ?_
      refine k_eqs (st2 := [.int (kb (vIn z 100))]) (by rw [vBt_in _ (by decide)]) ?_
      refine b_if_ne (tgt := 35) hJ dX3_did_25 (by decide) (fun c25 => ?_) (fun c25 => ?_)
      · obtain ⟨pz, hpz, rfl⟩ := vIn_of (by omega) c25
        refine k_aload_n hJ dX3_did_35 0 rfl ?_
        refine gf_X3_10 (v := .ref (aL 0)) hJ 0 rfl rfl dX3_did_36 ?_
        refine gf_X3_103 (v := .ref (aL 5)) hJ 15 rfl rfl dX3_did_39 ?_
        refine k_iload_n hJ dX3_did_42 2 rfl ?_
        refine k_aald (f := fun i => some (aL (7 + i))) (b := aL (7 + py)) hJ 20 rfl py (by omega) (by decide) rfl dX3_did_43 ?_
        refine k_iload_n hJ dX3_did_44 1 rfl ?_
        refine k_iload_n hJ dX3_did_45 3 rfl ?_
        refine c_SI (As := [.ref (aL (7 + py)), .int (nI px), .int (nI pz)]) (st := []) hJ (ct_X3_exchange l g (aL (7 + py)) (fun i => nI (m (4 + 10 * i + (4 + py)))) px pz (by omega)) (fr_cell (cls_rowL (by omega)) (cls_setRL (by omega) (hs_row g aL m lm px pz (by omega)))) ms_X3_exchange ml_X3_96 (kRm_ok (by decide) (by decide)) rfl rfl (Nat.le_of_ble_eq_true rfl) dX3_did_46 ?_
        have hsp : sp_did (m, k, kf, tp, tl, sb, sz, nu, ct) (nI px) (nI py) (nI pz) = (nI (m (4 + 10 * px + (4 + py))), (vUp m (4 + 10 * px + (4 + py)) pz, k, kf, tp, tl, sb, sz, nu, ct)) := by simp [-Nat.add_zero, sp_did, sp_tell, nI_l0, nI_l1, nI_l2, nI_l3, nI_l4, tN_l0, tN_l1, tN_l2, tN_l3, tN_l4, c8, c15, c25, nI_clamp (show px < 2 ^ 31 by omega), nI_clamp (show py < 2 ^ 31 by omega), nI_clamp (show pz < 2 ^ 31 by omega)] <;> (repeat' (first | intro _ | refine ⟨?_, ?_⟩ | split)) <;> first | rfl | omega | (exfalso; omega)
        exact k_eqw (ws2 := clsA g a aK aL aT (sp_did (m, k, kf, tp, tl, sb, sz, nu, ct) (nI px) (nI py) (nI pz)).2 (jk, lk, lm, t, lt, nx, tk, sr, va)) (by rw [hsp]; rfl) (hR _ _ _ (jk, lk, lm, t, lt, nx, tk, sr, va) dX3_did_49 (by rw [hsp]))
      · refine k_aload_n hJ dX3_did_28 0 rfl ?_
        refine k_ldc hJ dX3_did_29 cw_X3_55 ?_
        refine k_eqs (st2 := [.int (kFi 0), .ref (a 0)]) (by rw [kFi_c0]) ?_
        refine c_VI (As := [.int (kFi 0)]) (st := []) hJ (ct_X3_tell l g a aK aL aT kf ct 0 (by decide)) cls_frX mv_X3_tell ml_X3_56 0 rfl rfl rfl (kRm_ok (by decide) (by decide)) rfl rfl (Nat.le_of_ble_eq_true rfl) dX3_did_31 ?_
        have hsp : sp_did (m, k, kf, tp, tl, sb, sz, nu, ct) (nI px) (nI py) z = (kFi 0, (m, k, kf, tp, tl, sb, sz, nu, kTe ct 0)) := by simp [-Nat.add_zero, sp_did, sp_tell, nI_l0, nI_l1, nI_l2, nI_l3, nI_l4, tN_l0, tN_l1, tN_l2, tN_l3, tN_l4, c8, c15, c25, nI_clamp (show px < 2 ^ 31 by omega), nI_clamp (show py < 2 ^ 31 by omega)] <;> (repeat' (first | intro _ | refine ⟨?_, ?_⟩ | split)) <;> first | rfl | omega | (exfalso; omega)
        exact k_eqw (ws2 := clsA g a aK aL aT (sp_did (m, k, kf, tp, tl, sb, sz, nu, ct) (nI px) (nI py) z).2 (jk, lk, lm, t, lt, nx, tk, sr, va)) (by rw [hsp]; rfl) (hR _ _ _ (jk, lk, lm, t, lt, nx, tk, sr, va) dX3_did_34 (by rw [hsp]))
set_option maxHeartbeats 4000000 in
set_option maxRecDepth 100000 in
theorem cp_scent (l : Launch) (g : KG) (a aK aL aT : Nat → Nat) (j : CJ) (s : KS) (hs : kOk s) (x : Int32) (y : Int32) (z : Int32) : CT l yX3_scent cX3_scent 4 (some .int) (rmK 2) g [.ref (a 0), .int x, .int y, .int z] (clsA g a aK aL aT s j) (S := CJ) oI (fun r _ => r = (sp_scent s x y z).1) (fun j => clsA g a aK aL aT (sp_scent s x y z).2 j) := by
  obtain ⟨m, k, kf, tp, tl, sb, sz, nu, ct⟩ := s
  obtain ⟨jk, lk, lm, t, lt, nx, tk, sr, va⟩ := j
  obtain ⟨hm, hk, htl, htp, hsh⟩ := hs
  have h0 : m 0 ≤ 8 := hm.1
  have h1 : m 1 ≤ 9999 := hm.2.1
  have h2 : m 2 ≤ 4 := hm.2.2.1
  have h3 : m 3 ≤ 99 := hm.2.2.2.2.1
  have hB : 9999 < 2 ^ 30 := by decide
  refine k_bodyI (by decide) (Nat.le_of_ble_eq_true rfl) (fun _ _ _ => rfl) (fun J hJ hR => ?_)
  show J (clsW g a aK aL aT kf ct (if kf then k else jk) lk m lm t lt tp tl nx tk sr va sb sz nu) [(0, .ref (a 0)), (1, .int x), (2, .int y), (3, .int z)] 0 []
  refine k_aload_n hJ dX3_scent_0 0 rfl ?_
  refine gf_X3_10 (v := .ref (aL 0)) hJ 0 rfl rfl dX3_scent_1 ?_
  refine k_iload_n hJ dX3_scent_4 1 rfl ?_
  refine c_VI (As := [.int x]) (st := []) hJ (ct_X0_has l g aL m lm x ) cls_frL mv_X0_has ml_X3_75 15 rfl rfl rfl (kRm_ok (by decide) (by decide)) rfl rfl (Nat.le_of_ble_eq_true rfl) dX3_scent_5 ?_
  refine b_if_eq (tgt := 27) hJ dX3_scent_8 (by decide) (fun c8 => ?_) (fun c8 => ?_)
  · refine k_aload_n hJ dX3_scent_27 0 rfl ?_
    refine k_ldc hJ dX3_scent_28 cw_X3_55 ?_
    refine k_eqs (st2 := [.int (kFi 0), .ref (a 0)]) (by rw [kFi_c0]) ?_
    refine c_VI (As := [.int (kFi 0)]) (st := []) hJ (ct_X3_tell l g a aK aL aT kf ct 0 (by decide)) cls_frX mv_X3_tell ml_X3_56 0 rfl rfl rfl (kRm_ok (by decide) (by decide)) rfl rfl (Nat.le_of_ble_eq_true rfl) dX3_scent_30 ?_
    have hsp : sp_scent (m, k, kf, tp, tl, sb, sz, nu, ct) x y z = (kFi 0, (m, k, kf, tp, tl, sb, sz, nu, kTe ct 0)) := by simp [-Nat.add_zero, sp_scent, sp_tell, nI_l0, nI_l1, nI_l2, nI_l3, nI_l4, tN_l0, tN_l1, tN_l2, tN_l3, tN_l4, c8] <;> (repeat' (first | intro _ | refine ⟨?_, ?_⟩ | split)) <;> first | rfl | omega | (exfalso; omega)
    exact k_eqw (ws2 := clsA g a aK aL aT (sp_scent (m, k, kf, tp, tl, sb, sz, nu, ct) x y z).2 (jk, lk, lm, t, lt, nx, tk, sr, va)) (by rw [hsp]; rfl) (hR _ _ _ (jk, lk, lm, t, lt, nx, tk, sr, va) dX3_scent_33 (by rw [hsp]))
  · obtain ⟨px, hpx, rfl⟩ := vIn_of (by omega) c8
    refine k_iload_n hJ dX3_scent_11 2 rfl ?_
    refine c_SI (As := [.int y]) (st := []) hJ (ct_X3_isDeed l g y) Fr.none ms_X3_isDeed ml_X3_100 (kRm_ok (by decide) (by decide)) rfl rfl (Nat.le_of_ble_eq_true rfl) dX3_scent_12 ?_
    refine b_if_eq (tgt := 27) hJ dX3_scent_15 (by decide) (fun c15 => ?_) (fun c15 => ?_)
    · refine k_aload_n hJ dX3_scent_27 0 rfl ?_
      refine k_ldc hJ dX3_scent_28 cw_X3_55 ?_
      refine k_eqs (st2 := [.int (kFi 0), .ref (a 0)]) (by rw [kFi_c0]) ?_
      refine c_VI (As := [.int (kFi 0)]) (st := []) hJ (ct_X3_tell l g a aK aL aT kf ct 0 (by decide)) cls_frX mv_X3_tell ml_X3_56 0 rfl rfl rfl (kRm_ok (by decide) (by decide)) rfl rfl (Nat.le_of_ble_eq_true rfl) dX3_scent_30 ?_
      have hsp : sp_scent (m, k, kf, tp, tl, sb, sz, nu, ct) (nI px) y z = (kFi 0, (m, k, kf, tp, tl, sb, sz, nu, kTe ct 0)) := by simp [-Nat.add_zero, sp_scent, sp_tell, nI_l0, nI_l1, nI_l2, nI_l3, nI_l4, tN_l0, tN_l1, tN_l2, tN_l3, tN_l4, c8, c15, nI_clamp (show px < 2 ^ 31 by omega)] <;> (repeat' (first | intro _ | refine ⟨?_, ?_⟩ | split)) <;> first | rfl | omega | (exfalso; omega)
      exact k_eqw (ws2 := clsA g a aK aL aT (sp_scent (m, k, kf, tp, tl, sb, sz, nu, ct) (nI px) y z).2 (jk, lk, lm, t, lt, nx, tk, sr, va)) (by rw [hsp]; rfl) (hR _ _ _ (jk, lk, lm, t, lt, nx, tk, sr, va) dX3_scent_33 (by rw [hsp]))
    · obtain ⟨py, hpy, rfl⟩ := vIn_of (by omega) c15
      refine k_iload_n hJ dX3_scent_18 3 rfl ?_
      refine k_iconst (v := nI 0) hJ dX3_scent_19 (by decide) ?_
      refine k_iconst (v := nI 1) hJ dX3_scent_20 (by decide) ?_
      refine c_SI (As := [.int z, .int (nI 0), .int (nI 1)]) (st := []) hJ (ct_X3_within l g z 0 1) Fr.none ms_X3_within ml_X3_44 (kRm_ok (by decide) (by decide)) rfl rfl (Nat.le_of_ble_eq_true rfl) dX3_scent_21 ?_
      refine k_eqs (st2 := [.int (kb (vIn z 2))]) (by rw [vBt_in _ (by decide)]) ?_
      refine b_if_ne (tgt := 34) hJ dX3_scent_24 (by decide) (fun c24 => ?_) (fun c24 => ?_)
      · obtain ⟨pz, hpz, rfl⟩ := vIn_of (by omega) c24
        refine k_iload_n hJ dX3_scent_34 3 rfl ?_
        refine n_if_ne (tgt := 52) hJ dX3_scent_35 (by decide) (by omega) (fun c35 => ?_) (fun c35 => ?_)
        · refine k_aload_n hJ dX3_scent_52 0 rfl ?_
          refine gf_X3_10 (v := .ref (aL 0)) hJ 0 rfl rfl dX3_scent_53 ?_
          refine k_iload_n hJ dX3_scent_56 1 rfl ?_
          refine k_iload_n hJ dX3_scent_57 2 rfl ?_
          refine c_VI (As := [.int (nI px), .int (nI py)]) (st := []) hJ (ct_X0_givesOff l g aL m lm px py hB hm (by omega) (by omega)) cls_frL mv_X0_givesOff ml_X3_107 15 rfl rfl rfl (kRm_ok (by decide) (by decide)) rfl rfl (Nat.le_of_ble_eq_true rfl) dX3_scent_58 ?_
          have hsp : sp_scent (m, k, kf, tp, tl, sb, sz, nu, ct) (nI px) (nI py) (nI pz) = (nI (vGives m px py), (m, k, kf, tp, tl, sb, sz, nu, ct)) := by simp [-Nat.add_zero, sp_scent, sp_tell, nI_l0, nI_l1, nI_l2, nI_l3, nI_l4, tN_l0, tN_l1, tN_l2, tN_l3, tN_l4, c8, c15, c24, nI_clamp (show px < 2 ^ 31 by omega), nI_clamp (show py < 2 ^ 31 by omega), nI_clamp (show pz < 2 ^ 31 by omega)] <;> (repeat' (first | intro _ | refine ⟨?_, ?_⟩ | split)) <;> first | rfl | omega | (exfalso; omega)
          exact k_eqw (ws2 := clsA g a aK aL aT (sp_scent (m, k, kf, tp, tl, sb, sz, nu, ct) (nI px) (nI py) (nI pz)).2 (jk, lk, lm, t, lt, nx, tk, sr, va)) (by rw [hsp]; rfl) (hR _ _ _ (jk, lk, lm, t, lt, nx, tk, sr, va) dX3_scent_61 (by rw [hsp]))
        · refine k_aload_n hJ dX3_scent_38 0 rfl ?_
          refine gf_X3_10 (v := .ref (aL 0)) hJ 0 rfl rfl dX3_scent_39 ?_
          refine gf_X3_103 (v := .ref (aL 5)) hJ 15 rfl rfl dX3_scent_42 ?_
          refine k_iload_n hJ dX3_scent_45 2 rfl ?_
          refine k_aald (f := fun i => some (aL (7 + i))) (b := aL (7 + py)) hJ 20 rfl py (by omega) (by decide) rfl dX3_scent_46 ?_
          refine k_iload_n hJ dX3_scent_47 1 rfl ?_
          refine k_iald hJ (22 + py) (cls_rowL (by omega)) px (by omega) (by decide) rfl dX3_scent_48 ?_
          have hb48 : m (4 + 10 * px + (4 + py)) ≤ 99 := hm.sc (show px < 8 by omega) (show py < 6 by omega)
          refine k_goto (tgt := 61) hJ dX3_scent_49 (by decide) ?_
          have hsp : sp_scent (m, k, kf, tp, tl, sb, sz, nu, ct) (nI px) (nI py) (nI pz) = (nI (m (4 + 10 * px + (4 + py))), (m, k, kf, tp, tl, sb, sz, nu, ct)) := by simp [-Nat.add_zero, sp_scent, sp_tell, nI_l0, nI_l1, nI_l2, nI_l3, nI_l4, tN_l0, tN_l1, tN_l2, tN_l3, tN_l4, c8, c15, c24, nI_clamp (show px < 2 ^ 31 by omega), nI_clamp (show py < 2 ^ 31 by omega), nI_clamp (show pz < 2 ^ 31 by omega)] <;> (repeat' (first | intro _ | refine ⟨?_, ?_⟩ | split)) <;> first | rfl | omega | (exfalso; omega)
          exact k_eqw (ws2 := clsA g a aK aL aT (sp_scent (m, k, kf, tp, tl, sb, sz, nu, ct) (nI px) (nI py) (nI pz)).2 (jk, lk, lm, t, lt, nx, tk, sr, va)) (by rw [hsp]; rfl) (hR _ _ _ (jk, lk, lm, t, lt, nx, tk, sr, va) dX3_scent_61 (by rw [hsp]))
      · refine k_aload_n hJ dX3_scent_27 0 rfl ?_
        refine k_ldc hJ dX3_scent_28 cw_X3_55 ?_
        refine k_eqs (st2 := [.int (kFi 0), .ref (a 0)]) (by rw [kFi_c0]) ?_
        refine c_VI (As := [.int (kFi 0)]) (st := []) hJ (ct_X3_tell l g a aK aL aT kf ct 0 (by decide)) cls_frX mv_X3_tell ml_X3_56 0 rfl rfl rfl (kRm_ok (by decide) (by decide)) rfl rfl (Nat.le_of_ble_eq_true rfl) dX3_scent_30 ?_
        have hsp : sp_scent (m, k, kf, tp, tl, sb, sz, nu, ct) (nI px) (nI py) z = (kFi 0, (m, k, kf, tp, tl, sb, sz, nu, kTe ct 0)) := by simp [-Nat.add_zero, sp_scent, sp_tell, nI_l0, nI_l1, nI_l2, nI_l3, nI_l4, tN_l0, tN_l1, tN_l2, tN_l3, tN_l4, c8, c15, c24, nI_clamp (show px < 2 ^ 31 by omega), nI_clamp (show py < 2 ^ 31 by omega)] <;> (repeat' (first | intro _ | refine ⟨?_, ?_⟩ | split)) <;> first | rfl | omega | (exfalso; omega)
        exact k_eqw (ws2 := clsA g a aK aL aT (sp_scent (m, k, kf, tp, tl, sb, sz, nu, ct) (nI px) (nI py) z).2 (jk, lk, lm, t, lt, nx, tk, sr, va)) (by rw [hsp]; rfl) (hR _ _ _ (jk, lk, lm, t, lt, nx, tk, sr, va) dX3_scent_33 (by rw [hsp]))
set_option maxHeartbeats 4000000 in
set_option maxRecDepth 100000 in
theorem cp_turn (l : Launch) (g : KG) (a aK aL aT : Nat → Nat) (j : CJ) (s : KS) (hs : kOk s) (x : Int32) (y : Int32) : CT l yX3_turn cX3_turn 3 (some .int) (rmK 2) g [.ref (a 0), .int x, .int y] (clsA g a aK aL aT s j) (S := CJ) oI (fun r _ => r = (sp_turn s x y).1) (fun j => clsA g a aK aL aT (sp_turn s x y).2 j) := by
  obtain ⟨m, k, kf, tp, tl, sb, sz, nu, ct⟩ := s
  obtain ⟨jk, lk, lm, t, lt, nx, tk, sr, va⟩ := j
  obtain ⟨hm, hk, htl, htp, hsh⟩ := hs
  have h0 : m 0 ≤ 8 := hm.1
  have h1 : m 1 ≤ 9999 := hm.2.1
  have h2 : m 2 ≤ 4 := hm.2.2.1
  have h3 : m 3 ≤ 99 := hm.2.2.2.2.1
  have hB : 9999 < 2 ^ 30 := by decide
  refine k_bodyI (by decide) (Nat.le_of_ble_eq_true rfl) (fun _ _ _ => rfl) (fun J hJ hR => ?_)
  show J (clsW g a aK aL aT kf ct (if kf then k else jk) lk m lm t lt tp tl nx tk sr va sb sz nu) [(0, .ref (a 0)), (1, .int x), (2, .int y)] 0 []
  refine k_aload_n hJ dX3_turn_0 0 rfl ?_
  refine gf_X3_10 (v := .ref (aL 0)) hJ 0 rfl rfl dX3_turn_1 ?_
  refine k_iload_n hJ dX3_turn_4 1 rfl ?_
  refine c_VI (As := [.int x]) (st := []) hJ (ct_X0_has l g aL m lm x ) cls_frL mv_X0_has ml_X3_75 15 rfl rfl rfl (kRm_ok (by decide) (by decide)) rfl rfl (Nat.le_of_ble_eq_true rfl) dX3_turn_5 ?_
  refine b_if_eq (tgt := 18) hJ dX3_turn_8 (by decide) (fun c8 => ?_) (fun c8 => ?_)
  · refine k_aload_n hJ dX3_turn_18 0 rfl ?_
    refine k_ldc hJ dX3_turn_19 cw_X3_55 ?_
    refine k_eqs (st2 := [.int (kFi 0), .ref (a 0)]) (by rw [kFi_c0]) ?_
    refine c_VI (As := [.int (kFi 0)]) (st := []) hJ (ct_X3_tell l g a aK aL aT kf ct 0 (by decide)) cls_frX mv_X3_tell ml_X3_56 0 rfl rfl rfl (kRm_ok (by decide) (by decide)) rfl rfl (Nat.le_of_ble_eq_true rfl) dX3_turn_21 ?_
    have hsp : sp_turn (m, k, kf, tp, tl, sb, sz, nu, ct) x y = (kFi 0, (m, k, kf, tp, tl, sb, sz, nu, kTe ct 0)) := by simp [-Nat.add_zero, sp_turn, sp_tell, nI_l0, nI_l1, nI_l2, nI_l3, nI_l4, tN_l0, tN_l1, tN_l2, tN_l3, tN_l4, c8] <;> (repeat' (first | intro _ | refine ⟨?_, ?_⟩ | split)) <;> first | rfl | omega | (exfalso; omega)
    exact k_eqw (ws2 := clsA g a aK aL aT (sp_turn (m, k, kf, tp, tl, sb, sz, nu, ct) x y).2 (jk, lk, lm, t, lt, nx, tk, sr, va)) (by rw [hsp]; rfl) (hR _ _ _ (jk, lk, lm, t, lt, nx, tk, sr, va) dX3_turn_24 (by rw [hsp]))
  · obtain ⟨px, hpx, rfl⟩ := vIn_of (by omega) c8
    refine k_iload_n hJ dX3_turn_11 2 rfl ?_
    refine c_SI (As := [.int y]) (st := []) hJ (ct_X3_isKind l g y) Fr.none ms_X3_isKind ml_X3_60 (kRm_ok (by decide) (by decide)) rfl rfl (Nat.le_of_ble_eq_true rfl) dX3_turn_12 ?_
    refine b_if_ne (tgt := 25) hJ dX3_turn_15 (by decide) (fun c15 => ?_) (fun c15 => ?_)
    · obtain ⟨py, hpy, rfl⟩ := vIn_of (by omega) c15
      refine k_aload_n hJ dX3_turn_25 0 rfl ?_
      refine gf_X3_10 (v := .ref (aL 0)) hJ 0 rfl rfl dX3_turn_26 ?_
      refine gf_X3_78 (v := .ref (aL 1)) hJ 15 rfl rfl dX3_turn_29 ?_
      refine k_iload_n hJ dX3_turn_32 1 rfl ?_
      refine k_iload_n hJ dX3_turn_33 2 rfl ?_
      refine c_SI (As := [.ref (aL 1), .int (nI px), .int (nI py)]) (st := []) hJ (ct_X3_exchange l g (aL 1) (fun i => nI (m (4 + 10 * i + 0))) px py (by omega)) (fr_cell (q := 16) rfl (cls_setL (i := 1) (by decide) (hs_kinds g aL m lm px py))) ms_X3_exchange ml_X3_96 (kRm_ok (by decide) (by decide)) rfl rfl (Nat.le_of_ble_eq_true rfl) dX3_turn_34 ?_
      have hsp : sp_turn (m, k, kf, tp, tl, sb, sz, nu, ct) (nI px) (nI py) = (nI (m (4 + 10 * px + 0)), (vUp m (4 + 10 * px + 0) py, k, kf, tp, tl, sb, sz, nu, ct)) := by simp [-Nat.add_zero, sp_turn, sp_tell, nI_l0, nI_l1, nI_l2, nI_l3, nI_l4, tN_l0, tN_l1, tN_l2, tN_l3, tN_l4, c8, c15, nI_clamp (show px < 2 ^ 31 by omega), nI_clamp (show py < 2 ^ 31 by omega)] <;> (repeat' (first | intro _ | refine ⟨?_, ?_⟩ | split)) <;> first | rfl | omega | (exfalso; omega)
      exact k_eqw (ws2 := clsA g a aK aL aT (sp_turn (m, k, kf, tp, tl, sb, sz, nu, ct) (nI px) (nI py)).2 (jk, lk, lm, t, lt, nx, tk, sr, va)) (by rw [hsp]; rfl) (hR _ _ _ (jk, lk, lm, t, lt, nx, tk, sr, va) dX3_turn_37 (by rw [hsp]))
    · refine k_aload_n hJ dX3_turn_18 0 rfl ?_
      refine k_ldc hJ dX3_turn_19 cw_X3_55 ?_
      refine k_eqs (st2 := [.int (kFi 0), .ref (a 0)]) (by rw [kFi_c0]) ?_
      refine c_VI (As := [.int (kFi 0)]) (st := []) hJ (ct_X3_tell l g a aK aL aT kf ct 0 (by decide)) cls_frX mv_X3_tell ml_X3_56 0 rfl rfl rfl (kRm_ok (by decide) (by decide)) rfl rfl (Nat.le_of_ble_eq_true rfl) dX3_turn_21 ?_
      have hsp : sp_turn (m, k, kf, tp, tl, sb, sz, nu, ct) (nI px) y = (kFi 0, (m, k, kf, tp, tl, sb, sz, nu, kTe ct 0)) := by simp [-Nat.add_zero, sp_turn, sp_tell, nI_l0, nI_l1, nI_l2, nI_l3, nI_l4, tN_l0, tN_l1, tN_l2, tN_l3, tN_l4, c8, c15, nI_clamp (show px < 2 ^ 31 by omega)] <;> (repeat' (first | intro _ | refine ⟨?_, ?_⟩ | split)) <;> first | rfl | omega | (exfalso; omega)
      exact k_eqw (ws2 := clsA g a aK aL aT (sp_turn (m, k, kf, tp, tl, sb, sz, nu, ct) (nI px) y).2 (jk, lk, lm, t, lt, nx, tk, sr, va)) (by rw [hsp]; rfl) (hR _ _ _ (jk, lk, lm, t, lt, nx, tk, sr, va) dX3_turn_24 (by rw [hsp]))
set_option maxHeartbeats 4000000 in
set_option maxRecDepth 100000 in
theorem cp_as (l : Launch) (g : KG) (a aK aL aT : Nat → Nat) (j : CJ) (s : KS) (hs : kOk s) (x : Int32) (y : Int32) : CT l yX3_as cX3_as 3 (some .int) (rmK 2) g [.ref (a 0), .int x, .int y] (clsA g a aK aL aT s j) (S := CJ) oI (fun r _ => r = (sp_as s x y).1) (fun j => clsA g a aK aL aT (sp_as s x y).2 j) := by
  obtain ⟨m, k, kf, tp, tl, sb, sz, nu, ct⟩ := s
  obtain ⟨jk, lk, lm, t, lt, nx, tk, sr, va⟩ := j
  obtain ⟨hm, hk, htl, htp, hsh⟩ := hs
  have h0 : m 0 ≤ 8 := hm.1
  have h1 : m 1 ≤ 9999 := hm.2.1
  have h2 : m 2 ≤ 4 := hm.2.2.1
  have h3 : m 3 ≤ 99 := hm.2.2.2.2.1
  have hB : 9999 < 2 ^ 30 := by decide
  refine k_bodyI (by decide) (Nat.le_of_ble_eq_true rfl) (fun _ _ _ => rfl) (fun J hJ hR => ?_)
  show J (clsW g a aK aL aT kf ct (if kf then k else jk) lk m lm t lt tp tl nx tk sr va sb sz nu) [(0, .ref (a 0)), (1, .int x), (2, .int y)] 0 []
  refine k_aload_n hJ dX3_as_0 0 rfl ?_
  refine gf_X3_10 (v := .ref (aL 0)) hJ 0 rfl rfl dX3_as_1 ?_
  refine k_iload_n hJ dX3_as_4 1 rfl ?_
  refine c_VI (As := [.int x]) (st := []) hJ (ct_X0_has l g aL m lm x ) cls_frL mv_X0_has ml_X3_75 15 rfl rfl rfl (kRm_ok (by decide) (by decide)) rfl rfl (Nat.le_of_ble_eq_true rfl) dX3_as_5 ?_
  refine b_if_eq (tgt := 18) hJ dX3_as_8 (by decide) (fun c8 => ?_) (fun c8 => ?_)
  · refine k_aload_n hJ dX3_as_18 0 rfl ?_
    refine k_ldc hJ dX3_as_19 cw_X3_55 ?_
    refine k_eqs (st2 := [.int (kFi 0), .ref (a 0)]) (by rw [kFi_c0]) ?_
    refine c_VI (As := [.int (kFi 0)]) (st := []) hJ (ct_X3_tell l g a aK aL aT kf ct 0 (by decide)) cls_frX mv_X3_tell ml_X3_56 0 rfl rfl rfl (kRm_ok (by decide) (by decide)) rfl rfl (Nat.le_of_ble_eq_true rfl) dX3_as_21 ?_
    have hsp : sp_as (m, k, kf, tp, tl, sb, sz, nu, ct) x y = (kFi 0, (m, k, kf, tp, tl, sb, sz, nu, kTe ct 0)) := by simp [-Nat.add_zero, sp_as, sp_tell, nI_l0, nI_l1, nI_l2, nI_l3, nI_l4, tN_l0, tN_l1, tN_l2, tN_l3, tN_l4, c8] <;> (repeat' (first | intro _ | refine ⟨?_, ?_⟩ | split)) <;> first | rfl | omega | (exfalso; omega)
    exact k_eqw (ws2 := clsA g a aK aL aT (sp_as (m, k, kf, tp, tl, sb, sz, nu, ct) x y).2 (jk, lk, lm, t, lt, nx, tk, sr, va)) (by rw [hsp]; rfl) (hR _ _ _ (jk, lk, lm, t, lt, nx, tk, sr, va) dX3_as_24 (by rw [hsp]))
  · obtain ⟨px, hpx, rfl⟩ := vIn_of (by omega) c8
    refine k_iload_n hJ dX3_as_11 2 rfl ?_
    refine c_SI (As := [.int y]) (st := []) hJ (ct_X3_isKind l g y) Fr.none ms_X3_isKind ml_X3_60 (kRm_ok (by decide) (by decide)) rfl rfl (Nat.le_of_ble_eq_true rfl) dX3_as_12 ?_
    refine b_if_ne (tgt := 25) hJ dX3_as_15 (by decide) (fun c15 => ?_) (fun c15 => ?_)
    · obtain ⟨py, hpy, rfl⟩ := vIn_of (by omega) c15
      refine k_aload_n hJ dX3_as_25 0 rfl ?_
      refine gf_X3_10 (v := .ref (aL 0)) hJ 0 rfl rfl dX3_as_26 ?_
      refine gf_X3_78 (v := .ref (aL 1)) hJ 15 rfl rfl dX3_as_29 ?_
      refine k_iload_n hJ dX3_as_32 1 rfl ?_
      refine k_iald hJ 16 rfl px (by omega) (by decide) rfl dX3_as_33 ?_
      have hb33 : m (4 + 10 * px + 0) ≤ 5 := hm.kd (show px < 8 by omega)
      refine k_iload_n hJ dX3_as_34 2 rfl ?_
      refine c_SI (As := [.int (nI (m (4 + 10 * px + 0))), .int (nI py)]) (st := []) hJ (ct_X3_isUnder l g (m (4 + 10 * px + 0)) py (by omega) (by omega)) Fr.none ms_X3_isUnder ml_X3_110 (kRm_ok (by decide) (by decide)) rfl rfl (Nat.le_of_ble_eq_true rfl) dX3_as_35 ?_
      refine b_if_ne (tgt := 48) hJ dX3_as_38 (by decide) (fun c38 => ?_) (fun c38 => ?_)
      · refine k_aload_n hJ dX3_as_48 0 rfl ?_
        refine gf_X3_10 (v := .ref (aL 0)) hJ 0 rfl rfl dX3_as_49 ?_
        refine gf_X3_84 (v := .ref (aL 3)) hJ 15 rfl rfl dX3_as_52 ?_
        refine k_iload_n hJ dX3_as_55 1 rfl ?_
        refine k_iald hJ 18 rfl px (by omega) (by decide) rfl dX3_as_56 ?_
        have hb56 : m (4 + 10 * px + 2) ≤ 9 := hm.ns (show px < 8 by omega)
        have hsp : sp_as (m, k, kf, tp, tl, sb, sz, nu, ct) (nI px) (nI py) = (nI (m (4 + 10 * px + 2)), (m, k, kf, tp, tl, sb, sz, nu, ct)) := by simp [-Nat.add_zero, sp_as, sp_tell, nI_l0, nI_l1, nI_l2, nI_l3, nI_l4, tN_l0, tN_l1, tN_l2, tN_l3, tN_l4, c8, c15, c38, nI_clamp (show px < 2 ^ 31 by omega), nI_clamp (show py < 2 ^ 31 by omega)] <;> (repeat' (first | intro _ | refine ⟨?_, ?_⟩ | split)) <;> first | rfl | omega | (exfalso; omega)
        exact k_eqw (ws2 := clsA g a aK aL aT (sp_as (m, k, kf, tp, tl, sb, sz, nu, ct) (nI px) (nI py)).2 (jk, lk, lm, t, lt, nx, tk, sr, va)) (by rw [hsp]; rfl) (hR _ _ _ (jk, lk, lm, t, lt, nx, tk, sr, va) dX3_as_57 (by rw [hsp]))
      · refine k_aload_n hJ dX3_as_41 0 rfl ?_
        refine k_ldc hJ dX3_as_42 cw_X3_114 ?_
        refine k_eqs (st2 := [.int (kFi 2), .ref (a 0)]) (by rw [kFi_c2]) ?_
        refine c_VI (As := [.int (kFi 2)]) (st := []) hJ (ct_X3_tell l g a aK aL aT kf ct 2 (by decide)) cls_frX mv_X3_tell ml_X3_56 0 rfl rfl rfl (kRm_ok (by decide) (by decide)) rfl rfl (Nat.le_of_ble_eq_true rfl) dX3_as_44 ?_
        have hsp : sp_as (m, k, kf, tp, tl, sb, sz, nu, ct) (nI px) (nI py) = (kFi 2, (m, k, kf, tp, tl, sb, sz, nu, kTe ct 2)) := by simp [-Nat.add_zero, sp_as, sp_tell, nI_l0, nI_l1, nI_l2, nI_l3, nI_l4, tN_l0, tN_l1, tN_l2, tN_l3, tN_l4, c8, c15, c38, nI_clamp (show px < 2 ^ 31 by omega), nI_clamp (show py < 2 ^ 31 by omega)] <;> (repeat' (first | intro _ | refine ⟨?_, ?_⟩ | split)) <;> first | rfl | omega | (exfalso; omega)
        exact k_eqw (ws2 := clsA g a aK aL aT (sp_as (m, k, kf, tp, tl, sb, sz, nu, ct) (nI px) (nI py)).2 (jk, lk, lm, t, lt, nx, tk, sr, va)) (by rw [hsp]; rfl) (hR _ _ _ (jk, lk, lm, t, lt, nx, tk, sr, va) dX3_as_47 (by rw [hsp]))
    · refine k_aload_n hJ dX3_as_18 0 rfl ?_
      refine k_ldc hJ dX3_as_19 cw_X3_55 ?_
      refine k_eqs (st2 := [.int (kFi 0), .ref (a 0)]) (by rw [kFi_c0]) ?_
      refine c_VI (As := [.int (kFi 0)]) (st := []) hJ (ct_X3_tell l g a aK aL aT kf ct 0 (by decide)) cls_frX mv_X3_tell ml_X3_56 0 rfl rfl rfl (kRm_ok (by decide) (by decide)) rfl rfl (Nat.le_of_ble_eq_true rfl) dX3_as_21 ?_
      have hsp : sp_as (m, k, kf, tp, tl, sb, sz, nu, ct) (nI px) y = (kFi 0, (m, k, kf, tp, tl, sb, sz, nu, kTe ct 0)) := by simp [-Nat.add_zero, sp_as, sp_tell, nI_l0, nI_l1, nI_l2, nI_l3, nI_l4, tN_l0, tN_l1, tN_l2, tN_l3, tN_l4, c8, c15, nI_clamp (show px < 2 ^ 31 by omega)] <;> (repeat' (first | intro _ | refine ⟨?_, ?_⟩ | split)) <;> first | rfl | omega | (exfalso; omega)
      exact k_eqw (ws2 := clsA g a aK aL aT (sp_as (m, k, kf, tp, tl, sb, sz, nu, ct) (nI px) y).2 (jk, lk, lm, t, lt, nx, tk, sr, va)) (by rw [hsp]; rfl) (hR _ _ _ (jk, lk, lm, t, lt, nx, tk, sr, va) dX3_as_24 (by rw [hsp]))
set_option maxHeartbeats 4000000 in
set_option maxRecDepth 100000 in
theorem cp_wash (l : Launch) (g : KG) (a aK aL aT : Nat → Nat) (j : CJ) (s : KS) (hs : kOk s) (x : Int32) : CT l yX3_wash cX3_wash 2 (some .int) (rmK 2) g [.ref (a 0), .int x] (clsA g a aK aL aT s j) (S := CJ) oI (fun r _ => r = (sp_wash s x).1) (fun j => clsA g a aK aL aT (sp_wash s x).2 j) := by
  obtain ⟨m, k, kf, tp, tl, sb, sz, nu, ct⟩ := s
  obtain ⟨jk, lk, lm, t, lt, nx, tk, sr, va⟩ := j
  obtain ⟨hm, hk, htl, htp, hsh⟩ := hs
  have h0 : m 0 ≤ 8 := hm.1
  have h1 : m 1 ≤ 9999 := hm.2.1
  have h2 : m 2 ≤ 4 := hm.2.2.1
  have h3 : m 3 ≤ 99 := hm.2.2.2.2.1
  have hB : 9999 < 2 ^ 30 := by decide
  refine k_bodyI (by decide) (Nat.le_of_ble_eq_true rfl) (fun _ _ _ => rfl) (fun J hJ hR => ?_)
  show J (clsW g a aK aL aT kf ct (if kf then k else jk) lk m lm t lt tp tl nx tk sr va sb sz nu) [(0, .ref (a 0)), (1, .int x)] 0 []
  refine k_aload_n hJ dX3_wash_0 0 rfl ?_
  refine gf_X3_10 (v := .ref (aL 0)) hJ 0 rfl rfl dX3_wash_1 ?_
  refine k_iload_n hJ dX3_wash_4 1 rfl ?_
  refine c_VI (As := [.int x]) (st := []) hJ (ct_X0_has l g aL m lm x ) cls_frL mv_X0_has ml_X3_75 15 rfl rfl rfl (kRm_ok (by decide) (by decide)) rfl rfl (Nat.le_of_ble_eq_true rfl) dX3_wash_5 ?_
  refine b_if_ne (tgt := 18) hJ dX3_wash_8 (by decide) (fun c8 => ?_) (fun c8 => ?_)
  · obtain ⟨px, hpx, rfl⟩ := vIn_of (by omega) c8
    refine k_aload_n hJ dX3_wash_18 0 rfl ?_
    refine gf_X3_10 (v := .ref (aL 0)) hJ 0 rfl rfl dX3_wash_19 ?_
    refine k_iload_n hJ dX3_wash_22 1 rfl ?_
    refine c_VI (As := [.int (nI px)]) (st := []) hJ (ct_X0_washes l g aL m lm px hB hm (by omega)) cls_frL mv_X0_washes ml_X3_115 15 rfl rfl rfl (kRm_ok (by decide) (by decide)) rfl rfl (Nat.le_of_ble_eq_true rfl) dX3_wash_23 ?_
    have hsp : sp_wash (m, k, kf, tp, tl, sb, sz, nu, ct) (nI px) = (nI (vWashed m px), (vWash m px 6, k, kf, tp, tl, sb, sz, nu, ct)) := by simp [-Nat.add_zero, sp_wash, sp_tell, nI_l0, nI_l1, nI_l2, nI_l3, nI_l4, tN_l0, tN_l1, tN_l2, tN_l3, tN_l4, c8, nI_clamp (show px < 2 ^ 31 by omega)] <;> (repeat' (first | intro _ | refine ⟨?_, ?_⟩ | split)) <;> first | rfl | omega | (exfalso; omega)
    exact k_eqw (ws2 := clsA g a aK aL aT (sp_wash (m, k, kf, tp, tl, sb, sz, nu, ct) (nI px)).2 (jk, lk, lm, t, lt, nx, tk, sr, va)) (by rw [hsp]; rfl) (hR _ _ _ (jk, lk, lm, t, lt, nx, tk, sr, va) dX3_wash_26 (by rw [hsp]))
  · refine k_aload_n hJ dX3_wash_11 0 rfl ?_
    refine k_ldc hJ dX3_wash_12 cw_X3_55 ?_
    refine k_eqs (st2 := [.int (kFi 0), .ref (a 0)]) (by rw [kFi_c0]) ?_
    refine c_VI (As := [.int (kFi 0)]) (st := []) hJ (ct_X3_tell l g a aK aL aT kf ct 0 (by decide)) cls_frX mv_X3_tell ml_X3_56 0 rfl rfl rfl (kRm_ok (by decide) (by decide)) rfl rfl (Nat.le_of_ble_eq_true rfl) dX3_wash_14 ?_
    have hsp : sp_wash (m, k, kf, tp, tl, sb, sz, nu, ct) x = (kFi 0, (m, k, kf, tp, tl, sb, sz, nu, kTe ct 0)) := by simp [-Nat.add_zero, sp_wash, sp_tell, nI_l0, nI_l1, nI_l2, nI_l3, nI_l4, tN_l0, tN_l1, tN_l2, tN_l3, tN_l4, c8] <;> (repeat' (first | intro _ | refine ⟨?_, ?_⟩ | split)) <;> first | rfl | omega | (exfalso; omega)
    exact k_eqw (ws2 := clsA g a aK aL aT (sp_wash (m, k, kf, tp, tl, sb, sz, nu, ct) x).2 (jk, lk, lm, t, lt, nx, tk, sr, va)) (by rw [hsp]; rfl) (hR _ _ _ (jk, lk, lm, t, lt, nx, tk, sr, va) dX3_wash_17 (by rw [hsp]))
set_option maxHeartbeats 4000000 in
set_option maxRecDepth 100000 in
theorem cp_smells (l : Launch) (g : KG) (a aK aL aT : Nat → Nat) (j : CJ) (s : KS) (hs : kOk s) (x : Int32) (y : Int32) (z : Int32) : CT l yX3_smells cX3_smells 4 (some .int) (rmK 3) g [.ref (a 0), .int x, .int y, .int z] (clsA g a aK aL aT s j) (S := CJ) oI (fun r _ => r = (sp_smells s x y z).1) (fun j => clsA g a aK aL aT (sp_smells s x y z).2 j) := by
  obtain ⟨m, k, kf, tp, tl, sb, sz, nu, ct⟩ := s
  obtain ⟨jk, lk, lm, t, lt, nx, tk, sr, va⟩ := j
  obtain ⟨hm, hk, htl, htp, hsh⟩ := hs
  have h0 : m 0 ≤ 8 := hm.1
  have h1 : m 1 ≤ 9999 := hm.2.1
  have h2 : m 2 ≤ 4 := hm.2.2.1
  have h3 : m 3 ≤ 99 := hm.2.2.2.2.1
  have hB : 9999 < 2 ^ 30 := by decide
  refine k_bodyI (by decide) (Nat.le_of_ble_eq_true rfl) (fun _ _ _ => rfl) (fun J hJ hR => ?_)
  show J (clsW g a aK aL aT kf ct (if kf then k else jk) lk m lm t lt tp tl nx tk sr va sb sz nu) [(0, .ref (a 0)), (1, .int x), (2, .int y), (3, .int z)] 0 []
  refine k_aload_n hJ dX3_smells_0 0 rfl ?_
  refine gf_X3_10 (v := .ref (aL 0)) hJ 0 rfl rfl dX3_smells_1 ?_
  refine k_iload_n hJ dX3_smells_4 1 rfl ?_
  refine k_iload_n hJ dX3_smells_5 2 rfl ?_
  refine c_VI (As := [.int x, .int y]) (st := []) hJ (ct_X0_hasTwo l g aL m lm x y ) cls_frL mv_X0_hasTwo ml_X3_118 15 rfl rfl rfl (kRm_ok (by decide) (by decide)) rfl rfl (Nat.le_of_ble_eq_true rfl) dX3_smells_6 ?_
  refine b_if_eq (tgt := 19) hJ dX3_smells_9 (by decide) (fun c9 => ?_) (fun c9 => ?_)
  · refine k_aload_n hJ dX3_smells_19 0 rfl ?_
    refine k_ldc hJ dX3_smells_20 cw_X3_55 ?_
    refine k_eqs (st2 := [.int (kFi 0), .ref (a 0)]) (by rw [kFi_c0]) ?_
    refine c_VI (As := [.int (kFi 0)]) (st := []) hJ (ct_X3_tell l g a aK aL aT kf ct 0 (by decide)) cls_frX mv_X3_tell ml_X3_56 0 rfl rfl rfl (kRm_ok (by decide) (by decide)) rfl rfl (Nat.le_of_ble_eq_true rfl) dX3_smells_22 ?_
    have hsp : sp_smells (m, k, kf, tp, tl, sb, sz, nu, ct) x y z = (kFi 0, (m, k, kf, tp, tl, sb, sz, nu, kTe ct 0)) := by simp [-Nat.add_zero, sp_smells, sp_tell, nI_l0, nI_l1, nI_l2, nI_l3, nI_l4, tN_l0, tN_l1, tN_l2, tN_l3, tN_l4, c9] <;> (repeat' (first | intro _ | refine ⟨?_, ?_⟩ | split)) <;> first | rfl | omega | (exfalso; omega)
    exact k_eqw (ws2 := clsA g a aK aL aT (sp_smells (m, k, kf, tp, tl, sb, sz, nu, ct) x y z).2 (jk, lk, lm, t, lt, nx, tk, sr, va)) (by rw [hsp]; rfl) (hR _ _ _ (jk, lk, lm, t, lt, nx, tk, sr, va) dX3_smells_25 (by rw [hsp]))
  · obtain ⟨px, py, hpx, hpy, hnx, rfl, rfl⟩ := vTwo_of (by omega) c9
    refine k_iload_n hJ dX3_smells_12 3 rfl ?_
    refine c_SI (As := [.int z]) (st := []) hJ (ct_X3_isDeed l g z) Fr.none ms_X3_isDeed ml_X3_100 (kRm_ok (by decide) (by decide)) rfl rfl (Nat.le_of_ble_eq_true rfl) dX3_smells_13 ?_
    refine b_if_ne (tgt := 26) hJ dX3_smells_16 (by decide) (fun c16 => ?_) (fun c16 => ?_)
    · obtain ⟨pz, hpz, rfl⟩ := vIn_of (by omega) c16
      refine k_aload_n hJ dX3_smells_26 0 rfl ?_
      refine gf_X3_10 (v := .ref (aL 0)) hJ 0 rfl rfl dX3_smells_27 ?_
      refine k_iload_n hJ dX3_smells_30 1 rfl ?_
      refine k_iload_n hJ dX3_smells_31 2 rfl ?_
      refine k_iload_n hJ dX3_smells_32 3 rfl ?_
      refine c_VI (As := [.int (nI px), .int (nI py), .int (nI pz)]) (st := []) hJ (ct_X0_smelt l g aL m lm px py pz hB hm (by omega) (by omega) (by omega)) cls_frL mv_X0_smelt ml_X3_126 15 rfl rfl rfl (kRm_ok (by decide) (by decide)) rfl rfl (Nat.le_of_ble_eq_true rfl) dX3_smells_33 ?_
      have hsp : sp_smells (m, k, kf, tp, tl, sb, sz, nu, ct) (nI px) (nI py) (nI pz) = (nI (vSmell m px py pz), (m, k, kf, tp, tl, sb, sz, nu, ct)) := by simp [-Nat.add_zero, sp_smells, sp_tell, nI_l0, nI_l1, nI_l2, nI_l3, nI_l4, tN_l0, tN_l1, tN_l2, tN_l3, tN_l4, c9, c16, nI_clamp (show px < 2 ^ 31 by omega), nI_clamp (show py < 2 ^ 31 by omega), nI_clamp (show pz < 2 ^ 31 by omega)] <;> (repeat' (first | intro _ | refine ⟨?_, ?_⟩ | split)) <;> first | rfl | omega | (exfalso; omega)
      exact k_eqw (ws2 := clsA g a aK aL aT (sp_smells (m, k, kf, tp, tl, sb, sz, nu, ct) (nI px) (nI py) (nI pz)).2 (jk, lk, lm, t, lt, nx, tk, sr, va)) (by rw [hsp]; rfl) (hR _ _ _ (jk, lk, lm, t, lt, nx, tk, sr, va) dX3_smells_36 (by rw [hsp]))
    · refine k_aload_n hJ dX3_smells_19 0 rfl ?_
      refine k_ldc hJ dX3_smells_20 cw_X3_55 ?_
      refine k_eqs (st2 := [.int (kFi 0), .ref (a 0)]) (by rw [kFi_c0]) ?_
      refine c_VI (As := [.int (kFi 0)]) (st := []) hJ (ct_X3_tell l g a aK aL aT kf ct 0 (by decide)) cls_frX mv_X3_tell ml_X3_56 0 rfl rfl rfl (kRm_ok (by decide) (by decide)) rfl rfl (Nat.le_of_ble_eq_true rfl) dX3_smells_22 ?_
      have hsp : sp_smells (m, k, kf, tp, tl, sb, sz, nu, ct) (nI px) (nI py) z = (kFi 0, (m, k, kf, tp, tl, sb, sz, nu, kTe ct 0)) := by simp [-Nat.add_zero, sp_smells, sp_tell, nI_l0, nI_l1, nI_l2, nI_l3, nI_l4, tN_l0, tN_l1, tN_l2, tN_l3, tN_l4, c9, c16, nI_clamp (show px < 2 ^ 31 by omega), nI_clamp (show py < 2 ^ 31 by omega)] <;> (repeat' (first | intro _ | refine ⟨?_, ?_⟩ | split)) <;> first | rfl | omega | (exfalso; omega)
      exact k_eqw (ws2 := clsA g a aK aL aT (sp_smells (m, k, kf, tp, tl, sb, sz, nu, ct) (nI px) (nI py) z).2 (jk, lk, lm, t, lt, nx, tk, sr, va)) (by rw [hsp]; rfl) (hR _ _ _ (jk, lk, lm, t, lt, nx, tk, sr, va) dX3_smells_25 (by rw [hsp]))
set_option maxHeartbeats 4000000 in
set_option maxRecDepth 100000 in
theorem cp_guilty (l : Launch) (g : KG) (a aK aL aT : Nat → Nat) (j : CJ) (s : KS) (hs : kOk s) (x : Int32) : CT l yX3_guilty cX3_guilty 2 (some .int) (rmK 5) g [.ref (a 0), .int x] (clsA g a aK aL aT s j) (S := CJ) oI (fun r _ => r = (sp_guilty s x).1) (fun j => clsA g a aK aL aT (sp_guilty s x).2 j) := by
  obtain ⟨m, k, kf, tp, tl, sb, sz, nu, ct⟩ := s
  obtain ⟨jk, lk, lm, t, lt, nx, tk, sr, va⟩ := j
  obtain ⟨hm, hk, htl, htp, hsh⟩ := hs
  have h0 : m 0 ≤ 8 := hm.1
  have h1 : m 1 ≤ 9999 := hm.2.1
  have h2 : m 2 ≤ 4 := hm.2.2.1
  have h3 : m 3 ≤ 99 := hm.2.2.2.2.1
  have hB : 9999 < 2 ^ 30 := by decide
  refine k_bodyI (by decide) (Nat.le_of_ble_eq_true rfl) (fun _ _ _ => rfl) (fun J hJ hR => ?_)
  show J (clsW g a aK aL aT kf ct (if kf then k else jk) lk m lm t lt tp tl nx tk sr va sb sz nu) [(0, .ref (a 0)), (1, .int x)] 0 []
  refine k_aload_n hJ dX3_guilty_0 0 rfl ?_
  refine gf_X3_10 (v := .ref (aL 0)) hJ 0 rfl rfl dX3_guilty_1 ?_
  refine k_iload_n hJ dX3_guilty_4 1 rfl ?_
  refine c_VI (As := [.int x]) (st := []) hJ (ct_X0_has l g aL m lm x ) cls_frL mv_X0_has ml_X3_75 15 rfl rfl rfl (kRm_ok (by decide) (by decide)) rfl rfl (Nat.le_of_ble_eq_true rfl) dX3_guilty_5 ?_
  refine b_if_ne (tgt := 18) hJ dX3_guilty_8 (by decide) (fun c8 => ?_) (fun c8 => ?_)
  · obtain ⟨px, hpx, rfl⟩ := vIn_of (by omega) c8
    refine k_aload_n hJ dX3_guilty_18 0 rfl ?_
    refine gf_X3_10 (v := .ref (aL 0)) hJ 0 rfl rfl dX3_guilty_19 ?_
    refine k_iload_n hJ dX3_guilty_22 1 rfl ?_
    refine c_VI (As := [.int (nI px)]) (st := []) hJ (ct_X0_finders l g aL m lm px hB hm (by omega)) cls_frL mv_X0_finders ml_X3_131 15 rfl rfl rfl (kRm_ok (by decide) (by decide)) rfl rfl (Nat.le_of_ble_eq_true rfl) dX3_guilty_23 ?_
    have hff23 : vFinders m px < 256 := vBits_le8 _ (hm).1
    have hsp : sp_guilty (m, k, kf, tp, tl, sb, sz, nu, ct) (nI px) = (nI (vFinders m px), (m, k, kf, tp, tl, sb, sz, nu, ct)) := by simp [-Nat.add_zero, sp_guilty, sp_tell, nI_l0, nI_l1, nI_l2, nI_l3, nI_l4, tN_l0, tN_l1, tN_l2, tN_l3, tN_l4, c8, nI_clamp (show px < 2 ^ 31 by omega)] <;> (repeat' (first | intro _ | refine ⟨?_, ?_⟩ | split)) <;> first | rfl | omega | (exfalso; omega)
    exact k_eqw (ws2 := clsA g a aK aL aT (sp_guilty (m, k, kf, tp, tl, sb, sz, nu, ct) (nI px)).2 (jk, lk, lm, t, lt, nx, tk, sr, va)) (by rw [hsp]; rfl) (hR _ _ _ (jk, lk, lm, t, lt, nx, tk, sr, va) dX3_guilty_26 (by rw [hsp]))
  · refine k_aload_n hJ dX3_guilty_11 0 rfl ?_
    refine k_ldc hJ dX3_guilty_12 cw_X3_55 ?_
    refine k_eqs (st2 := [.int (kFi 0), .ref (a 0)]) (by rw [kFi_c0]) ?_
    refine c_VI (As := [.int (kFi 0)]) (st := []) hJ (ct_X3_tell l g a aK aL aT kf ct 0 (by decide)) cls_frX mv_X3_tell ml_X3_56 0 rfl rfl rfl (kRm_ok (by decide) (by decide)) rfl rfl (Nat.le_of_ble_eq_true rfl) dX3_guilty_14 ?_
    have hsp : sp_guilty (m, k, kf, tp, tl, sb, sz, nu, ct) x = (kFi 0, (m, k, kf, tp, tl, sb, sz, nu, kTe ct 0)) := by simp [-Nat.add_zero, sp_guilty, sp_tell, nI_l0, nI_l1, nI_l2, nI_l3, nI_l4, tN_l0, tN_l1, tN_l2, tN_l3, tN_l4, c8] <;> (repeat' (first | intro _ | refine ⟨?_, ?_⟩ | split)) <;> first | rfl | omega | (exfalso; omega)
    exact k_eqw (ws2 := clsA g a aK aL aT (sp_guilty (m, k, kf, tp, tl, sb, sz, nu, ct) x).2 (jk, lk, lm, t, lt, nx, tk, sr, va)) (by rw [hsp]; rfl) (hR _ _ _ (jk, lk, lm, t, lt, nx, tk, sr, va) dX3_guilty_17 (by rw [hsp]))
set_option maxHeartbeats 4000000 in
set_option maxRecDepth 100000 in
theorem cp_now (l : Launch) (g : KG) (a aK aL aT : Nat → Nat) (j : CJ) (s : KS) (hs : kOk s) (x : Int32) : CT l yX3_now cX3_now 2 (some .int) (rmK 6) g [.ref (a 0), .int x] (clsA g a aK aL aT s j) (S := CJ) oI (fun r _ => r = (sp_now s x).1) (fun j => clsA g a aK aL aT (sp_now s x).2 j) := by
  obtain ⟨m, k, kf, tp, tl, sb, sz, nu, ct⟩ := s
  obtain ⟨jk, lk, lm, t, lt, nx, tk, sr, va⟩ := j
  obtain ⟨hm, hk, htl, htp, hsh⟩ := hs
  have h0 : m 0 ≤ 8 := hm.1
  have h1 : m 1 ≤ 9999 := hm.2.1
  have h2 : m 2 ≤ 4 := hm.2.2.1
  have h3 : m 3 ≤ 99 := hm.2.2.2.2.1
  have hB : 9999 < 2 ^ 30 := by decide
  refine k_bodyI (by decide) (Nat.le_of_ble_eq_true rfl) (fun _ _ _ => rfl) (fun J hJ hR => ?_)
  show J (clsW g a aK aL aT kf ct (if kf then k else jk) lk m lm t lt tp tl nx tk sr va sb sz nu) [(0, .ref (a 0)), (1, .int x)] 0 []
  refine k_iload_n hJ dX3_now_0 1 rfl ?_
  by_cases c1_0 : x = (0 : Int32)
  · refine r_tabIn (c := 0) (tgt := 36) hJ dX3_now_1 c1_0 (by decide) (by decide) (by decide) rfl (by decide) ?_
    refine k_aload_n hJ dX3_now_36 0 rfl ?_
    refine gf_X3_10 (v := .ref (aL 0)) hJ 0 rfl rfl dX3_now_37 ?_
    refine gf_X3_142 (v := .int (nI (m 1))) hJ 15 rfl rfl dX3_now_40 ?_
    have hsp : sp_now (m, k, kf, tp, tl, sb, sz, nu, ct) x = (nI (m 1), (m, k, kf, tp, tl, sb, sz, nu, ct)) := by simp [-Nat.add_zero, sp_now, sp_tell, nI_l0, nI_l1, nI_l2, nI_l3, nI_l4, tN_l0, tN_l1, tN_l2, tN_l3, tN_l4, c1_0] <;> (repeat' (first | intro _ | refine ⟨?_, ?_⟩ | split)) <;> first | rfl | omega | (exfalso; omega)
    exact k_eqw (ws2 := clsA g a aK aL aT (sp_now (m, k, kf, tp, tl, sb, sz, nu, ct) x).2 (jk, lk, lm, t, lt, nx, tk, sr, va)) (by rw [hsp]; rfl) (hR _ _ _ (jk, lk, lm, t, lt, nx, tk, sr, va) dX3_now_43 (by rw [hsp]))
  by_cases c1_1 : x = (1 : Int32)
  · refine r_tabIn (c := 1) (tgt := 44) hJ dX3_now_1 c1_1 (by decide) (by decide) (by decide) rfl (by decide) ?_
    refine k_aload_n hJ dX3_now_44 0 rfl ?_
    refine gf_X3_10 (v := .ref (aL 0)) hJ 0 rfl rfl dX3_now_45 ?_
    refine gf_X3_48 (v := .int (nI (m 2))) hJ 15 rfl rfl dX3_now_48 ?_
    have hsp : sp_now (m, k, kf, tp, tl, sb, sz, nu, ct) x = (nI (m 2), (m, k, kf, tp, tl, sb, sz, nu, ct)) := by simp [-Nat.add_zero, sp_now, sp_tell, nI_l0, nI_l1, nI_l2, nI_l3, nI_l4, tN_l0, tN_l1, tN_l2, tN_l3, tN_l4, c1_0, c1_1] <;> (repeat' (first | intro _ | refine ⟨?_, ?_⟩ | split)) <;> first | rfl | omega | (exfalso; omega)
    exact k_eqw (ws2 := clsA g a aK aL aT (sp_now (m, k, kf, tp, tl, sb, sz, nu, ct) x).2 (jk, lk, lm, t, lt, nx, tk, sr, va)) (by rw [hsp]; rfl) (hR _ _ _ (jk, lk, lm, t, lt, nx, tk, sr, va) dX3_now_51 (by rw [hsp]))
  by_cases c1_2 : x = (2 : Int32)
  · refine r_tabIn (c := 2) (tgt := 52) hJ dX3_now_1 c1_2 (by decide) (by decide) (by decide) rfl (by decide) ?_
    refine k_aload_n hJ dX3_now_52 0 rfl ?_
    refine gf_X3_10 (v := .ref (aL 0)) hJ 0 rfl rfl dX3_now_53 ?_
    refine gf_X3_52 (v := .int (nI (m 3))) hJ 15 rfl rfl dX3_now_56 ?_
    have hsp : sp_now (m, k, kf, tp, tl, sb, sz, nu, ct) x = (nI (m 3), (m, k, kf, tp, tl, sb, sz, nu, ct)) := by simp [-Nat.add_zero, sp_now, sp_tell, nI_l0, nI_l1, nI_l2, nI_l3, nI_l4, tN_l0, tN_l1, tN_l2, tN_l3, tN_l4, c1_0, c1_1, c1_2] <;> (repeat' (first | intro _ | refine ⟨?_, ?_⟩ | split)) <;> first | rfl | omega | (exfalso; omega)
    exact k_eqw (ws2 := clsA g a aK aL aT (sp_now (m, k, kf, tp, tl, sb, sz, nu, ct) x).2 (jk, lk, lm, t, lt, nx, tk, sr, va)) (by rw [hsp]; rfl) (hR _ _ _ (jk, lk, lm, t, lt, nx, tk, sr, va) dX3_now_59 (by rw [hsp]))
  by_cases c1_3 : x = (3 : Int32)
  · refine r_tabIn (c := 3) (tgt := 60) hJ dX3_now_1 c1_3 (by decide) (by decide) (by decide) rfl (by decide) ?_
    refine k_aload_n hJ dX3_now_60 0 rfl ?_
    refine gf_X3_10 (v := .ref (aL 0)) hJ 0 rfl rfl dX3_now_61 ?_
    refine c_VI (As := []) (st := []) hJ (ct_X0_scentsOfAll l g aL m lm  hB hm ) cls_frL mv_X0_scentsOfAll ml_X3_148 15 rfl rfl rfl (kRm_ok (by decide) (by decide)) rfl rfl (Nat.le_of_ble_eq_true rfl) dX3_now_64 ?_
    have hsp : sp_now (m, k, kf, tp, tl, sb, sz, nu, ct) x = (nI (vScentsAll m), (m, k, kf, tp, tl, sb, sz, nu, ct)) := by simp [-Nat.add_zero, sp_now, sp_tell, nI_l0, nI_l1, nI_l2, nI_l3, nI_l4, tN_l0, tN_l1, tN_l2, tN_l3, tN_l4, c1_0, c1_1, c1_2, c1_3] <;> (repeat' (first | intro _ | refine ⟨?_, ?_⟩ | split)) <;> first | rfl | omega | (exfalso; omega)
    exact k_eqw (ws2 := clsA g a aK aL aT (sp_now (m, k, kf, tp, tl, sb, sz, nu, ct) x).2 (jk, lk, lm, t, lt, nx, tk, sr, va)) (by rw [hsp]; rfl) (hR _ _ _ (jk, lk, lm, t, lt, nx, tk, sr, va) dX3_now_67 (by rw [hsp]))
  by_cases c1_4 : x = (4 : Int32)
  · refine r_tabIn (c := 4) (tgt := 68) hJ dX3_now_1 c1_4 (by decide) (by decide) (by decide) rfl (by decide) ?_
    refine k_aload_n hJ dX3_now_68 0 rfl ?_
    refine gf_X3_10 (v := .ref (aL 0)) hJ 0 rfl rfl dX3_now_69 ?_
    refine c_VI (As := []) (st := []) hJ (ct_X0_foundGuilty l g aL m lm  hB hm ) cls_frL mv_X0_foundGuilty ml_X3_151 15 rfl rfl rfl (kRm_ok (by decide) (by decide)) rfl rfl (Nat.le_of_ble_eq_true rfl) dX3_now_72 ?_
    have hsp : sp_now (m, k, kf, tp, tl, sb, sz, nu, ct) x = (nI (vGuiltyAll m), (m, k, kf, tp, tl, sb, sz, nu, ct)) := by simp [-Nat.add_zero, sp_now, sp_tell, nI_l0, nI_l1, nI_l2, nI_l3, nI_l4, tN_l0, tN_l1, tN_l2, tN_l3, tN_l4, c1_0, c1_1, c1_2, c1_3, c1_4] <;> (repeat' (first | intro _ | refine ⟨?_, ?_⟩ | split)) <;> first | rfl | omega | (exfalso; omega)
    exact k_eqw (ws2 := clsA g a aK aL aT (sp_now (m, k, kf, tp, tl, sb, sz, nu, ct) x).2 (jk, lk, lm, t, lt, nx, tk, sr, va)) (by rw [hsp]; rfl) (hR _ _ _ (jk, lk, lm, t, lt, nx, tk, sr, va) dX3_now_75 (by rw [hsp]))
  refine r_tabOut (N := 5) (tgt := 76) hJ dX3_now_1 (by decide) (by decide) (fun c hc e => by rcases (show c = 0 ∨ c = 1 ∨ c = 2 ∨ c = 3 ∨ c = 4 by omega) with rfl | rfl | rfl | rfl | rfl; all_goals first | exact c1_0 e | exact c1_1 e | exact c1_2 e | exact c1_3 e | exact c1_4 e) (by decide) ?_
  refine k_aload_n hJ dX3_now_76 0 rfl ?_
  refine k_ldc hJ dX3_now_77 cw_X3_55 ?_
  refine k_eqs (st2 := [.int (kFi 0), .ref (a 0)]) (by rw [kFi_c0]) ?_
  refine c_VI (As := [.int (kFi 0)]) (st := []) hJ (ct_X3_tell l g a aK aL aT kf ct 0 (by decide)) cls_frX mv_X3_tell ml_X3_56 0 rfl rfl rfl (kRm_ok (by decide) (by decide)) rfl rfl (Nat.le_of_ble_eq_true rfl) dX3_now_79 ?_
  have hsp : sp_now (m, k, kf, tp, tl, sb, sz, nu, ct) x = (kFi 0, (m, k, kf, tp, tl, sb, sz, nu, kTe ct 0)) := by simp [-Nat.add_zero, sp_now, sp_tell, nI_l0, nI_l1, nI_l2, nI_l3, nI_l4, tN_l0, tN_l1, tN_l2, tN_l3, tN_l4, c1_0, c1_1, c1_2, c1_3, c1_4] <;> (repeat' (first | intro _ | refine ⟨?_, ?_⟩ | split)) <;> first | rfl | omega | (exfalso; omega)
  exact k_eqw (ws2 := clsA g a aK aL aT (sp_now (m, k, kf, tp, tl, sb, sz, nu, ct) x).2 (jk, lk, lm, t, lt, nx, tk, sr, va)) (by rw [hsp]; rfl) (hR _ _ _ (jk, lk, lm, t, lt, nx, tk, sr, va) dX3_now_82 (by rw [hsp]))
set_option maxHeartbeats 4000000 in
set_option maxRecDepth 100000 in
theorem cp_wind (l : Launch) (g : KG) (a aK aL aT : Nat → Nat) (j : CJ) (s : KS) (hs : kOk s) (x : Int32) : CT l yX3_wind cX3_wind 2 (some .int) (rmK 6) g [.ref (a 0), .int x] (clsA g a aK aL aT s j) (S := CJ) oI (fun r _ => r = (sp_wind s x).1) (fun j => clsA g a aK aL aT (sp_wind s x).2 j) := by
  obtain ⟨m, k, kf, tp, tl, sb, sz, nu, ct⟩ := s
  obtain ⟨jk, lk, lm, t, lt, nx, tk, sr, va⟩ := j
  obtain ⟨hm, hk, htl, htp, hsh⟩ := hs
  have h0 : m 0 ≤ 8 := hm.1
  have h1 : m 1 ≤ 9999 := hm.2.1
  have h2 : m 2 ≤ 4 := hm.2.2.1
  have h3 : m 3 ≤ 99 := hm.2.2.2.2.1
  have hB : 9999 < 2 ^ 30 := by decide
  refine k_bodyI (by decide) (Nat.le_of_ble_eq_true rfl) (fun _ _ _ => rfl) (fun J hJ hR => ?_)
  show J (clsW g a aK aL aT kf ct (if kf then k else jk) lk m lm t lt tp tl nx tk sr va sb sz nu) [(0, .ref (a 0)), (1, .int x)] 0 []
  refine k_aload_n hJ dX3_wind_0 0 rfl ?_
  refine gf_X3_10 (v := .ref (aL 0)) hJ 0 rfl rfl dX3_wind_1 ?_
  refine k_iload_n hJ dX3_wind_4 1 rfl ?_
  refine c_VI (As := [.int x]) (st := []) hJ (ct_X0_has l g aL m lm x ) cls_frL mv_X0_has ml_X3_75 15 rfl rfl rfl (kRm_ok (by decide) (by decide)) rfl rfl (Nat.le_of_ble_eq_true rfl) dX3_wind_5 ?_
  refine b_if_eq (tgt := 21) hJ dX3_wind_8 (by decide) (fun c8 => ?_) (fun c8 => ?_)
  · refine k_aload_n hJ dX3_wind_21 0 rfl ?_
    refine k_ldc hJ dX3_wind_22 cw_X3_55 ?_
    refine k_eqs (st2 := [.int (kFi 0), .ref (a 0)]) (by rw [kFi_c0]) ?_
    refine c_VI (As := [.int (kFi 0)]) (st := []) hJ (ct_X3_tell l g a aK aL aT kf ct 0 (by decide)) cls_frX mv_X3_tell ml_X3_56 0 rfl rfl rfl (kRm_ok (by decide) (by decide)) rfl rfl (Nat.le_of_ble_eq_true rfl) dX3_wind_24 ?_
    have hsp : sp_wind (m, k, kf, tp, tl, sb, sz, nu, ct) x = (kFi 0, (m, k, kf, tp, tl, sb, sz, nu, kTe ct 0)) := by simp [-Nat.add_zero, sp_wind, sp_tell, nI_l0, nI_l1, nI_l2, nI_l3, nI_l4, tN_l0, tN_l1, tN_l2, tN_l3, tN_l4, c8] <;> (repeat' (first | intro _ | refine ⟨?_, ?_⟩ | split)) <;> first | rfl | omega | (exfalso; omega)
    exact k_eqw (ws2 := clsA g a aK aL aT (sp_wind (m, k, kf, tp, tl, sb, sz, nu, ct) x).2 (jk, lk, lm, t, lt, nx, tk, sr, va)) (by rw [hsp]; rfl) (hR _ _ _ (jk, lk, lm, t, lt, nx, tk, sr, va) dX3_wind_27 (by rw [hsp]))
  · obtain ⟨px, hpx, rfl⟩ := vIn_of (by omega) c8
    refine k_aload_n hJ dX3_wind_11 0 rfl ?_
    refine k_iload_n hJ dX3_wind_12 1 rfl ?_
    refine k_iconst (v := nI 0) hJ dX3_wind_13 (by decide) ?_
    refine k_iconst (v := nI 5) hJ dX3_wind_14 (by decide) ?_
    refine k_callV (As := [.int (nI px), .int (nI 0), .int (nI 5)]) (st := []) hJ (ct_X3_fewestFind l g a aK aL aT kf ct (if kf then k else jk) lk m lm t lt tp tl nx tk sr va sb sz nu px 0 5 2 hB rfl (fun v hv => vOk_wind hm (by omega)) (by decide) (by decide) (by omega)) (fun _ => Fr.all rfl) mv_X3_fewestFind ml_X3_162 0 rfl rfl rfl (kRm_ok (by decide) (by decide)) rfl rfl (Nat.le_of_ble_eq_true rfl) dX3_wind_15 (fun r u hr => ?_)
    subst hr
    show J (clsW g a aK aL aT kf ct (if kf then k else jk) lk m lm u lt tp tl nx tk sr va sb sz nu) [(0, .ref (a 0)), (1, .int (nI px))] 18 [.int (nI ((vLst m 2 px 5).1))]
    refine k_goto (tgt := 27) hJ dX3_wind_18 (by decide) ?_
    have hsp : sp_wind (m, k, kf, tp, tl, sb, sz, nu, ct) (nI px) = (nI ((vLst m 2 px 5).1), (m, k, kf, tp, tl, sb, sz, nu, ct)) := by simp [-Nat.add_zero, sp_wind, sp_tell, nI_l0, nI_l1, nI_l2, nI_l3, nI_l4, tN_l0, tN_l1, tN_l2, tN_l3, tN_l4, c8, nI_clamp (show px < 2 ^ 31 by omega)] <;> (repeat' (first | intro _ | refine ⟨?_, ?_⟩ | split)) <;> first | rfl | omega | (exfalso; omega)
    exact k_eqw (ws2 := clsA g a aK aL aT (sp_wind (m, k, kf, tp, tl, sb, sz, nu, ct) (nI px)).2 (jk, lk, lm, u, lt, nx, tk, sr, va)) (by rw [hsp]; rfl) (hR _ _ _ (jk, lk, lm, u, lt, nx, tk, sr, va) dX3_wind_27 (by rw [hsp]))
set_option maxHeartbeats 4000000 in
set_option maxRecDepth 100000 in
theorem cp_seat (l : Launch) (g : KG) (a aK aL aT : Nat → Nat) (j : CJ) (s : KS) (hs : kOk s) (x : Int32) : CT l yX3_seat cX3_seat 2 (some .int) (rmK 6) g [.ref (a 0), .int x] (clsA g a aK aL aT s j) (S := CJ) oI (fun r _ => r = (sp_seat s x).1) (fun j => clsA g a aK aL aT (sp_seat s x).2 j) := by
  obtain ⟨m, k, kf, tp, tl, sb, sz, nu, ct⟩ := s
  obtain ⟨jk, lk, lm, t, lt, nx, tk, sr, va⟩ := j
  obtain ⟨hm, hk, htl, htp, hsh⟩ := hs
  have h0 : m 0 ≤ 8 := hm.1
  have h1 : m 1 ≤ 9999 := hm.2.1
  have h2 : m 2 ≤ 4 := hm.2.2.1
  have h3 : m 3 ≤ 99 := hm.2.2.2.2.1
  have hB : 9999 < 2 ^ 30 := by decide
  refine k_bodyI (by decide) (Nat.le_of_ble_eq_true rfl) (fun _ _ _ => rfl) (fun J hJ hR => ?_)
  show J (clsW g a aK aL aT kf ct (if kf then k else jk) lk m lm t lt tp tl nx tk sr va sb sz nu) [(0, .ref (a 0)), (1, .int x)] 0 []
  refine k_aload_n hJ dX3_seat_0 0 rfl ?_
  refine gf_X3_10 (v := .ref (aL 0)) hJ 0 rfl rfl dX3_seat_1 ?_
  refine k_iload_n hJ dX3_seat_4 1 rfl ?_
  refine c_VI (As := [.int x]) (st := []) hJ (ct_X0_has l g aL m lm x ) cls_frL mv_X0_has ml_X3_75 15 rfl rfl rfl (kRm_ok (by decide) (by decide)) rfl rfl (Nat.le_of_ble_eq_true rfl) dX3_seat_5 ?_
  refine b_if_eq (tgt := 22) hJ dX3_seat_8 (by decide) (fun c8 => ?_) (fun c8 => ?_)
  · refine k_aload_n hJ dX3_seat_22 0 rfl ?_
    refine k_ldc hJ dX3_seat_23 cw_X3_55 ?_
    refine k_eqs (st2 := [.int (kFi 0), .ref (a 0)]) (by rw [kFi_c0]) ?_
    refine c_VI (As := [.int (kFi 0)]) (st := []) hJ (ct_X3_tell l g a aK aL aT kf ct 0 (by decide)) cls_frX mv_X3_tell ml_X3_56 0 rfl rfl rfl (kRm_ok (by decide) (by decide)) rfl rfl (Nat.le_of_ble_eq_true rfl) dX3_seat_25 ?_
    have hsp : sp_seat (m, k, kf, tp, tl, sb, sz, nu, ct) x = (kFi 0, (m, k, kf, tp, tl, sb, sz, nu, kTe ct 0)) := by simp [-Nat.add_zero, sp_seat, sp_tell, nI_l0, nI_l1, nI_l2, nI_l3, nI_l4, tN_l0, tN_l1, tN_l2, tN_l3, tN_l4, c8] <;> (repeat' (first | intro _ | refine ⟨?_, ?_⟩ | split)) <;> first | rfl | omega | (exfalso; omega)
    exact k_eqw (ws2 := clsA g a aK aL aT (sp_seat (m, k, kf, tp, tl, sb, sz, nu, ct) x).2 (jk, lk, lm, t, lt, nx, tk, sr, va)) (by rw [hsp]; rfl) (hR _ _ _ (jk, lk, lm, t, lt, nx, tk, sr, va) dX3_seat_28 (by rw [hsp]))
  · obtain ⟨px, hpx, rfl⟩ := vIn_of (by omega) c8
    refine k_aload_n hJ dX3_seat_11 0 rfl ?_
    refine k_iload_n hJ dX3_seat_12 1 rfl ?_
    refine k_iconst (v := nI 1) hJ dX3_seat_13 (by decide) ?_
    refine k_bipush (v := nI 48) hJ dX3_seat_14 (by decide) ?_
    refine k_callV (As := [.int (nI px), .int (nI 1), .int (nI 48)]) (st := []) hJ (ct_X3_fewestFind l g a aK aL aT kf ct (if kf then k else jk) lk m lm t lt tp tl nx tk sr va sb sz nu px 1 48 (4 + 10 * px + 1) hB rfl (fun v hv => vOk_pl hm px (by omega)) (by decide) (by decide) (by omega)) (fun _ => Fr.all rfl) mv_X3_fewestFind ml_X3_162 0 rfl rfl rfl (kRm_ok (by decide) (by decide)) rfl rfl (Nat.le_of_ble_eq_true rfl) dX3_seat_16 (fun r u hr => ?_)
    subst hr
    show J (clsW g a aK aL aT kf ct (if kf then k else jk) lk m lm u lt tp tl nx tk sr va sb sz nu) [(0, .ref (a 0)), (1, .int (nI px))] 19 [.int (nI ((vLst m (4 + 10 * px + 1) px 48).1))]
    refine k_goto (tgt := 28) hJ dX3_seat_19 (by decide) ?_
    have hsp : sp_seat (m, k, kf, tp, tl, sb, sz, nu, ct) (nI px) = (nI ((vLst m (4 + 10 * px + 1) px 48).1), (m, k, kf, tp, tl, sb, sz, nu, ct)) := by simp [-Nat.add_zero, sp_seat, sp_tell, nI_l0, nI_l1, nI_l2, nI_l3, nI_l4, tN_l0, tN_l1, tN_l2, tN_l3, tN_l4, c8, nI_clamp (show px < 2 ^ 31 by omega)] <;> (repeat' (first | intro _ | refine ⟨?_, ?_⟩ | split)) <;> first | rfl | omega | (exfalso; omega)
    exact k_eqw (ws2 := clsA g a aK aL aT (sp_seat (m, k, kf, tp, tl, sb, sz, nu, ct) (nI px)).2 (jk, lk, lm, u, lt, nx, tk, sr, va)) (by rw [hsp]; rfl) (hR _ _ _ (jk, lk, lm, u, lt, nx, tk, sr, va) dX3_seat_28 (by rw [hsp]))
set_option maxHeartbeats 4000000 in
set_option maxRecDepth 100000 in
theorem cp_kind (l : Launch) (g : KG) (a aK aL aT : Nat → Nat) (j : CJ) (s : KS) (hs : kOk s) (x : Int32) : CT l yX3_kind cX3_kind 2 (some .int) (rmK 6) g [.ref (a 0), .int x] (clsA g a aK aL aT s j) (S := CJ) oI (fun r _ => r = (sp_kind s x).1) (fun j => clsA g a aK aL aT (sp_kind s x).2 j) := by
  obtain ⟨m, k, kf, tp, tl, sb, sz, nu, ct⟩ := s
  obtain ⟨jk, lk, lm, t, lt, nx, tk, sr, va⟩ := j
  obtain ⟨hm, hk, htl, htp, hsh⟩ := hs
  have h0 : m 0 ≤ 8 := hm.1
  have h1 : m 1 ≤ 9999 := hm.2.1
  have h2 : m 2 ≤ 4 := hm.2.2.1
  have h3 : m 3 ≤ 99 := hm.2.2.2.2.1
  have hB : 9999 < 2 ^ 30 := by decide
  refine k_bodyI (by decide) (Nat.le_of_ble_eq_true rfl) (fun _ _ _ => rfl) (fun J hJ hR => ?_)
  show J (clsW g a aK aL aT kf ct (if kf then k else jk) lk m lm t lt tp tl nx tk sr va sb sz nu) [(0, .ref (a 0)), (1, .int x)] 0 []
  refine k_aload_n hJ dX3_kind_0 0 rfl ?_
  refine gf_X3_10 (v := .ref (aL 0)) hJ 0 rfl rfl dX3_kind_1 ?_
  refine k_iload_n hJ dX3_kind_4 1 rfl ?_
  refine c_VI (As := [.int x]) (st := []) hJ (ct_X0_has l g aL m lm x ) cls_frL mv_X0_has ml_X3_75 15 rfl rfl rfl (kRm_ok (by decide) (by decide)) rfl rfl (Nat.le_of_ble_eq_true rfl) dX3_kind_5 ?_
  refine b_if_eq (tgt := 22) hJ dX3_kind_8 (by decide) (fun c8 => ?_) (fun c8 => ?_)
  · refine k_aload_n hJ dX3_kind_22 0 rfl ?_
    refine k_ldc hJ dX3_kind_23 cw_X3_55 ?_
    refine k_eqs (st2 := [.int (kFi 0), .ref (a 0)]) (by rw [kFi_c0]) ?_
    refine c_VI (As := [.int (kFi 0)]) (st := []) hJ (ct_X3_tell l g a aK aL aT kf ct 0 (by decide)) cls_frX mv_X3_tell ml_X3_56 0 rfl rfl rfl (kRm_ok (by decide) (by decide)) rfl rfl (Nat.le_of_ble_eq_true rfl) dX3_kind_25 ?_
    have hsp : sp_kind (m, k, kf, tp, tl, sb, sz, nu, ct) x = (kFi 0, (m, k, kf, tp, tl, sb, sz, nu, kTe ct 0)) := by simp [-Nat.add_zero, sp_kind, sp_tell, nI_l0, nI_l1, nI_l2, nI_l3, nI_l4, tN_l0, tN_l1, tN_l2, tN_l3, tN_l4, c8] <;> (repeat' (first | intro _ | refine ⟨?_, ?_⟩ | split)) <;> first | rfl | omega | (exfalso; omega)
    exact k_eqw (ws2 := clsA g a aK aL aT (sp_kind (m, k, kf, tp, tl, sb, sz, nu, ct) x).2 (jk, lk, lm, t, lt, nx, tk, sr, va)) (by rw [hsp]; rfl) (hR _ _ _ (jk, lk, lm, t, lt, nx, tk, sr, va) dX3_kind_28 (by rw [hsp]))
  · obtain ⟨px, hpx, rfl⟩ := vIn_of (by omega) c8
    refine k_aload_n hJ dX3_kind_11 0 rfl ?_
    refine k_iload_n hJ dX3_kind_12 1 rfl ?_
    refine k_iconst (v := nI 2) hJ dX3_kind_13 (by decide) ?_
    refine k_bipush (v := nI 6) hJ dX3_kind_14 (by decide) ?_
    refine k_callV (As := [.int (nI px), .int (nI 2), .int (nI 6)]) (st := []) hJ (ct_X3_fewestFind l g a aK aL aT kf ct (if kf then k else jk) lk m lm t lt tp tl nx tk sr va sb sz nu px 2 6 (4 + 10 * px + 0) hB rfl (fun v hv => vOk_kd hm px (by omega)) (by decide) (by decide) (by omega)) (fun _ => Fr.all rfl) mv_X3_fewestFind ml_X3_162 0 rfl rfl rfl (kRm_ok (by decide) (by decide)) rfl rfl (Nat.le_of_ble_eq_true rfl) dX3_kind_16 (fun r u hr => ?_)
    subst hr
    show J (clsW g a aK aL aT kf ct (if kf then k else jk) lk m lm u lt tp tl nx tk sr va sb sz nu) [(0, .ref (a 0)), (1, .int (nI px))] 19 [.int (nI ((vLst m (4 + 10 * px + 0) px 6).1))]
    refine k_goto (tgt := 28) hJ dX3_kind_19 (by decide) ?_
    have hsp : sp_kind (m, k, kf, tp, tl, sb, sz, nu, ct) (nI px) = (nI ((vLst m (4 + 10 * px + 0) px 6).1), (m, k, kf, tp, tl, sb, sz, nu, ct)) := by simp [-Nat.add_zero, sp_kind, sp_tell, nI_l0, nI_l1, nI_l2, nI_l3, nI_l4, tN_l0, tN_l1, tN_l2, tN_l3, tN_l4, c8, nI_clamp (show px < 2 ^ 31 by omega)] <;> (repeat' (first | intro _ | refine ⟨?_, ?_⟩ | split)) <;> first | rfl | omega | (exfalso; omega)
    exact k_eqw (ws2 := clsA g a aK aL aT (sp_kind (m, k, kf, tp, tl, sb, sz, nu, ct) (nI px)).2 (jk, lk, lm, u, lt, nx, tk, sr, va)) (by rw [hsp]; rfl) (hR _ _ _ (jk, lk, lm, u, lt, nx, tk, sr, va) dX3_kind_28 (by rw [hsp]))
