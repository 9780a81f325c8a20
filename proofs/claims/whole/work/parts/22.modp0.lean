/-- what of the reference no call's answer shows -/
abbrev MJ : Type := Int32 × Nat × Nat × Nat × Nat × Bool × (Nat → Nat) × (Nat → Int32) × (Nat → Int32) × (Nat → Int32) × (Nat → Int64)
def modA (g : KG) (b : Nat → Nat) : KS → MJ → va_W := fun (m, k, kf, tp, tl, sb, sz, nu, ct) (fj, mj, fr, to, va, iw, jk, th, ai, ot, mo) => modW g b (mE kf fj mj tl fr to va iw) m th ai ct (fun i => nI ((if kf then k else jk) i)) ot tp sb sz nu mo
theorem nI_l0 : nI 0 = 0 := rfl
theorem nI_l1 : nI 1 = 1 := rfl
theorem nI_l2 : nI 2 = 2 := rfl
theorem nI_l3 : nI 3 = 3 := rfl
theorem nI_l4 : nI 4 = 4 := rfl
theorem tN_nI {p : Nat} (h : p < 2 ^ 31) : tN (nI p) = p := nI_clamp h
theorem tN_l0 : tN 0 = 0 := by decide
theorem tN_l1 : tN 1 = 1 := by decide
theorem tN_l2 : tN 2 = 2 := by decide
theorem tN_l3 : tN 3 = 3 := by decide
theorem tN_l4 : tN 4 = 4 := by decide
theorem vTwo_of {x y : Int32} {n : Nat} (hn : n < 2 ^ 31) (h : vTwo x y n = true) : ∃ p q, p < n ∧ q < n ∧ p ≠ q ∧ x = nI p ∧ y = nI q := by
  unfold vTwo at h
  simp only [Bool.and_eq_true, Bool.not_eq_true', decide_eq_false_iff_not] at h
  obtain ⟨p, hp, rfl⟩ := vIn_of hn h.1.1
  obtain ⟨q, hq, rfl⟩ := vIn_of hn h.1.2
  exact ⟨p, q, hp, hq, fun e => h.2 (by rw [e]), rfl, rfl⟩
section OKUP
variable {B : Nat} {m : Nat → Nat}
theorem vOk_up (h : vOk B m) {k v : Nat} (h0 : k = 0 → v ≤ 8) (h1 : k = 1 → v ≤ B) (h2 : k = 2 → v ≤ 4) (h3 : k = 3 → 1 ≤ v ∧ v ≤ 99) (h4 : ∀ p, p < 8 → (k = 4 + 10 * p + 0 → v ≤ 5) ∧ (k = 4 + 10 * p + 1 → v ≤ 47) ∧ (k = 4 + 10 * p + 2 → v ≤ 9) ∧ (k = 4 + 10 * p + 3 → v ≤ 1) ∧ ∀ d, d < 6 → k = 4 + 10 * p + (4 + d) → v ≤ 99) : vOk B (vUp m k v) := by
  have key : ∀ (j c : Nat), (k = j → v ≤ c) → m j ≤ c → vUp m k v j ≤ c := fun j c a e => by
    by_cases q : j = k
    · rw [vUp_eq q]; exact a q.symm
    · rw [vUp_ne q]; exact e
  refine ⟨key 0 8 h0 h.1, key 1 B h1 h.2.1, key 2 4 h2 h.2.2.1, ?_, key 3 99 (fun e => (h3 e).2) h.2.2.2.2.1, fun p hp => ⟨key _ _ (h4 p hp).1 (h.kd hp), key _ _ (h4 p hp).2.1 (h.pl hp), key _ _ (h4 p hp).2.2.1 (h.ns hp), key _ _ (h4 p hp).2.2.2.1 (h.cd hp), fun d hd => key _ _ ((h4 p hp).2.2.2.2 d hd) (h.sc hp hd)⟩⟩
  by_cases q : 3 = k
  · rw [vUp_eq q]; exact (h3 q.symm).1
  · rw [vUp_ne q]; exact h.2.2.2.1
theorem vOk_wind (h : vOk B m) {v : Nat} (hv : v ≤ 4) : vOk B (vUp m 2 v) := vOk_up h (by omega) (by omega) (by omega) (by omega) (fun p hp => ⟨by omega, by omega, by omega, by omega, by omega⟩)
theorem vOk_due (h : vOk B m) {v : Nat} (h1 : 1 ≤ v) (hv : v ≤ 99) : vOk B (vUp m 3 v) := vOk_up h (by omega) (by omega) (by omega) (by omega) (fun p hp => ⟨by omega, by omega, by omega, by omega, by omega⟩)
theorem vOk_kd (h : vOk B m) (p : Nat) {v : Nat} (hv : v ≤ 5) : vOk B (vUp m (4 + 10 * p + 0) v) := vOk_up h (by omega) (by omega) (by omega) (by omega) (fun p hp => ⟨by omega, by omega, by omega, by omega, by omega⟩)
theorem vOk_pl (h : vOk B m) (p : Nat) {v : Nat} (hv : v ≤ 47) : vOk B (vUp m (4 + 10 * p + 1) v) := vOk_up h (by omega) (by omega) (by omega) (by omega) (fun p hp => ⟨by omega, by omega, by omega, by omega, by omega⟩)
theorem vOk_ns (h : vOk B m) (p : Nat) {v : Nat} (hv : v ≤ 9) : vOk B (vUp m (4 + 10 * p + 2) v) := vOk_up h (by omega) (by omega) (by omega) (by omega) (fun p hp => ⟨by omega, by omega, by omega, by omega, by omega⟩)
theorem vOk_cd (h : vOk B m) (p : Nat) {v : Nat} (hv : v ≤ 1) : vOk B (vUp m (4 + 10 * p + 3) v) := vOk_up h (by omega) (by omega) (by omega) (by omega) (fun p hp => ⟨by omega, by omega, by omega, by omega, by omega⟩)
theorem vOk_sc (h : vOk B m) (p d : Nat) (hd : d < 6) {v : Nat} (hv : v ≤ 99) : vOk B (vUp m (4 + 10 * p + (4 + d)) v) := vOk_up h (by omega) (by omega) (by omega) (by omega) (fun p hp => ⟨by omega, by omega, by omega, by omega, by omega⟩)
end OKUP
set_option maxHeartbeats 4000000 in
set_option maxRecDepth 100000 in
theorem mp_law (l : Launch) (g : KG) (b : Nat → Nat) (j : MJ) (s : KS) (hs : kOk s) (x : Int32) (y : Int32) : CT l yX4_law cX4_law 4 (some .int) (rmK 1) g [.ref (b 0), .int x, .int y] (modA g b s j) (S := MJ) oI (fun r _ => r = (sp_law s x y).1) (fun j => modA g b (sp_law s x y).2 j) := by
  obtain ⟨m, k, kf, tp, tl, sb, sz, nu, ct⟩ := s
  obtain ⟨fj, mj, fr, to, va, iw, jk, th, ai, ot, mo⟩ := j
  obtain ⟨hm, hk, htl, htp, hsh⟩ := hs
  have h0 : m 0 ≤ 8 := hm.1
  have h1 : m 1 ≤ 9999 := hm.2.1
  have h2 : m 2 ≤ 4 := hm.2.2.1
  have h3 : m 3 ≤ 99 := hm.2.2.2.2.1
  have hB : 9999 < 2 ^ 30 := by decide
  refine k_bodyI (by decide) (Nat.le_of_ble_eq_true rfl) (fun _ _ _ => rfl) (fun J hJ hR => ?_)
  show J (modW g b (mE kf fj mj tl fr to va iw) m th ai ct (fun i => nI ((if kf then k else jk) i)) ot tp sb sz nu mo) [(0, .ref (b 0)), (1, .int x), (2, .int y)] 0 []
  refine k_iload_n hJ dX4_law_0 1 rfl ?_
  refine k_if_ne (tgt := 16) hJ dX4_law_1 (by decide) (fun c1 => ?_) (fun (c1 : x = nI 0) => ?_)
  · refine k_iload_n hJ dX4_law_16 1 rfl ?_
    refine k_iconst (v := nI 1) hJ dX4_law_17 (by decide) ?_
    refine k_icmp_ne (tgt := 37) hJ dX4_law_18 (by decide) (fun (c18 : ¬ x = (1 : Int32)) => ?_) (fun (c18 : x = nI 1) => ?_)
    · refine k_iconst (v := nI 0) hJ dX4_law_37 (by decide) ?_
      refine k_istore_n (lv1 := [(0, .ref (b 0)), (1, .int x), (2, .int y), (3, .int (nI 0))]) hJ dX4_law_38 (by decide) [1, 2, 3, 0] rfl ?_
      refine k_iload_n hJ dX4_law_39 3 rfl ?_
      refine n_if_eq (tgt := 60) hJ dX4_law_40 (by decide) (by omega) (fun c40 => ?_) (fun c40 => ?_)
      · refine k_aload_n hJ dX4_law_60 0 rfl ?_
        refine k_ldc hJ dX4_law_61 cw_X4_44 ?_
        refine k_eqs (st2 := [.int (kFi 0), .ref (b 0)]) (by rw [kFi_c0]) ?_
        refine c_VI (As := [.int (kFi 0)]) (st := []) hJ (ct_X4_finds l g b (mE kf fj mj tl fr to va iw) m th ai ct (fun i => nI ((if kf then k else jk) i)) ot tp sb sz nu mo 0 (by decide)) (Fr.all rfl) mv_X4_finds ml_X4_68 0 rfl rfl rfl (kRm_ok (by decide) (by decide)) rfl rfl (Nat.le_of_ble_eq_true rfl) dX4_law_63 ?_
        have hsp : sp_law (m, k, kf, tp, tl, sb, sz, nu, ct) x y = (kFi 0, (m, k, kf, tp, tl, sb, sz, nu, kTe ct 0)) := by simp [-Nat.add_zero, sp_law, sp_tell, nI_l0, nI_l1, nI_l2, nI_l3, nI_l4, tN_l0, tN_l1, tN_l2, tN_l3, tN_l4, c1, c18] <;> (repeat' (first | intro _ | refine ⟨?_, ?_⟩ | split)) <;> first | rfl | omega | (exfalso; omega)
        exact k_eqw (ws2 := modA g b (sp_law (m, k, kf, tp, tl, sb, sz, nu, ct) x y).2 (fj, mj, fr, to, va, iw, jk, th, ai, ot, mo)) (by rw [hsp]; rfl) (hR _ _ _ (fj, mj, fr, to, va, iw, jk, th, ai, ot, mo) dX4_law_66 (by rw [hsp]))
      · exact absurd c40 (by decide)
    · subst c18
      refine k_iload_n hJ dX4_law_21 2 rfl ?_
      refine k_i2l hJ dX4_law_22 rfl ?_
      refine k_lconst (v := 1) hJ dX4_law_23 (by decide) ?_
      refine k_ldc2 hJ dX4_law_24 cw_X4_63 ?_
      refine c_SI (As := [.long y.toInt64, .long 1, .long 99]) (st := []) hJ (ct_X4_in l g y.toInt64 1 99) Fr.none ms_X4_in ml_X4_47 (kRm_ok (by decide) (by decide)) rfl rfl (Nat.le_of_ble_eq_true rfl) dX4_law_27 ?_
      refine k_eqs (st2 := [.int (kb (vBt y 1 99))]) (by rw [show vInL y.toInt64 1 99 = vBt y 1 99 from vInL_bt y 1 99 1 99 rfl rfl]) ?_
      refine b_if_eq (tgt := 37) hJ dX4_law_30 (by decide) (fun c30 => ?_) (fun c30 => ?_)
      · refine k_iconst (v := nI 0) hJ dX4_law_37 (by decide) ?_
        refine k_istore_n (lv1 := [(0, .ref (b 0)), (1, .int (nI 1)), (2, .int y), (3, .int (nI 0))]) hJ dX4_law_38 (by decide) [1, 2, 3, 0] rfl ?_
        refine k_iload_n hJ dX4_law_39 3 rfl ?_
        refine n_if_eq (tgt := 60) hJ dX4_law_40 (by decide) (by omega) (fun c40 => ?_) (fun c40 => ?_)
        · refine k_aload_n hJ dX4_law_60 0 rfl ?_
          refine k_ldc hJ dX4_law_61 cw_X4_44 ?_
          refine k_eqs (st2 := [.int (kFi 0), .ref (b 0)]) (by rw [kFi_c0]) ?_
          refine c_VI (As := [.int (kFi 0)]) (st := []) hJ (ct_X4_finds l g b (mE kf fj mj tl fr to va iw) m th ai ct (fun i => nI ((if kf then k else jk) i)) ot tp sb sz nu mo 0 (by decide)) (Fr.all rfl) mv_X4_finds ml_X4_68 0 rfl rfl rfl (kRm_ok (by decide) (by decide)) rfl rfl (Nat.le_of_ble_eq_true rfl) dX4_law_63 ?_
          have hsp : sp_law (m, k, kf, tp, tl, sb, sz, nu, ct) (nI 1) y = (kFi 0, (m, k, kf, tp, tl, sb, sz, nu, kTe ct 0)) := by simp [-Nat.add_zero, sp_law, sp_tell, nI_l0, nI_l1, nI_l2, nI_l3, nI_l4, tN_l0, tN_l1, tN_l2, tN_l3, tN_l4, c1, c30] <;> (repeat' (first | intro _ | refine ⟨?_, ?_⟩ | split)) <;> first | rfl | omega | (exfalso; omega)
          exact k_eqw (ws2 := modA g b (sp_law (m, k, kf, tp, tl, sb, sz, nu, ct) (nI 1) y).2 (fj, mj, fr, to, va, iw, jk, th, ai, ot, mo)) (by rw [hsp]; rfl) (hR _ _ _ (fj, mj, fr, to, va, iw, jk, th, ai, ot, mo) dX4_law_66 (by rw [hsp]))
        · exact absurd c40 (by decide)
      · obtain ⟨py, hly, hpy, rfl⟩ := vBt_of (by omega) (by first | omega | (have := Nat.pow_le_pow_right (show 0 < 2 by decide) h0; omega)) c30
        refine k_iconst (v := nI 1) hJ dX4_law_33 (by decide) ?_
        refine k_goto (tgt := 38) hJ dX4_law_34 (by decide) ?_
        refine k_istore_n (lv1 := [(0, .ref (b 0)), (1, .int (nI 1)), (2, .int (nI py)), (3, .int (nI 1))]) hJ dX4_law_38 (by decide) [1, 2, 3, 0] rfl ?_
        refine k_iload_n hJ dX4_law_39 3 rfl ?_
        refine n_if_eq (tgt := 60) hJ dX4_law_40 (by decide) (by omega) (fun c40 => ?_) (fun c40 => ?_)
        · exact absurd c40 (by decide)
        · refine k_aload_n hJ dX4_law_43 0 rfl ?_
          refine k_iload_n hJ dX4_law_44 1 rfl ?_
          refine n_if_ne (tgt := 52) hJ dX4_law_45 (by decide) (by omega) (fun c45 => ?_) (fun c45 => ?_)
          · refine k_iconst (v := nI 3) hJ dX4_law_52 (by decide) ?_
            refine k_iload_n hJ dX4_law_53 2 rfl ?_
            refine c_VI (As := [.int (nI 3), .int (nI py)]) (st := []) hJ (ct_X4_becomes l g b (mE kf fj mj tl fr to va iw) m 3 py (by omega)) (frS rfl) mv_X4_becomes ml_X4_65 0 rfl rfl rfl (kRm_ok (by decide) (by decide)) rfl rfl (Nat.le_of_ble_eq_true rfl) dX4_law_54 ?_
            refine k_goto (tgt := 66) hJ dX4_law_57 (by decide) ?_
            have hsp : sp_law (m, k, kf, tp, tl, sb, sz, nu, ct) (nI 1) (nI py) = (nI (m 3), (vUp m 3 py, k, kf, tp, tl, sb, sz, nu, ct)) := by simp [-Nat.add_zero, sp_law, sp_tell, nI_l0, nI_l1, nI_l2, nI_l3, nI_l4, tN_l0, tN_l1, tN_l2, tN_l3, tN_l4, c1, c30, nI_clamp (show py < 2 ^ 31 by omega)] <;> (repeat' (first | intro _ | refine ⟨?_, ?_⟩ | split)) <;> first | rfl | omega | (exfalso; omega)
            exact k_eqw (ws2 := modA g b (sp_law (m, k, kf, tp, tl, sb, sz, nu, ct) (nI 1) (nI py)).2 (fj, mj, fr, to, va, iw, jk, th, ai, ot, mo)) (by rw [hsp]; rfl) (hR _ _ _ (fj, mj, fr, to, va, iw, jk, th, ai, ot, mo) dX4_law_66 (by rw [hsp]))
          · exact absurd c45 (by decide)
  · subst c1
    refine k_iload_n hJ dX4_law_4 2 rfl ?_
    refine k_i2l hJ dX4_law_5 rfl ?_
    refine k_lconst (v := 0) hJ dX4_law_6 (by decide) ?_
    refine k_ldc2 hJ dX4_law_7 cw_X4_61 ?_
    refine c_SI (As := [.long y.toInt64, .long 0, .long 4]) (st := []) hJ (ct_X4_in l g y.toInt64 0 4) Fr.none ms_X4_in ml_X4_47 (kRm_ok (by decide) (by decide)) rfl rfl (Nat.le_of_ble_eq_true rfl) dX4_law_10 ?_
    refine k_eqs (st2 := [.int (kb (vIn y 5))]) (by rw [vInL_in (n := 5) (by decide) (by decide) (by decide)]) ?_
    refine k_goto (tgt := 38) hJ dX4_law_13 (by decide) ?_
    refine k_istore_n (lv1 := [(0, .ref (b 0)), (1, .int (nI 0)), (2, .int y), (3, .int (kb (vIn y 5)))]) hJ dX4_law_38 (by decide) [1, 2, 3, 0] rfl ?_
    refine k_iload_n hJ dX4_law_39 3 rfl ?_
    refine b_if_eq (tgt := 60) hJ dX4_law_40 (by decide) (fun c40 => ?_) (fun c40 => ?_)
    · refine k_aload_n hJ dX4_law_60 0 rfl ?_
      refine k_ldc hJ dX4_law_61 cw_X4_44 ?_
      refine k_eqs (st2 := [.int (kFi 0), .ref (b 0)]) (by rw [kFi_c0]) ?_
      refine c_VI (As := [.int (kFi 0)]) (st := []) hJ (ct_X4_finds l g b (mE kf fj mj tl fr to va iw) m th ai ct (fun i => nI ((if kf then k else jk) i)) ot tp sb sz nu mo 0 (by decide)) (Fr.all rfl) mv_X4_finds ml_X4_68 0 rfl rfl rfl (kRm_ok (by decide) (by decide)) rfl rfl (Nat.le_of_ble_eq_true rfl) dX4_law_63 ?_
      have hsp : sp_law (m, k, kf, tp, tl, sb, sz, nu, ct) (nI 0) y = (kFi 0, (m, k, kf, tp, tl, sb, sz, nu, kTe ct 0)) := by simp [-Nat.add_zero, sp_law, sp_tell, nI_l0, nI_l1, nI_l2, nI_l3, nI_l4, tN_l0, tN_l1, tN_l2, tN_l3, tN_l4, c40] <;> (repeat' (first | intro _ | refine ⟨?_, ?_⟩ | split)) <;> first | rfl | omega | (exfalso; omega)
      exact k_eqw (ws2 := modA g b (sp_law (m, k, kf, tp, tl, sb, sz, nu, ct) (nI 0) y).2 (fj, mj, fr, to, va, iw, jk, th, ai, ot, mo)) (by rw [hsp]; rfl) (hR _ _ _ (fj, mj, fr, to, va, iw, jk, th, ai, ot, mo) dX4_law_66 (by rw [hsp]))
    · obtain ⟨py, hpy, rfl⟩ := vIn_of (by omega) c40
      refine k_aload_n hJ dX4_law_43 0 rfl ?_
      refine k_iload_n hJ dX4_law_44 1 rfl ?_
      refine n_if_ne (tgt := 52) hJ dX4_law_45 (by decide) (by omega) (fun c45 => ?_) (fun c45 => ?_)
      · exact absurd c45 (by decide)
      · refine k_iconst (v := nI 2) hJ dX4_law_48 (by decide) ?_
        refine k_goto (tgt := 53) hJ dX4_law_49 (by decide) ?_
        refine k_iload_n hJ dX4_law_53 2 rfl ?_
        refine c_VI (As := [.int (nI 2), .int (nI py)]) (st := []) hJ (ct_X4_becomes l g b (mE kf fj mj tl fr to va iw) m 2 py (by omega)) (frS rfl) mv_X4_becomes ml_X4_65 0 rfl rfl rfl (kRm_ok (by decide) (by decide)) rfl rfl (Nat.le_of_ble_eq_true rfl) dX4_law_54 ?_
        refine k_goto (tgt := 66) hJ dX4_law_57 (by decide) ?_
        have hsp : sp_law (m, k, kf, tp, tl, sb, sz, nu, ct) (nI 0) (nI py) = (nI (m 2), (vUp m 2 py, k, kf, tp, tl, sb, sz, nu, ct)) := by simp [-Nat.add_zero, sp_law, sp_tell, nI_l0, nI_l1, nI_l2, nI_l3, nI_l4, tN_l0, tN_l1, tN_l2, tN_l3, tN_l4, c40, nI_clamp (show py < 2 ^ 31 by omega)] <;> (repeat' (first | intro _ | refine ⟨?_, ?_⟩ | split)) <;> first | rfl | omega | (exfalso; omega)
        exact k_eqw (ws2 := modA g b (sp_law (m, k, kf, tp, tl, sb, sz, nu, ct) (nI 0) (nI py)).2 (fj, mj, fr, to, va, iw, jk, th, ai, ot, mo)) (by rw [hsp]; rfl) (hR _ _ _ (fj, mj, fr, to, va, iw, jk, th, ai, ot, mo) dX4_law_66 (by rw [hsp]))
set_option maxHeartbeats 4000000 in
set_option maxRecDepth 100000 in
theorem mp_person (l : Launch) (g : KG) (b : Nat → Nat) (j : MJ) (s : KS) (hs : kOk s) (x : Int32) (y : Int32) : CT l yX4_person cX4_person 3 (some .int) (rmK 2) g [.ref (b 0), .int x, .int y] (modA g b s j) (S := MJ) oI (fun r _ => r = (sp_person s x y).1) (fun j => modA g b (sp_person s x y).2 j) := by
  obtain ⟨m, k, kf, tp, tl, sb, sz, nu, ct⟩ := s
  obtain ⟨fj, mj, fr, to, va, iw, jk, th, ai, ot, mo⟩ := j
  obtain ⟨hm, hk, htl, htp, hsh⟩ := hs
  have h0 : m 0 ≤ 8 := hm.1
  have h1 : m 1 ≤ 9999 := hm.2.1
  have h2 : m 2 ≤ 4 := hm.2.2.1
  have h3 : m 3 ≤ 99 := hm.2.2.2.2.1
  have hB : 9999 < 2 ^ 30 := by decide
  refine k_bodyI (by decide) (Nat.le_of_ble_eq_true rfl) (fun _ _ _ => rfl) (fun J hJ hR => ?_)
  show J (modW g b (mE kf fj mj tl fr to va iw) m th ai ct (fun i => nI ((if kf then k else jk) i)) ot tp sb sz nu mo) [(0, .ref (b 0)), (1, .int x), (2, .int y)] 0 []
  refine k_iload_n hJ dX4_person_0 1 rfl ?_
  refine c_SI (As := [.int x]) (st := []) hJ (ct_X4_isKind l g x ) Fr.none ms_X4_isKind ml_X4_72 (kRm_ok (by decide) (by decide)) rfl rfl (Nat.le_of_ble_eq_true rfl) dX4_person_1 ?_
  refine b_if_eq (tgt := 14) hJ dX4_person_4 (by decide) (fun c4 => ?_) (fun c4 => ?_)
  · refine k_aload_n hJ dX4_person_14 0 rfl ?_
    refine k_ldc hJ dX4_person_15 cw_X4_44 ?_
    refine k_eqs (st2 := [.int (kFi 0), .ref (b 0)]) (by rw [kFi_c0]) ?_
    refine c_VI (As := [.int (kFi 0)]) (st := []) hJ (ct_X4_finds l g b (mE kf fj mj tl fr to va iw) m th ai ct (fun i => nI ((if kf then k else jk) i)) ot tp sb sz nu mo 0 (by decide)) (Fr.all rfl) mv_X4_finds ml_X4_68 0 rfl rfl rfl (kRm_ok (by decide) (by decide)) rfl rfl (Nat.le_of_ble_eq_true rfl) dX4_person_17 ?_
    have hsp : sp_person (m, k, kf, tp, tl, sb, sz, nu, ct) x y = (kFi 0, (m, k, kf, tp, tl, sb, sz, nu, kTe ct 0)) := by simp [-Nat.add_zero, sp_person, sp_tell, nI_l0, nI_l1, nI_l2, nI_l3, nI_l4, tN_l0, tN_l1, tN_l2, tN_l3, tN_l4, c4] <;> (repeat' (first | intro _ | refine ⟨?_, ?_⟩ | split)) <;> first | rfl | omega | (exfalso; omega)
    exact k_eqw (ws2 := modA g b (sp_person (m, k, kf, tp, tl, sb, sz, nu, ct) x y).2 (fj, mj, fr, to, va, iw, jk, th, ai, ot, mo)) (by rw [hsp]; rfl) (hR _ _ _ (fj, mj, fr, to, va, iw, jk, th, ai, ot, mo) dX4_person_20 (by rw [hsp]))
  · obtain ⟨px, hpx, rfl⟩ := vIn_of (by omega) c4
    refine k_iload_n hJ dX4_person_7 2 rfl ?_
    refine c_SI (As := [.int y]) (st := []) hJ (ct_X4_isPlace l g y ) Fr.none ms_X4_isPlace ml_X4_75 (kRm_ok (by decide) (by decide)) rfl rfl (Nat.le_of_ble_eq_true rfl) dX4_person_8 ?_
    refine b_if_ne (tgt := 21) hJ dX4_person_11 (by decide) (fun c11 => ?_) (fun c11 => ?_)
    · obtain ⟨py, hpy, rfl⟩ := vIn_of (by omega) c11
      refine k_aload_n hJ dX4_person_21 0 rfl ?_
      refine gf_X4_7 (v := .ref (b 1)) hJ 0 rfl rfl dX4_person_22 ?_
      refine k_iconst (v := nI 0) hJ dX4_person_25 (by decide) ?_
      refine k_iald hJ 1 rfl 0 (by omega) (by decide) rfl dX4_person_26 ?_
      refine k_bipush (v := nI 8) hJ dX4_person_27 (by decide) ?_
      refine n_icmp_ne (tgt := 41) hJ dX4_person_29 (by decide) (by omega) (by omega) (fun c29 => ?_) (fun c29 => ?_)
      · refine k_aload_n hJ dX4_person_41 0 rfl ?_
        refine k_iload_n hJ dX4_person_42 1 rfl ?_
        refine k_iload_n hJ dX4_person_43 2 rfl ?_
        refine c_VI (As := [.int (nI px), .int (nI py)]) (st := []) hJ (ct_X4_adds l g b (mE kf fj mj tl fr to va iw) m px py (by omega)) (frS rfl) mv_X4_adds ml_X4_79 0 rfl rfl rfl (kRm_ok (by decide) (by decide)) rfl rfl (Nat.le_of_ble_eq_true rfl) dX4_person_44 ?_
        have hsp : sp_person (m, k, kf, tp, tl, sb, sz, nu, ct) (nI px) (nI py) = (nI (m 0), (vJoin m px py, k, kf, tp, tl, sb, sz, nu, ct)) := by simp [-Nat.add_zero, sp_person, sp_tell, nI_l0, nI_l1, nI_l2, nI_l3, nI_l4, tN_l0, tN_l1, tN_l2, tN_l3, tN_l4, c4, c11, nI_clamp (show px < 2 ^ 31 by omega), nI_clamp (show py < 2 ^ 31 by omega)] <;> (repeat' (first | intro _ | refine ⟨?_, ?_⟩ | split)) <;> first | rfl | omega | (exfalso; omega)
        exact k_eqw (ws2 := modA g b (sp_person (m, k, kf, tp, tl, sb, sz, nu, ct) (nI px) (nI py)).2 (fj, mj, fr, to, va, iw, jk, th, ai, ot, mo)) (by rw [hsp]; rfl) (hR _ _ _ (fj, mj, fr, to, va, iw, jk, th, ai, ot, mo) dX4_person_47 (by rw [hsp]))
      · refine k_aload_n hJ dX4_person_32 0 rfl ?_
        refine k_ldc hJ dX4_person_33 cw_X4_78 ?_
        refine k_eqs (st2 := [.int (kFi 1), .ref (b 0)]) (by rw [kFi_c1]) ?_
        refine c_VI (As := [.int (kFi 1)]) (st := []) hJ (ct_X4_finds l g b (mE kf fj mj tl fr to va iw) m th ai ct (fun i => nI ((if kf then k else jk) i)) ot tp sb sz nu mo 1 (by decide)) (Fr.all rfl) mv_X4_finds ml_X4_68 0 rfl rfl rfl (kRm_ok (by decide) (by decide)) rfl rfl (Nat.le_of_ble_eq_true rfl) dX4_person_35 ?_
        refine k_goto (tgt := 47) hJ dX4_person_38 (by decide) ?_
        have hsp : sp_person (m, k, kf, tp, tl, sb, sz, nu, ct) (nI px) (nI py) = (kFi 1, (m, k, kf, tp, tl, sb, sz, nu, kTe ct 1)) := by simp [-Nat.add_zero, sp_person, sp_tell, nI_l0, nI_l1, nI_l2, nI_l3, nI_l4, tN_l0, tN_l1, tN_l2, tN_l3, tN_l4, c4, c11, nI_clamp (show px < 2 ^ 31 by omega), nI_clamp (show py < 2 ^ 31 by omega)] <;> (repeat' (first | intro _ | refine ⟨?_, ?_⟩ | split)) <;> first | rfl | omega | (exfalso; omega)
        exact k_eqw (ws2 := modA g b (sp_person (m, k, kf, tp, tl, sb, sz, nu, ct) (nI px) (nI py)).2 (fj, mj, fr, to, va, iw, jk, th, ai, ot, mo)) (by rw [hsp]; rfl) (hR _ _ _ (fj, mj, fr, to, va, iw, jk, th, ai, ot, mo) dX4_person_47 (by rw [hsp]))
    · refine k_aload_n hJ dX4_person_14 0 rfl ?_
      refine k_ldc hJ dX4_person_15 cw_X4_44 ?_
      refine k_eqs (st2 := [.int (kFi 0), .ref (b 0)]) (by rw [kFi_c0]) ?_
      refine c_VI (As := [.int (kFi 0)]) (st := []) hJ (ct_X4_finds l g b (mE kf fj mj tl fr to va iw) m th ai ct (fun i => nI ((if kf then k else jk) i)) ot tp sb sz nu mo 0 (by decide)) (Fr.all rfl) mv_X4_finds ml_X4_68 0 rfl rfl rfl (kRm_ok (by decide) (by decide)) rfl rfl (Nat.le_of_ble_eq_true rfl) dX4_person_17 ?_
      have hsp : sp_person (m, k, kf, tp, tl, sb, sz, nu, ct) (nI px) y = (kFi 0, (m, k, kf, tp, tl, sb, sz, nu, kTe ct 0)) := by simp [-Nat.add_zero, sp_person, sp_tell, nI_l0, nI_l1, nI_l2, nI_l3, nI_l4, tN_l0, tN_l1, tN_l2, tN_l3, tN_l4, c4, c11, nI_clamp (show px < 2 ^ 31 by omega)] <;> (repeat' (first | intro _ | refine ⟨?_, ?_⟩ | split)) <;> first | rfl | omega | (exfalso; omega)
      exact k_eqw (ws2 := modA g b (sp_person (m, k, kf, tp, tl, sb, sz, nu, ct) (nI px) y).2 (fj, mj, fr, to, va, iw, jk, th, ai, ot, mo)) (by rw [hsp]; rfl) (hR _ _ _ (fj, mj, fr, to, va, iw, jk, th, ai, ot, mo) dX4_person_20 (by rw [hsp]))
set_option maxHeartbeats 4000000 in
set_option maxRecDepth 100000 in
theorem mp_of (l : Launch) (g : KG) (b : Nat → Nat) (j : MJ) (s : KS) (hs : kOk s) (x : Int32) (y : Int32) : CT l yX4_of cX4_of 3 (some .int) (rmK 4) g [.ref (b 0), .int x, .int y] (modA g b s j) (S := MJ) oI (fun r _ => r = (sp_of s x y).1) (fun j => modA g b (sp_of s x y).2 j) := by
  obtain ⟨m, k, kf, tp, tl, sb, sz, nu, ct⟩ := s
  obtain ⟨fj, mj, fr, to, va, iw, jk, th, ai, ot, mo⟩ := j
  obtain ⟨hm, hk, htl, htp, hsh⟩ := hs
  have h0 : m 0 ≤ 8 := hm.1
  have h1 : m 1 ≤ 9999 := hm.2.1
  have h2 : m 2 ≤ 4 := hm.2.2.1
  have h3 : m 3 ≤ 99 := hm.2.2.2.2.1
  have hB : 9999 < 2 ^ 30 := by decide
  refine k_bodyI (by decide) (Nat.le_of_ble_eq_true rfl) (fun _ _ _ => rfl) (fun J hJ hR => ?_)
  show J (modW g b (mE kf fj mj tl fr to va iw) m th ai ct (fun i => nI ((if kf then k else jk) i)) ot tp sb sz nu mo) [(0, .ref (b 0)), (1, .int x), (2, .int y)] 0 []
  refine k_aload_n hJ dX4_of_0 0 rfl ?_
  refine k_iload_n hJ dX4_of_1 1 rfl ?_
  refine c_VI (As := [.int x]) (st := []) hJ (ct_X4_isPerson l g b (mE kf fj mj tl fr to va iw) m x (by omega)) (frS rfl) mv_X4_isPerson ml_X4_51 0 rfl rfl rfl (kRm_ok (by decide) (by decide)) rfl rfl (Nat.le_of_ble_eq_true rfl) dX4_of_2 ?_
  refine b_if_eq (tgt := 20) hJ dX4_of_5 (by decide) (fun c5 => ?_) (fun c5 => ?_)
  · refine k_aload_n hJ dX4_of_20 0 rfl ?_
    refine k_ldc hJ dX4_of_21 cw_X4_44 ?_
    refine k_eqs (st2 := [.int (kFi 0), .ref (b 0)]) (by rw [kFi_c0]) ?_
    refine c_VI (As := [.int (kFi 0)]) (st := []) hJ (ct_X4_finds l g b (mE kf fj mj tl fr to va iw) m th ai ct (fun i => nI ((if kf then k else jk) i)) ot tp sb sz nu mo 0 (by decide)) (Fr.all rfl) mv_X4_finds ml_X4_68 0 rfl rfl rfl (kRm_ok (by decide) (by decide)) rfl rfl (Nat.le_of_ble_eq_true rfl) dX4_of_23 ?_
    have hsp : sp_of (m, k, kf, tp, tl, sb, sz, nu, ct) x y = (kFi 0, (m, k, kf, tp, tl, sb, sz, nu, kTe ct 0)) := by simp [-Nat.add_zero, sp_of, sp_tell, nI_l0, nI_l1, nI_l2, nI_l3, nI_l4, tN_l0, tN_l1, tN_l2, tN_l3, tN_l4, c5] <;> (repeat' (first | intro _ | refine ⟨?_, ?_⟩ | split)) <;> first | rfl | omega | (exfalso; omega)
    exact k_eqw (ws2 := modA g b (sp_of (m, k, kf, tp, tl, sb, sz, nu, ct) x y).2 (fj, mj, fr, to, va, iw, jk, th, ai, ot, mo)) (by rw [hsp]; rfl) (hR _ _ _ (fj, mj, fr, to, va, iw, jk, th, ai, ot, mo) dX4_of_26 (by rw [hsp]))
  · obtain ⟨px, hpx, rfl⟩ := vIn_of (by omega) c5
    refine k_iload_n hJ dX4_of_8 2 rfl ?_
    refine k_i2l hJ dX4_of_9 rfl ?_
    refine k_lconst (v := 0) hJ dX4_of_10 (by decide) ?_
    refine k_ldc2 hJ dX4_of_11 cw_X4_55 ?_
    refine c_SI (As := [.long y.toInt64, .long 0, .long 5]) (st := []) hJ (ct_X4_in l g y.toInt64 0 5) Fr.none ms_X4_in ml_X4_47 (kRm_ok (by decide) (by decide)) rfl rfl (Nat.le_of_ble_eq_true rfl) dX4_of_14 ?_
    refine k_eqs (st2 := [.int (kb (vIn y 6))]) (by rw [vInL_in (n := 6) (by decide) (by decide) (by decide)]) ?_
    refine b_if_ne (tgt := 27) hJ dX4_of_17 (by decide) (fun c17 => ?_) (fun c17 => ?_)
    · obtain ⟨py, hpy, rfl⟩ := vIn_of (by omega) c17
      refine k_iload_n hJ dX4_of_27 2 rfl ?_
      refine k_iconst (v := nI 4) hJ dX4_of_28 (by decide) ?_
      refine n_icmp_ge (tgt := 41) hJ dX4_of_29 (by decide) (by omega) (by omega) (fun c29 => ?_) (fun c29 => ?_)
      · refine k_iload_n hJ dX4_of_41 2 rfl ?_
        refine k_iconst (v := nI 4) hJ dX4_of_42 (by decide) ?_
        refine n_icmp_ne (tgt := 54) hJ dX4_of_43 (by decide) (by omega) (by omega) (fun c43 => ?_) (fun c43 => ?_)
        · refine k_aload_n hJ dX4_of_54 0 rfl ?_
          refine k_iload_n hJ dX4_of_55 1 rfl ?_
          refine c_VI (As := [.int (nI px)]) (st := []) hJ (ct_X4_givesOffAll l g b (mE kf fj mj tl fr to va iw) m px hB hm (by omega)) (frS rfl) mv_X4_givesOffAll ml_X4_91 0 rfl rfl rfl (kRm_ok (by decide) (by decide)) rfl rfl (Nat.le_of_ble_eq_true rfl) dX4_of_56 ?_
          have hsp : sp_of (m, k, kf, tp, tl, sb, sz, nu, ct) (nI px) (nI py) = (nI (vGivesAll m px), (m, k, kf, tp, tl, sb, sz, nu, ct)) := by simp [-Nat.add_zero, sp_of, sp_tell, nI_l0, nI_l1, nI_l2, nI_l3, nI_l4, tN_l0, tN_l1, tN_l2, tN_l3, tN_l4, c5, c17, nI_clamp (show px < 2 ^ 31 by omega), nI_clamp (show py < 2 ^ 31 by omega)] <;> (repeat' (first | intro _ | refine ⟨?_, ?_⟩ | split)) <;> first | rfl | omega | (exfalso; omega)
          exact k_eqw (ws2 := modA g b (sp_of (m, k, kf, tp, tl, sb, sz, nu, ct) (nI px) (nI py)).2 (fj, mj, fr, to, va, iw, jk, th, ai, ot, mo)) (by rw [hsp]; rfl) (hR _ _ _ (fj, mj, fr, to, va, iw, jk, th, ai, ot, mo) dX4_of_59 (by rw [hsp]))
        · refine k_aload_n hJ dX4_of_46 0 rfl ?_
          refine k_iload_n hJ dX4_of_47 1 rfl ?_
          refine c_VI (As := [.int (nI px)]) (st := []) hJ (ct_X4_scentsOf l g b (mE kf fj mj tl fr to va iw) m px hB hm (by omega)) (frS rfl) mv_X4_scentsOf ml_X4_88 0 rfl rfl rfl (kRm_ok (by decide) (by decide)) rfl rfl (Nat.le_of_ble_eq_true rfl) dX4_of_48 ?_
          refine k_goto (tgt := 59) hJ dX4_of_51 (by decide) ?_
          have hsp : sp_of (m, k, kf, tp, tl, sb, sz, nu, ct) (nI px) (nI py) = (nI (vScents m px), (m, k, kf, tp, tl, sb, sz, nu, ct)) := by simp [-Nat.add_zero, sp_of, sp_tell, nI_l0, nI_l1, nI_l2, nI_l3, nI_l4, tN_l0, tN_l1, tN_l2, tN_l3, tN_l4, c5, c17, nI_clamp (show px < 2 ^ 31 by omega), nI_clamp (show py < 2 ^ 31 by omega)] <;> (repeat' (first | intro _ | refine ⟨?_, ?_⟩ | split)) <;> first | rfl | omega | (exfalso; omega)
          exact k_eqw (ws2 := modA g b (sp_of (m, k, kf, tp, tl, sb, sz, nu, ct) (nI px) (nI py)).2 (fj, mj, fr, to, va, iw, jk, th, ai, ot, mo)) (by rw [hsp]; rfl) (hR _ _ _ (fj, mj, fr, to, va, iw, jk, th, ai, ot, mo) dX4_of_59 (by rw [hsp]))
      · refine k_aload_n hJ dX4_of_32 0 rfl ?_
        refine k_iload_n hJ dX4_of_33 1 rfl ?_
        refine k_iload_n hJ dX4_of_34 2 rfl ?_
        refine c_VI (As := [.int (nI px), .int (nI py)]) (st := []) hJ (ct_X4_its l g b (mE kf fj mj tl fr to va iw) m px py (by omega) (by omega)) (frS rfl) mv_X4_its ml_X4_82 0 rfl rfl rfl (kRm_ok (by decide) (by decide)) rfl rfl (Nat.le_of_ble_eq_true rfl) dX4_of_35 ?_
        refine k_goto (tgt := 59) hJ dX4_of_38 (by decide) ?_
        have hsp : sp_of (m, k, kf, tp, tl, sb, sz, nu, ct) (nI px) (nI py) = (nI (m (4 + 10 * px + py)), (m, k, kf, tp, tl, sb, sz, nu, ct)) := by simp [-Nat.add_zero, sp_of, sp_tell, nI_l0, nI_l1, nI_l2, nI_l3, nI_l4, tN_l0, tN_l1, tN_l2, tN_l3, tN_l4, c5, c17, nI_clamp (show px < 2 ^ 31 by omega), nI_clamp (show py < 2 ^ 31 by omega)] <;> (repeat' (first | intro _ | refine ⟨?_, ?_⟩ | split)) <;> first | rfl | omega | (exfalso; omega)
        exact k_eqw (ws2 := modA g b (sp_of (m, k, kf, tp, tl, sb, sz, nu, ct) (nI px) (nI py)).2 (fj, mj, fr, to, va, iw, jk, th, ai, ot, mo)) (by rw [hsp]; rfl) (hR _ _ _ (fj, mj, fr, to, va, iw, jk, th, ai, ot, mo) dX4_of_59 (by rw [hsp]))
    · refine k_aload_n hJ dX4_of_20 0 rfl ?_
      refine k_ldc hJ dX4_of_21 cw_X4_44 ?_
      refine k_eqs (st2 := [.int (kFi 0), .ref (b 0)]) (by rw [kFi_c0]) ?_
      refine c_VI (As := [.int (kFi 0)]) (st := []) hJ (ct_X4_finds l g b (mE kf fj mj tl fr to va iw) m th ai ct (fun i => nI ((if kf then k else jk) i)) ot tp sb sz nu mo 0 (by decide)) (Fr.all rfl) mv_X4_finds ml_X4_68 0 rfl rfl rfl (kRm_ok (by decide) (by decide)) rfl rfl (Nat.le_of_ble_eq_true rfl) dX4_of_23 ?_
      have hsp : sp_of (m, k, kf, tp, tl, sb, sz, nu, ct) (nI px) y = (kFi 0, (m, k, kf, tp, tl, sb, sz, nu, kTe ct 0)) := by simp [-Nat.add_zero, sp_of, sp_tell, nI_l0, nI_l1, nI_l2, nI_l3, nI_l4, tN_l0, tN_l1, tN_l2, tN_l3, tN_l4, c5, c17, nI_clamp (show px < 2 ^ 31 by omega)] <;> (repeat' (first | intro _ | refine ⟨?_, ?_⟩ | split)) <;> first | rfl | omega | (exfalso; omega)
      exact k_eqw (ws2 := modA g b (sp_of (m, k, kf, tp, tl, sb, sz, nu, ct) (nI px) y).2 (fj, mj, fr, to, va, iw, jk, th, ai, ot, mo)) (by rw [hsp]; rfl) (hR _ _ _ (fj, mj, fr, to, va, iw, jk, th, ai, ot, mo) dX4_of_26 (by rw [hsp]))
set_option maxHeartbeats 4000000 in
set_option maxRecDepth 100000 in
theorem mp_set (l : Launch) (g : KG) (b : Nat → Nat) (j : MJ) (s : KS) (hs : kOk s) (x : Int32) (y : Int32) (z : Int32) : CT l yX4_set cX4_set 5 (some .int) (rmK 2) g [.ref (b 0), .int x, .int y, .int z] (modA g b s j) (S := MJ) oI (fun r _ => r = (sp_set s x y z).1) (fun j => modA g b (sp_set s x y z).2 j) := by
  obtain ⟨m, k, kf, tp, tl, sb, sz, nu, ct⟩ := s
  obtain ⟨fj, mj, fr, to, va, iw, jk, th, ai, ot, mo⟩ := j
  obtain ⟨hm, hk, htl, htp, hsh⟩ := hs
  have h0 : m 0 ≤ 8 := hm.1
  have h1 : m 1 ≤ 9999 := hm.2.1
  have h2 : m 2 ≤ 4 := hm.2.2.1
  have h3 : m 3 ≤ 99 := hm.2.2.2.2.1
  have hB : 9999 < 2 ^ 30 := by decide
  refine k_bodyI (by decide) (Nat.le_of_ble_eq_true rfl) (fun _ _ _ => rfl) (fun J hJ hR => ?_)
  show J (modW g b (mE kf fj mj tl fr to va iw) m th ai ct (fun i => nI ((if kf then k else jk) i)) ot tp sb sz nu mo) [(0, .ref (b 0)), (1, .int x), (2, .int y), (3, .int z)] 0 []
  refine k_iload_n hJ dX4_set_0 2 rfl ?_
  refine k_iconst (v := nI 1) hJ dX4_set_1 (by decide) ?_
  refine k_icmp_ne (tgt := 12) hJ dX4_set_2 (by decide) (fun (c2 : ¬ y = (1 : Int32)) => ?_) (fun (c2 : y = nI 1) => ?_)
  · refine k_iload_n hJ dX4_set_12 2 rfl ?_
    refine k_iconst (v := nI 2) hJ dX4_set_13 (by decide) ?_
    refine k_icmp_ne (tgt := 29) hJ dX4_set_14 (by decide) (fun (c14 : ¬ y = (2 : Int32)) => ?_) (fun (c14 : y = nI 2) => ?_)
    · refine k_iload_n hJ dX4_set_29 2 rfl ?_
      refine k_iconst (v := nI 3) hJ dX4_set_30 (by decide) ?_
      refine k_icmp_ne (tgt := 48) hJ dX4_set_31 (by decide) (fun (c31 : ¬ y = (3 : Int32)) => ?_) (fun (c31 : y = nI 3) => ?_)
      · refine k_iconst (v := nI 0) hJ dX4_set_48 (by decide) ?_
        refine k_istore (lv1 := [(0, .ref (b 0)), (1, .int x), (2, .int y), (3, .int z), (4, .int (nI 0))]) hJ dX4_set_49 (by decide) [1, 2, 3, 4, 0] rfl ?_
        refine k_aload_n hJ dX4_set_51 0 rfl ?_
        refine k_iload_n hJ dX4_set_52 1 rfl ?_
        refine c_VI (As := [.int x]) (st := []) hJ (ct_X4_isPerson l g b (mE kf fj mj tl fr to va iw) m x (by omega)) (frS rfl) mv_X4_isPerson ml_X4_51 0 rfl rfl rfl (kRm_ok (by decide) (by decide)) rfl rfl (Nat.le_of_ble_eq_true rfl) dX4_set_53 ?_
        refine b_if_eq (tgt := 77) hJ dX4_set_56 (by decide) (fun c56 => ?_) (fun c56 => ?_)
        · refine k_aload_n hJ dX4_set_77 0 rfl ?_
          refine k_ldc hJ dX4_set_78 cw_X4_44 ?_
          refine k_eqs (st2 := [.int (kFi 0), .ref (b 0)]) (by rw [kFi_c0]) ?_
          refine c_VI (As := [.int (kFi 0)]) (st := []) hJ (ct_X4_finds l g b (mE kf fj mj tl fr to va iw) m th ai ct (fun i => nI ((if kf then k else jk) i)) ot tp sb sz nu mo 0 (by decide)) (Fr.all rfl) mv_X4_finds ml_X4_68 0 rfl rfl rfl (kRm_ok (by decide) (by decide)) rfl rfl (Nat.le_of_ble_eq_true rfl) dX4_set_80 ?_
          have hsp : sp_set (m, k, kf, tp, tl, sb, sz, nu, ct) x y z = (kFi 0, (m, k, kf, tp, tl, sb, sz, nu, kTe ct 0)) := by simp [-Nat.add_zero, sp_set, sp_tell, nI_l0, nI_l1, nI_l2, nI_l3, nI_l4, tN_l0, tN_l1, tN_l2, tN_l3, tN_l4, c2, c14, c31, c56] <;> (repeat' (first | intro _ | refine ⟨?_, ?_⟩ | split)) <;> first | rfl | omega | (exfalso; omega)
          exact k_eqw (ws2 := modA g b (sp_set (m, k, kf, tp, tl, sb, sz, nu, ct) x y z).2 (fj, mj, fr, to, va, iw, jk, th, ai, ot, mo)) (by rw [hsp]; rfl) (hR _ _ _ (fj, mj, fr, to, va, iw, jk, th, ai, ot, mo) dX4_set_83 (by rw [hsp]))
        · obtain ⟨px, hpx, rfl⟩ := vIn_of (by omega) c56
          refine k_iload hJ dX4_set_59 4 rfl ?_
          refine n_if_eq (tgt := 77) hJ dX4_set_61 (by decide) (by omega) (fun c61 => ?_) (fun c61 => ?_)
          · refine k_aload_n hJ dX4_set_77 0 rfl ?_
            refine k_ldc hJ dX4_set_78 cw_X4_44 ?_
            refine k_eqs (st2 := [.int (kFi 0), .ref (b 0)]) (by rw [kFi_c0]) ?_
            refine c_VI (As := [.int (kFi 0)]) (st := []) hJ (ct_X4_finds l g b (mE kf fj mj tl fr to va iw) m th ai ct (fun i => nI ((if kf then k else jk) i)) ot tp sb sz nu mo 0 (by decide)) (Fr.all rfl) mv_X4_finds ml_X4_68 0 rfl rfl rfl (kRm_ok (by decide) (by decide)) rfl rfl (Nat.le_of_ble_eq_true rfl) dX4_set_80 ?_
            have hsp : sp_set (m, k, kf, tp, tl, sb, sz, nu, ct) (nI px) y z = (kFi 0, (m, k, kf, tp, tl, sb, sz, nu, kTe ct 0)) := by simp [-Nat.add_zero, sp_set, sp_tell, nI_l0, nI_l1, nI_l2, nI_l3, nI_l4, tN_l0, tN_l1, tN_l2, tN_l3, tN_l4, c2, c14, c31, c56, nI_clamp (show px < 2 ^ 31 by omega)] <;> (repeat' (first | intro _ | refine ⟨?_, ?_⟩ | split)) <;> first | rfl | omega | (exfalso; omega)
            exact k_eqw (ws2 := modA g b (sp_set (m, k, kf, tp, tl, sb, sz, nu, ct) (nI px) y z).2 (fj, mj, fr, to, va, iw, jk, th, ai, ot, mo)) (by rw [hsp]; rfl) (hR _ _ _ (fj, mj, fr, to, va, iw, jk, th, ai, ot, mo) dX4_set_83 (by rw [hsp]))
          · exact absurd c61 (by decide)
      · subst c31
        refine k_iload_n hJ dX4_set_34 3 rfl ?_
        refine k_i2l hJ dX4_set_35 rfl ?_
        refine k_lconst (v := 0) hJ dX4_set_36 (by decide) ?_
        refine k_lconst (v := 1) hJ dX4_set_37 (by decide) ?_
        refine c_SI (As := [.long z.toInt64, .long 0, .long 1]) (st := []) hJ (ct_X4_in l g z.toInt64 0 1) Fr.none ms_X4_in ml_X4_47 (kRm_ok (by decide) (by decide)) rfl rfl (Nat.le_of_ble_eq_true rfl) dX4_set_38 ?_
        refine k_eqs (st2 := [.int (kb (vIn z 2))]) (by rw [vInL_in (n := 2) (by decide) (by decide) (by decide)]) ?_
        refine b_if_eq (tgt := 48) hJ dX4_set_41 (by decide) (fun c41 => ?_) (fun c41 => ?_)
        · refine k_iconst (v := nI 0) hJ dX4_set_48 (by decide) ?_
          refine k_istore (lv1 := [(0, .ref (b 0)), (1, .int x), (2, .int (nI 3)), (3, .int z), (4, .int (nI 0))]) hJ dX4_set_49 (by decide) [1, 2, 3, 4, 0] rfl ?_
          refine k_aload_n hJ dX4_set_51 0 rfl ?_
          refine k_iload_n hJ dX4_set_52 1 rfl ?_
          refine c_VI (As := [.int x]) (st := []) hJ (ct_X4_isPerson l g b (mE kf fj mj tl fr to va iw) m x (by omega)) (frS rfl) mv_X4_isPerson ml_X4_51 0 rfl rfl rfl (kRm_ok (by decide) (by decide)) rfl rfl (Nat.le_of_ble_eq_true rfl) dX4_set_53 ?_
          refine b_if_eq (tgt := 77) hJ dX4_set_56 (by decide) (fun c56 => ?_) (fun c56 => ?_)
          · refine k_aload_n hJ dX4_set_77 0 rfl ?_
            refine k_ldc hJ dX4_set_78 cw_X4_44 ?_
            refine k_eqs (st2 := [.int (kFi 0), .ref (b 0)]) (by rw [kFi_c0]) ?_
            refine c_VI (As := [.int (kFi 0)]) (st := []) hJ (ct_X4_finds l g b (mE kf fj mj tl fr to va iw) m th ai ct (fun i => nI ((if kf then k else jk) i)) ot tp sb sz nu mo 0 (by decide)) (Fr.all rfl) mv_X4_finds ml_X4_68 0 rfl rfl rfl (kRm_ok (by decide) (by decide)) rfl rfl (Nat.le_of_ble_eq_true rfl) dX4_set_80 ?_
            have hsp : sp_set (m, k, kf, tp, tl, sb, sz, nu, ct) x (nI 3) z = (kFi 0, (m, k, kf, tp, tl, sb, sz, nu, kTe ct 0)) := by simp [-Nat.add_zero, sp_set, sp_tell, nI_l0, nI_l1, nI_l2, nI_l3, nI_l4, tN_l0, tN_l1, tN_l2, tN_l3, tN_l4, c2, c14, c41, c56] <;> (repeat' (first | intro _ | refine ⟨?_, ?_⟩ | split)) <;> first | rfl | omega | (exfalso; omega)
            exact k_eqw (ws2 := modA g b (sp_set (m, k, kf, tp, tl, sb, sz, nu, ct) x (nI 3) z).2 (fj, mj, fr, to, va, iw, jk, th, ai, ot, mo)) (by rw [hsp]; rfl) (hR _ _ _ (fj, mj, fr, to, va, iw, jk, th, ai, ot, mo) dX4_set_83 (by rw [hsp]))
          · obtain ⟨px, hpx, rfl⟩ := vIn_of (by omega) c56
            refine k_iload hJ dX4_set_59 4 rfl ?_
            refine n_if_eq (tgt := 77) hJ dX4_set_61 (by decide) (by omega) (fun c61 => ?_) (fun c61 => ?_)
            · refine k_aload_n hJ dX4_set_77 0 rfl ?_
              refine k_ldc hJ dX4_set_78 cw_X4_44 ?_
              refine k_eqs (st2 := [.int (kFi 0), .ref (b 0)]) (by rw [kFi_c0]) ?_
              refine c_VI (As := [.int (kFi 0)]) (st := []) hJ (ct_X4_finds l g b (mE kf fj mj tl fr to va iw) m th ai ct (fun i => nI ((if kf then k else jk) i)) ot tp sb sz nu mo 0 (by decide)) (Fr.all rfl) mv_X4_finds ml_X4_68 0 rfl rfl rfl (kRm_ok (by decide) (by decide)) rfl rfl (Nat.le_of_ble_eq_true rfl) dX4_set_80 ?_
              have hsp : sp_set (m, k, kf, tp, tl, sb, sz, nu, ct) (nI px) (nI 3) z = (kFi 0, (m, k, kf, tp, tl, sb, sz, nu, kTe ct 0)) := by simp [-Nat.add_zero, sp_set, sp_tell, nI_l0, nI_l1, nI_l2, nI_l3, nI_l4, tN_l0, tN_l1, tN_l2, tN_l3, tN_l4, c2, c14, c41, c56, nI_clamp (show px < 2 ^ 31 by omega)] <;> (repeat' (first | intro _ | refine ⟨?_, ?_⟩ | split)) <;> first | rfl | omega | (exfalso; omega)
              exact k_eqw (ws2 := modA g b (sp_set (m, k, kf, tp, tl, sb, sz, nu, ct) (nI px) (nI 3) z).2 (fj, mj, fr, to, va, iw, jk, th, ai, ot, mo)) (by rw [hsp]; rfl) (hR _ _ _ (fj, mj, fr, to, va, iw, jk, th, ai, ot, mo) dX4_set_83 (by rw [hsp]))
            · exact absurd c61 (by decide)
        · obtain ⟨pz, hpz, rfl⟩ := vIn_of (by omega) c41
          refine k_iconst (v := nI 1) hJ dX4_set_44 (by decide) ?_
          refine k_goto (tgt := 49) hJ dX4_set_45 (by decide) ?_
          refine k_istore (lv1 := [(0, .ref (b 0)), (1, .int x), (2, .int (nI 3)), (3, .int (nI pz)), (4, .int (nI 1))]) hJ dX4_set_49 (by decide) [1, 2, 3, 4, 0] rfl ?_
          refine k_aload_n hJ dX4_set_51 0 rfl ?_
          refine k_iload_n hJ dX4_set_52 1 rfl ?_
          refine c_VI (As := [.int x]) (st := []) hJ (ct_X4_isPerson l g b (mE kf fj mj tl fr to va iw) m x (by omega)) (frS rfl) mv_X4_isPerson ml_X4_51 0 rfl rfl rfl (kRm_ok (by decide) (by decide)) rfl rfl (Nat.le_of_ble_eq_true rfl) dX4_set_53 ?_
          refine b_if_eq (tgt := 77) hJ dX4_set_56 (by decide) (fun c56 => ?_) (fun c56 => ?_)
          · refine k_aload_n hJ dX4_set_77 0 rfl ?_
            refine k_ldc hJ dX4_set_78 cw_X4_44 ?_
            refine k_eqs (st2 := [.int (kFi 0), .ref (b 0)]) (by rw [kFi_c0]) ?_
            refine c_VI (As := [.int (kFi 0)]) (st := []) hJ (ct_X4_finds l g b (mE kf fj mj tl fr to va iw) m th ai ct (fun i => nI ((if kf then k else jk) i)) ot tp sb sz nu mo 0 (by decide)) (Fr.all rfl) mv_X4_finds ml_X4_68 0 rfl rfl rfl (kRm_ok (by decide) (by decide)) rfl rfl (Nat.le_of_ble_eq_true rfl) dX4_set_80 ?_
            have hsp : sp_set (m, k, kf, tp, tl, sb, sz, nu, ct) x (nI 3) (nI pz) = (kFi 0, (m, k, kf, tp, tl, sb, sz, nu, kTe ct 0)) := by simp [-Nat.add_zero, sp_set, sp_tell, nI_l0, nI_l1, nI_l2, nI_l3, nI_l4, tN_l0, tN_l1, tN_l2, tN_l3, tN_l4, c2, c14, c41, c56, nI_clamp (show pz < 2 ^ 31 by omega)] <;> (repeat' (first | intro _ | refine ⟨?_, ?_⟩ | split)) <;> first | rfl | omega | (exfalso; omega)
            exact k_eqw (ws2 := modA g b (sp_set (m, k, kf, tp, tl, sb, sz, nu, ct) x (nI 3) (nI pz)).2 (fj, mj, fr, to, va, iw, jk, th, ai, ot, mo)) (by rw [hsp]; rfl) (hR _ _ _ (fj, mj, fr, to, va, iw, jk, th, ai, ot, mo) dX4_set_83 (by rw [hsp]))
          · obtain ⟨px, hpx, rfl⟩ := vIn_of (by omega) c56
            refine k_iload hJ dX4_set_59 4 rfl ?_
            refine n_if_eq (tgt := 77) hJ dX4_set_61 (by decide) (by omega) (fun c61 => ?_) (fun c61 => ?_)
            · exact absurd c61 (by decide)
            · refine k_aload_n hJ dX4_set_64 0 rfl ?_
              refine k_iload_n hJ dX4_set_65 1 rfl ?_
              refine k_iload_n hJ dX4_set_66 2 rfl ?_
              refine c_SI (As := [.int (nI px), .int (nI 3)]) (st := [.ref (b 0)]) hJ (ct_X4_spot l g px 3 ) Fr.none ms_X4_spot ml_X4_57 (kRm_ok (by decide) (by decide)) rfl rfl (Nat.le_of_ble_eq_true rfl) dX4_set_67 ?_
              refine k_iload_n hJ dX4_set_70 3 rfl ?_
              refine c_VI (As := [.int (nI (4 + 10 * px + 3)), .int (nI pz)]) (st := []) hJ (ct_X4_becomes l g b (mE kf fj mj tl fr to va iw) m (4 + 10 * px + 3) pz (by omega)) (frS rfl) mv_X4_becomes ml_X4_65 0 rfl rfl rfl (kRm_ok (by decide) (by decide)) rfl rfl (Nat.le_of_ble_eq_true rfl) dX4_set_71 ?_
              refine k_goto (tgt := 83) hJ dX4_set_74 (by decide) ?_
              have hsp : sp_set (m, k, kf, tp, tl, sb, sz, nu, ct) (nI px) (nI 3) (nI pz) = (nI (m (4 + 10 * px + 3)), (vUp m (4 + 10 * px + 3) pz, k, kf, tp, tl, sb, sz, nu, ct)) := by simp [-Nat.add_zero, sp_set, sp_tell, nI_l0, nI_l1, nI_l2, nI_l3, nI_l4, tN_l0, tN_l1, tN_l2, tN_l3, tN_l4, c2, c14, c41, c56, nI_clamp (show pz < 2 ^ 31 by omega), nI_clamp (show px < 2 ^ 31 by omega)] <;> (repeat' (first | intro _ | refine ⟨?_, ?_⟩ | split)) <;> first | rfl | omega | (exfalso; omega)
              exact k_eqw (ws2 := modA g b (sp_set (m, k, kf, tp, tl, sb, sz, nu, ct) (nI px) (nI 3) (nI pz)).2 (fj, mj, fr, to, va, iw, jk, th, ai, ot, mo)) (by rw [hsp]; rfl) (hR _ _ _ (fj, mj, fr, to, va, iw, jk, th, ai, ot, mo) dX4_set_83 (by rw [hsp]))
    · subst c14
      refine k_iload_n hJ dX4_set_17 3 rfl ?_
      refine k_i2l hJ dX4_set_18 rfl ?_
      refine k_lconst (v := 0) hJ dX4_set_19 (by decide) ?_
      refine k_ldc2 hJ dX4_set_20 cw_X4_94 ?_
      refine c_SI (As := [.long z.toInt64, .long 0, .long 9]) (st := []) hJ (ct_X4_in l g z.toInt64 0 9) Fr.none ms_X4_in ml_X4_47 (kRm_ok (by decide) (by decide)) rfl rfl (Nat.le_of_ble_eq_true rfl) dX4_set_23 ?_
      refine k_eqs (st2 := [.int (kb (vIn z 10))]) (by rw [vInL_in (n := 10) (by decide) (by decide) (by decide)]) ?_
      refine k_goto (tgt := 49) hJ dX4_set_26 (by decide) ?_
      refine k_istore (lv1 := [(0, .ref (b 0)), (1, .int x), (2, .int (nI 2)), (3, .int z), (4, .int (kb (vIn z 10)))]) hJ dX4_set_49 (by decide) [1, 2, 3, 4, 0] rfl ?_
      refine k_aload_n hJ dX4_set_51 0 rfl ?_
      refine k_iload_n hJ dX4_set_52 1 rfl ?_
      refine c_VI (As := [.int x]) (st := []) hJ (ct_X4_isPerson l g b (mE kf fj mj tl fr to va iw) m x (by omega)) (frS rfl) mv_X4_isPerson ml_X4_51 0 rfl rfl rfl (kRm_ok (by decide) (by decide)) rfl rfl (Nat.le_of_ble_eq_true rfl) dX4_set_53 ?_
      refine b_if_eq (tgt := 77) hJ dX4_set_56 (by decide) (fun c56 => ?_) (fun c56 => ?_)
      · refine k_aload_n hJ dX4_set_77 0 rfl ?_
        refine k_ldc hJ dX4_set_78 cw_X4_44 ?_
        refine k_eqs (st2 := [.int (kFi 0), .ref (b 0)]) (by rw [kFi_c0]) ?_
        refine c_VI (As := [.int (kFi 0)]) (st := []) hJ (ct_X4_finds l g b (mE kf fj mj tl fr to va iw) m th ai ct (fun i => nI ((if kf then k else jk) i)) ot tp sb sz nu mo 0 (by decide)) (Fr.all rfl) mv_X4_finds ml_X4_68 0 rfl rfl rfl (kRm_ok (by decide) (by decide)) rfl rfl (Nat.le_of_ble_eq_true rfl) dX4_set_80 ?_
        have hsp : sp_set (m, k, kf, tp, tl, sb, sz, nu, ct) x (nI 2) z = (kFi 0, (m, k, kf, tp, tl, sb, sz, nu, kTe ct 0)) := by simp [-Nat.add_zero, sp_set, sp_tell, nI_l0, nI_l1, nI_l2, nI_l3, nI_l4, tN_l0, tN_l1, tN_l2, tN_l3, tN_l4, c2, c56] <;> (repeat' (first | intro _ | refine ⟨?_, ?_⟩ | split)) <;> first | rfl | omega | (exfalso; omega)
        exact k_eqw (ws2 := modA g b (sp_set (m, k, kf, tp, tl, sb, sz, nu, ct) x (nI 2) z).2 (fj, mj, fr, to, va, iw, jk, th, ai, ot, mo)) (by rw [hsp]; rfl) (hR _ _ _ (fj, mj, fr, to, va, iw, jk, th, ai, ot, mo) dX4_set_83 (by rw [hsp]))
      · obtain ⟨px, hpx, rfl⟩ := vIn_of (by omega) c56
        refine k_iload hJ dX4_set_59 4 rfl ?_
        refine b_if_eq (tgt := 77) hJ dX4_set_61 (by decide) (fun c61 => ?_) (fun c61 => ?_)
        · refine k_aload_n hJ dX4_set_77 0 rfl ?_
          refine k_ldc hJ dX4_set_78 cw_X4_44 ?_
          refine k_eqs (st2 := [.int (kFi 0), .ref (b 0)]) (by rw [kFi_c0]) ?_
          refine c_VI (As := [.int (kFi 0)]) (st := []) hJ (ct_X4_finds l g b (mE kf fj mj tl fr to va iw) m th ai ct (fun i => nI ((if kf then k else jk) i)) ot tp sb sz nu mo 0 (by decide)) (Fr.all rfl) mv_X4_finds ml_X4_68 0 rfl rfl rfl (kRm_ok (by decide) (by decide)) rfl rfl (Nat.le_of_ble_eq_true rfl) dX4_set_80 ?_
          have hsp : sp_set (m, k, kf, tp, tl, sb, sz, nu, ct) (nI px) (nI 2) z = (kFi 0, (m, k, kf, tp, tl, sb, sz, nu, kTe ct 0)) := by simp [-Nat.add_zero, sp_set, sp_tell, nI_l0, nI_l1, nI_l2, nI_l3, nI_l4, tN_l0, tN_l1, tN_l2, tN_l3, tN_l4, c2, c56, c61, nI_clamp (show px < 2 ^ 31 by omega)] <;> (repeat' (first | intro _ | refine ⟨?_, ?_⟩ | split)) <;> first | rfl | omega | (exfalso; omega)
          exact k_eqw (ws2 := modA g b (sp_set (m, k, kf, tp, tl, sb, sz, nu, ct) (nI px) (nI 2) z).2 (fj, mj, fr, to, va, iw, jk, th, ai, ot, mo)) (by rw [hsp]; rfl) (hR _ _ _ (fj, mj, fr, to, va, iw, jk, th, ai, ot, mo) dX4_set_83 (by rw [hsp]))
        · obtain ⟨pz, hpz, rfl⟩ := vIn_of (by omega) c61
          refine k_aload_n hJ dX4_set_64 0 rfl ?_
          refine k_iload_n hJ dX4_set_65 1 rfl ?_
          refine k_iload_n hJ dX4_set_66 2 rfl ?_
          refine c_SI (As := [.int (nI px), .int (nI 2)]) (st := [.ref (b 0)]) hJ (ct_X4_spot l g px 2 ) Fr.none ms_X4_spot ml_X4_57 (kRm_ok (by decide) (by decide)) rfl rfl (Nat.le_of_ble_eq_true rfl) dX4_set_67 ?_
          refine k_iload_n hJ dX4_set_70 3 rfl ?_
          refine c_VI (As := [.int (nI (4 + 10 * px + 2)), .int (nI pz)]) (st := []) hJ (ct_X4_becomes l g b (mE kf fj mj tl fr to va iw) m (4 + 10 * px + 2) pz (by omega)) (frS rfl) mv_X4_becomes ml_X4_65 0 rfl rfl rfl (kRm_ok (by decide) (by decide)) rfl rfl (Nat.le_of_ble_eq_true rfl) dX4_set_71 ?_
          refine k_goto (tgt := 83) hJ dX4_set_74 (by decide) ?_
          have hsp : sp_set (m, k, kf, tp, tl, sb, sz, nu, ct) (nI px) (nI 2) (nI pz) = (nI (m (4 + 10 * px + 2)), (vUp m (4 + 10 * px + 2) pz, k, kf, tp, tl, sb, sz, nu, ct)) := by simp [-Nat.add_zero, sp_set, sp_tell, nI_l0, nI_l1, nI_l2, nI_l3, nI_l4, tN_l0, tN_l1, tN_l2, tN_l3, tN_l4, c2, c56, c61, nI_clamp (show px < 2 ^ 31 by omega), nI_clamp (show pz < 2 ^ 31 by omega)] <;> (repeat' (first | intro _ | refine ⟨?_, ?_⟩ | split)) <;> first | rfl | omega | (exfalso; omega)
          exact k_eqw (ws2 := modA g b (sp_set (m, k, kf, tp, tl, sb, sz, nu, ct) (nI px) (nI 2) (nI pz)).2 (fj, mj, fr, to, va, iw, jk, th, ai, ot, mo)) (by rw [hsp]; rfl) (hR _ _ _ (fj, mj, fr, to, va, iw, jk, th, ai, ot, mo) dX4_set_83 (by rw [hsp]))
  · subst c2
    refine k_iload_n hJ dX4_set_5 3 rfl ?_
    refine c_SI (As := [.int z]) (st := []) hJ (ct_X4_isPlace l g z ) Fr.none ms_X4_isPlace ml_X4_75 (kRm_ok (by decide) (by decide)) rfl rfl (Nat.le_of_ble_eq_true rfl) dX4_set_6 ?_
    refine k_goto (tgt := 49) hJ dX4_set_9 (by decide) ?_
    refine k_istore (lv1 := [(0, .ref (b 0)), (1, .int x), (2, .int (nI 1)), (3, .int z), (4, .int (kb (vIn z 48)))]) hJ dX4_set_49 (by decide) [1, 2, 3, 4, 0] rfl ?_
    refine k_aload_n hJ dX4_set_51 0 rfl ?_
    refine k_iload_n hJ dX4_set_52 1 rfl ?_
    refine c_VI (As := [.int x]) (st := []) hJ (ct_X4_isPerson l g b (mE kf fj mj tl fr to va iw) m x (by omega)) (frS rfl) mv_X4_isPerson ml_X4_51 0 rfl rfl rfl (kRm_ok (by decide) (by decide)) rfl rfl (Nat.le_of_ble_eq_true rfl) dX4_set_53 ?_
    refine b_if_eq (tgt := 77) hJ dX4_set_56 (by decide) (fun c56 => ?_) (fun c56 => ?_)
    · refine k_aload_n hJ dX4_set_77 0 rfl ?_
      refine k_ldc hJ dX4_set_78 cw_X4_44 ?_
      refine k_eqs (st2 := [.int (kFi 0), .ref (b 0)]) (by rw [kFi_c0]) ?_
      refine c_VI (As := [.int (kFi 0)]) (st := []) hJ (ct_X4_finds l g b (mE kf fj mj tl fr to va iw) m th ai ct (fun i => nI ((if kf then k else jk) i)) ot tp sb sz nu mo 0 (by decide)) (Fr.all rfl) mv_X4_finds ml_X4_68 0 rfl rfl rfl (kRm_ok (by decide) (by decide)) rfl rfl (Nat.le_of_ble_eq_true rfl) dX4_set_80 ?_
      have hsp : sp_set (m, k, kf, tp, tl, sb, sz, nu, ct) x (nI 1) z = (kFi 0, (m, k, kf, tp, tl, sb, sz, nu, kTe ct 0)) := by simp [-Nat.add_zero, sp_set, sp_tell, nI_l0, nI_l1, nI_l2, nI_l3, nI_l4, tN_l0, tN_l1, tN_l2, tN_l3, tN_l4, c56] <;> (repeat' (first | intro _ | refine ⟨?_, ?_⟩ | split)) <;> first | rfl | omega | (exfalso; omega)
      exact k_eqw (ws2 := modA g b (sp_set (m, k, kf, tp, tl, sb, sz, nu, ct) x (nI 1) z).2 (fj, mj, fr, to, va, iw, jk, th, ai, ot, mo)) (by rw [hsp]; rfl) (hR _ _ _ (fj, mj, fr, to, va, iw, jk, th, ai, ot, mo) dX4_set_83 (by rw [hsp]))
    · obtain ⟨px, hpx, rfl⟩ := vIn_of (by omega) c56
      refine k_iload hJ dX4_set_59 4 rfl ?_
      refine b_if_eq (tgt := 77) hJ dX4_set_61 (by decide) (fun c61 => ?_) (fun c61 => ?_)
      · refine k_aload_n hJ dX4_set_77 0 rfl ?_
        refine k_ldc hJ dX4_set_78 cw_X4_44 ?_
        refine k_eqs (st2 := [.int (kFi 0), .ref (b 0)]) (by rw [kFi_c0]) ?_
        refine c_VI (As := [.int (kFi 0)]) (st := []) hJ (ct_X4_finds l g b (mE kf fj mj tl fr to va iw) m th ai ct (fun i => nI ((if kf then k else jk) i)) ot tp sb sz nu mo 0 (by decide)) (Fr.all rfl) mv_X4_finds ml_X4_68 0 rfl rfl rfl (kRm_ok (by decide) (by decide)) rfl rfl (Nat.le_of_ble_eq_true rfl) dX4_set_80 ?_
        have hsp : sp_set (m, k, kf, tp, tl, sb, sz, nu, ct) (nI px) (nI 1) z = (kFi 0, (m, k, kf, tp, tl, sb, sz, nu, kTe ct 0)) := by simp [-Nat.add_zero, sp_set, sp_tell, nI_l0, nI_l1, nI_l2, nI_l3, nI_l4, tN_l0, tN_l1, tN_l2, tN_l3, tN_l4, c56, c61, nI_clamp (show px < 2 ^ 31 by omega)] <;> (repeat' (first | intro _ | refine ⟨?_, ?_⟩ | split)) <;> first | rfl | omega | (exfalso; omega)
        exact k_eqw (ws2 := modA g b (sp_set (m, k, kf, tp, tl, sb, sz, nu, ct) (nI px) (nI 1) z).2 (fj, mj, fr, to, va, iw, jk, th, ai, ot, mo)) (by rw [hsp]; rfl) (hR _ _ _ (fj, mj, fr, to, va, iw, jk, th, ai, ot, mo) dX4_set_83 (by rw [hsp]))
      · obtain ⟨pz, hpz, rfl⟩ := vIn_of (by omega) c61
        refine k_aload_n hJ dX4_set_64 0 rfl ?_
        refine k_iload_n hJ dX4_set_65 1 rfl ?_
        refine k_iload_n hJ dX4_set_66 2 rfl ?_
        refine c_SI (As := [.int (nI px), .int (nI 1)]) (st := [.ref (b 0)]) hJ (ct_X4_spot l g px 1 ) Fr.none ms_X4_spot ml_X4_57 (kRm_ok (by decide) (by decide)) rfl rfl (Nat.le_of_ble_eq_true rfl) dX4_set_67 ?_
        refine k_iload_n hJ dX4_set_70 3 rfl ?_
        refine c_VI (As := [.int (nI (4 + 10 * px + 1)), .int (nI pz)]) (st := []) hJ (ct_X4_becomes l g b (mE kf fj mj tl fr to va iw) m (4 + 10 * px + 1) pz (by omega)) (frS rfl) mv_X4_becomes ml_X4_65 0 rfl rfl rfl (kRm_ok (by decide) (by decide)) rfl rfl (Nat.le_of_ble_eq_true rfl) dX4_set_71 ?_
        refine k_goto (tgt := 83) hJ dX4_set_74 (by decide) ?_
        have hsp : sp_set (m, k, kf, tp, tl, sb, sz, nu, ct) (nI px) (nI 1) (nI pz) = (nI (m (4 + 10 * px + 1)), (vUp m (4 + 10 * px + 1) pz, k, kf, tp, tl, sb, sz, nu, ct)) := by simp [-Nat.add_zero, sp_set, sp_tell, nI_l0, nI_l1, nI_l2, nI_l3, nI_l4, tN_l0, tN_l1, tN_l2, tN_l3, tN_l4, c56, c61, nI_clamp (show px < 2 ^ 31 by omega), nI_clamp (show pz < 2 ^ 31 by omega)] <;> (repeat' (first | intro _ | refine ⟨?_, ?_⟩ | split)) <;> first | rfl | omega | (exfalso; omega)
        exact k_eqw (ws2 := modA g b (sp_set (m, k, kf, tp, tl, sb, sz, nu, ct) (nI px) (nI 1) (nI pz)).2 (fj, mj, fr, to, va, iw, jk, th, ai, ot, mo)) (by rw [hsp]; rfl) (hR _ _ _ (fj, mj, fr, to, va, iw, jk, th, ai, ot, mo) dX4_set_83 (by rw [hsp]))
set_option maxHeartbeats 4000000 in
set_option maxRecDepth 100000 in
theorem mp_did (l : Launch) (g : KG) (b : Nat → Nat) (j : MJ) (s : KS) (hs : kOk s) (x : Int32) (y : Int32) (z : Int32) : CT l yX4_did cX4_did 4 (some .int) (rmK 2) g [.ref (b 0), .int x, .int y, .int z] (modA g b s j) (S := MJ) oI (fun r _ => r = (sp_did s x y z).1) (fun j => modA g b (sp_did s x y z).2 j) := by
  obtain ⟨m, k, kf, tp, tl, sb, sz, nu, ct⟩ := s
  obtain ⟨fj, mj, fr, to, va, iw, jk, th, ai, ot, mo⟩ := j
  obtain ⟨hm, hk, htl, htp, hsh⟩ := hs
  have h0 : m 0 ≤ 8 := hm.1
  have h1 : m 1 ≤ 9999 := hm.2.1
  have h2 : m 2 ≤ 4 := hm.2.2.1
  have h3 : m 3 ≤ 99 := hm.2.2.2.2.1
  have hB : 9999 < 2 ^ 30 := by decide
  refine k_bodyI (by decide) (Nat.le_of_ble_eq_true rfl) (fun _ _ _ => rfl) (fun J hJ hR => ?_)
  show J (modW g b (mE kf fj mj tl fr to va iw) m th ai ct (fun i => nI ((if kf then k else jk) i)) ot tp sb sz nu mo) [(0, .ref (b 0)), (1, .int x), (2, .int y), (3, .int z)] 0 []
  refine k_aload_n hJ dX4_did_0 0 rfl ?_
  refine k_iload_n hJ dX4_did_1 1 rfl ?_
  refine c_VI (As := [.int x]) (st := []) hJ (ct_X4_isPerson l g b (mE kf fj mj tl fr to va iw) m x (by omega)) (frS rfl) mv_X4_isPerson ml_X4_51 0 rfl rfl rfl (kRm_ok (by decide) (by decide)) rfl rfl (Nat.le_of_ble_eq_true rfl) dX4_did_2 ?_
  refine b_if_eq (tgt := 42) hJ dX4_did_5 (by decide) (fun c5 => ?_) (fun c5 => ?_)
  · refine k_aload_n hJ dX4_did_42 0 rfl ?_
    refine k_ldc hJ dX4_did_43 cw_X4_44 ?_
    refine k_eqs (st2 := [.int (kFi 0), .ref (b 0)]) (by rw [kFi_c0]) ?_
    refine c_VI (As := [.int (kFi 0)]) (st := []) hJ (ct_X4_finds l g b (mE kf fj mj tl fr to va iw) m th ai ct (fun i => nI ((if kf then k else jk) i)) ot tp sb sz nu mo 0 (by decide)) (Fr.all rfl) mv_X4_finds ml_X4_68 0 rfl rfl rfl (kRm_ok (by decide) (by decide)) rfl rfl (Nat.le_of_ble_eq_true rfl) dX4_did_45 ?_
    have hsp : sp_did (m, k, kf, tp, tl, sb, sz, nu, ct) x y z = (kFi 0, (m, k, kf, tp, tl, sb, sz, nu, kTe ct 0)) := by simp [-Nat.add_zero, sp_did, sp_tell, nI_l0, nI_l1, nI_l2, nI_l3, nI_l4, tN_l0, tN_l1, tN_l2, tN_l3, tN_l4, c5] <;> (repeat' (first | intro _ | refine ⟨?_, ?_⟩ | split)) <;> first | rfl | omega | (exfalso; omega)
    exact k_eqw (ws2 := modA g b (sp_did (m, k, kf, tp, tl, sb, sz, nu, ct) x y z).2 (fj, mj, fr, to, va, iw, jk, th, ai, ot, mo)) (by rw [hsp]; rfl) (hR _ _ _ (fj, mj, fr, to, va, iw, jk, th, ai, ot, mo) dX4_did_48 (by rw [hsp]))
  · obtain ⟨px, hpx, rfl⟩ := vIn_of (by omega) c5
    refine k_iload_n hJ dX4_did_8 2 rfl ?_
    refine c_SI (As := [.int y]) (st := []) hJ (ct_X4_isDeed l g y ) Fr.none ms_X4_isDeed ml_X4_96 (kRm_ok (by decide) (by decide)) rfl rfl (Nat.le_of_ble_eq_true rfl) dX4_did_9 ?_
    refine b_if_eq (tgt := 42) hJ dX4_did_12 (by decide) (fun c12 => ?_) (fun c12 => ?_)
    · refine k_aload_n hJ dX4_did_42 0 rfl ?_
      refine k_ldc hJ dX4_did_43 cw_X4_44 ?_
      refine k_eqs (st2 := [.int (kFi 0), .ref (b 0)]) (by rw [kFi_c0]) ?_
      refine c_VI (As := [.int (kFi 0)]) (st := []) hJ (ct_X4_finds l g b (mE kf fj mj tl fr to va iw) m th ai ct (fun i => nI ((if kf then k else jk) i)) ot tp sb sz nu mo 0 (by decide)) (Fr.all rfl) mv_X4_finds ml_X4_68 0 rfl rfl rfl (kRm_ok (by decide) (by decide)) rfl rfl (Nat.le_of_ble_eq_true rfl) dX4_did_45 ?_
      have hsp : sp_did (m, k, kf, tp, tl, sb, sz, nu, ct) (nI px) y z = (kFi 0, (m, k, kf, tp, tl, sb, sz, nu, kTe ct 0)) := by simp [-Nat.add_zero, sp_did, sp_tell, nI_l0, nI_l1, nI_l2, nI_l3, nI_l4, tN_l0, tN_l1, tN_l2, tN_l3, tN_l4, c5, c12, nI_clamp (show px < 2 ^ 31 by omega)] <;> (repeat' (first | intro _ | refine ⟨?_, ?_⟩ | split)) <;> first | rfl | omega | (exfalso; omega)
      exact k_eqw (ws2 := modA g b (sp_did (m, k, kf, tp, tl, sb, sz, nu, ct) (nI px) y z).2 (fj, mj, fr, to, va, iw, jk, th, ai, ot, mo)) (by rw [hsp]; rfl) (hR _ _ _ (fj, mj, fr, to, va, iw, jk, th, ai, ot, mo) dX4_did_48 (by rw [hsp]))
    · obtain ⟨py, hpy, rfl⟩ := vIn_of (by omega) c12
      refine k_iload_n hJ dX4_did_15 3 rfl ?_
      refine k_i2l hJ dX4_did_16 rfl ?_
      refine k_lconst (v := 0) hJ dX4_did_17 (by decide) ?_
      refine k_ldc2 hJ dX4_did_18 cw_X4_63 ?_
      refine c_SI (As := [.long z.toInt64, .long 0, .long 99]) (st := []) hJ (ct_X4_in l g z.toInt64 0 99) Fr.none ms_X4_in ml_X4_47 (kRm_ok (by decide) (by decide)) rfl rfl (Nat.le_of_ble_eq_true rfl) dX4_did_21 ?_
      refine k_eqs (st2 := [.int (kb (vIn z 100))]) (by rw [vInL_in (n := 100) (by decide) (by decide) (by decide)]) ?_
      refine b_if_eq (tgt := 42) hJ dX4_did_24 (by decide) (fun c24 => ?_) (fun c24 => ?_)
      · refine k_aload_n hJ dX4_did_42 0 rfl ?_
        refine k_ldc hJ dX4_did_43 cw_X4_44 ?_
        refine k_eqs (st2 := [.int (kFi 0), .ref (b 0)]) (by rw [kFi_c0]) ?_
        refine c_VI (As := [.int (kFi 0)]) (st := []) hJ (ct_X4_finds l g b (mE kf fj mj tl fr to va iw) m th ai ct (fun i => nI ((if kf then k else jk) i)) ot tp sb sz nu mo 0 (by decide)) (Fr.all rfl) mv_X4_finds ml_X4_68 0 rfl rfl rfl (kRm_ok (by decide) (by decide)) rfl rfl (Nat.le_of_ble_eq_true rfl) dX4_did_45 ?_
        have hsp : sp_did (m, k, kf, tp, tl, sb, sz, nu, ct) (nI px) (nI py) z = (kFi 0, (m, k, kf, tp, tl, sb, sz, nu, kTe ct 0)) := by simp [-Nat.add_zero, sp_did, sp_tell, nI_l0, nI_l1, nI_l2, nI_l3, nI_l4, tN_l0, tN_l1, tN_l2, tN_l3, tN_l4, c5, c12, c24, nI_clamp (show px < 2 ^ 31 by omega), nI_clamp (show py < 2 ^ 31 by omega)] <;> (repeat' (first | intro _ | refine ⟨?_, ?_⟩ | split)) <;> first | rfl | omega | (exfalso; omega)
        exact k_eqw (ws2 := modA g b (sp_did (m, k, kf, tp, tl, sb, sz, nu, ct) (nI px) (nI py) z).2 (fj, mj, fr, to, va, iw, jk, th, ai, ot, mo)) (by rw [hsp]; rfl) (hR _ _ _ (fj, mj, fr, to, va, iw, jk, th, ai, ot, mo) dX4_did_48 (by rw [hsp]))
      · obtain ⟨pz, hpz, rfl⟩ := vIn_of (by omega) c24
        refine k_aload_n hJ dX4_did_27 0 rfl ?_
        refine k_iload_n hJ dX4_did_28 1 rfl ?_
        refine k_iconst (v := nI 4) hJ dX4_did_29 (by decide) ?_
        refine k_iload_n hJ dX4_did_30 2 rfl ?_
        refine n_iadd hJ dX4_did_31 ?_
        refine c_SI (As := [.int (nI px), .int (nI (4 + py))]) (st := [.ref (b 0)]) hJ (ct_X4_spot l g px (4 + py) ) Fr.none ms_X4_spot ml_X4_57 (kRm_ok (by decide) (by decide)) rfl rfl (Nat.le_of_ble_eq_true rfl) dX4_did_32 ?_
        refine k_iload_n hJ dX4_did_35 3 rfl ?_
        refine c_VI (As := [.int (nI (4 + 10 * px + (4 + py))), .int (nI pz)]) (st := []) hJ (ct_X4_becomes l g b (mE kf fj mj tl fr to va iw) m (4 + 10 * px + (4 + py)) pz (by omega)) (frS rfl) mv_X4_becomes ml_X4_65 0 rfl rfl rfl (kRm_ok (by decide) (by decide)) rfl rfl (Nat.le_of_ble_eq_true rfl) dX4_did_36 ?_
        refine k_goto (tgt := 48) hJ dX4_did_39 (by decide) ?_
        have hsp : sp_did (m, k, kf, tp, tl, sb, sz, nu, ct) (nI px) (nI py) (nI pz) = (nI (m (4 + 10 * px + (4 + py))), (vUp m (4 + 10 * px + (4 + py)) pz, k, kf, tp, tl, sb, sz, nu, ct)) := by simp [-Nat.add_zero, sp_did, sp_tell, nI_l0, nI_l1, nI_l2, nI_l3, nI_l4, tN_l0, tN_l1, tN_l2, tN_l3, tN_l4, c5, c12, c24, nI_clamp (show px < 2 ^ 31 by omega), nI_clamp (show py < 2 ^ 31 by omega), nI_clamp (show pz < 2 ^ 31 by omega)] <;> (repeat' (first | intro _ | refine ⟨?_, ?_⟩ | split)) <;> first | rfl | omega | (exfalso; omega)
        exact k_eqw (ws2 := modA g b (sp_did (m, k, kf, tp, tl, sb, sz, nu, ct) (nI px) (nI py) (nI pz)).2 (fj, mj, fr, to, va, iw, jk, th, ai, ot, mo)) (by rw [hsp]; rfl) (hR _ _ _ (fj, mj, fr, to, va, iw, jk, th, ai, ot, mo) dX4_did_48 (by rw [hsp]))
set_option maxHeartbeats 4000000 in
set_option maxRecDepth 100000 in
theorem mp_scent (l : Launch) (g : KG) (b : Nat → Nat) (j : MJ) (s : KS) (hs : kOk s) (x : Int32) (y : Int32) (z : Int32) : CT l yX4_scent cX4_scent 4 (some .int) (rmK 3) g [.ref (b 0), .int x, .int y, .int z] (modA g b s j) (S := MJ) oI (fun r _ => r = (sp_scent s x y z).1) (fun j => modA g b (sp_scent s x y z).2 j) := by
  obtain ⟨m, k, kf, tp, tl, sb, sz, nu, ct⟩ := s
  obtain ⟨fj, mj, fr, to, va, iw, jk, th, ai, ot, mo⟩ := j
  obtain ⟨hm, hk, htl, htp, hsh⟩ := hs
  have h0 : m 0 ≤ 8 := hm.1
  have h1 : m 1 ≤ 9999 := hm.2.1
  have h2 : m 2 ≤ 4 := hm.2.2.1
  have h3 : m 3 ≤ 99 := hm.2.2.2.2.1
  have hB : 9999 < 2 ^ 30 := by decide
  refine k_bodyI (by decide) (Nat.le_of_ble_eq_true rfl) (fun _ _ _ => rfl) (fun J hJ hR => ?_)
  show J (modW g b (mE kf fj mj tl fr to va iw) m th ai ct (fun i => nI ((if kf then k else jk) i)) ot tp sb sz nu mo) [(0, .ref (b 0)), (1, .int x), (2, .int y), (3, .int z)] 0 []
  refine k_aload_n hJ dX4_scent_0 0 rfl ?_
  refine k_iload_n hJ dX4_scent_1 1 rfl ?_
  refine c_VI (As := [.int x]) (st := []) hJ (ct_X4_isPerson l g b (mE kf fj mj tl fr to va iw) m x (by omega)) (frS rfl) mv_X4_isPerson ml_X4_51 0 rfl rfl rfl (kRm_ok (by decide) (by decide)) rfl rfl (Nat.le_of_ble_eq_true rfl) dX4_scent_2 ?_
  refine b_if_eq (tgt := 25) hJ dX4_scent_5 (by decide) (fun c5 => ?_) (fun c5 => ?_)
  · refine k_aload_n hJ dX4_scent_25 0 rfl ?_
    refine k_ldc hJ dX4_scent_26 cw_X4_44 ?_
    refine k_eqs (st2 := [.int (kFi 0), .ref (b 0)]) (by rw [kFi_c0]) ?_
    refine c_VI (As := [.int (kFi 0)]) (st := []) hJ (ct_X4_finds l g b (mE kf fj mj tl fr to va iw) m th ai ct (fun i => nI ((if kf then k else jk) i)) ot tp sb sz nu mo 0 (by decide)) (Fr.all rfl) mv_X4_finds ml_X4_68 0 rfl rfl rfl (kRm_ok (by decide) (by decide)) rfl rfl (Nat.le_of_ble_eq_true rfl) dX4_scent_28 ?_
    have hsp : sp_scent (m, k, kf, tp, tl, sb, sz, nu, ct) x y z = (kFi 0, (m, k, kf, tp, tl, sb, sz, nu, kTe ct 0)) := by simp [-Nat.add_zero, sp_scent, sp_tell, nI_l0, nI_l1, nI_l2, nI_l3, nI_l4, tN_l0, tN_l1, tN_l2, tN_l3, tN_l4, c5] <;> (repeat' (first | intro _ | refine ⟨?_, ?_⟩ | split)) <;> first | rfl | omega | (exfalso; omega)
    exact k_eqw (ws2 := modA g b (sp_scent (m, k, kf, tp, tl, sb, sz, nu, ct) x y z).2 (fj, mj, fr, to, va, iw, jk, th, ai, ot, mo)) (by rw [hsp]; rfl) (hR _ _ _ (fj, mj, fr, to, va, iw, jk, th, ai, ot, mo) dX4_scent_31 (by rw [hsp]))
  · obtain ⟨px, hpx, rfl⟩ := vIn_of (by omega) c5
    refine k_iload_n hJ dX4_scent_8 2 rfl ?_
    refine c_SI (As := [.int y]) (st := []) hJ (ct_X4_isDeed l g y ) Fr.none ms_X4_isDeed ml_X4_96 (kRm_ok (by decide) (by decide)) rfl rfl (Nat.le_of_ble_eq_true rfl) dX4_scent_9 ?_
    refine b_if_eq (tgt := 25) hJ dX4_scent_12 (by decide) (fun c12 => ?_) (fun c12 => ?_)
    · refine k_aload_n hJ dX4_scent_25 0 rfl ?_
      refine k_ldc hJ dX4_scent_26 cw_X4_44 ?_
      refine k_eqs (st2 := [.int (kFi 0), .ref (b 0)]) (by rw [kFi_c0]) ?_
      refine c_VI (As := [.int (kFi 0)]) (st := []) hJ (ct_X4_finds l g b (mE kf fj mj tl fr to va iw) m th ai ct (fun i => nI ((if kf then k else jk) i)) ot tp sb sz nu mo 0 (by decide)) (Fr.all rfl) mv_X4_finds ml_X4_68 0 rfl rfl rfl (kRm_ok (by decide) (by decide)) rfl rfl (Nat.le_of_ble_eq_true rfl) dX4_scent_28 ?_
      have hsp : sp_scent (m, k, kf, tp, tl, sb, sz, nu, ct) (nI px) y z = (kFi 0, (m, k, kf, tp, tl, sb, sz, nu, kTe ct 0)) := by simp [-Nat.add_zero, sp_scent, sp_tell, nI_l0, nI_l1, nI_l2, nI_l3, nI_l4, tN_l0, tN_l1, tN_l2, tN_l3, tN_l4, c5, c12, nI_clamp (show px < 2 ^ 31 by omega)] <;> (repeat' (first | intro _ | refine ⟨?_, ?_⟩ | split)) <;> first | rfl | omega | (exfalso; omega)
      exact k_eqw (ws2 := modA g b (sp_scent (m, k, kf, tp, tl, sb, sz, nu, ct) (nI px) y z).2 (fj, mj, fr, to, va, iw, jk, th, ai, ot, mo)) (by rw [hsp]; rfl) (hR _ _ _ (fj, mj, fr, to, va, iw, jk, th, ai, ot, mo) dX4_scent_31 (by rw [hsp]))
    · obtain ⟨py, hpy, rfl⟩ := vIn_of (by omega) c12
      refine k_iload_n hJ dX4_scent_15 3 rfl ?_
      refine k_i2l hJ dX4_scent_16 rfl ?_
      refine k_lconst (v := 0) hJ dX4_scent_17 (by decide) ?_
      refine k_lconst (v := 1) hJ dX4_scent_18 (by decide) ?_
      refine c_SI (As := [.long z.toInt64, .long 0, .long 1]) (st := []) hJ (ct_X4_in l g z.toInt64 0 1) Fr.none ms_X4_in ml_X4_47 (kRm_ok (by decide) (by decide)) rfl rfl (Nat.le_of_ble_eq_true rfl) dX4_scent_19 ?_
      refine k_eqs (st2 := [.int (kb (vIn z 2))]) (by rw [vInL_in (n := 2) (by decide) (by decide) (by decide)]) ?_
      refine b_if_ne (tgt := 32) hJ dX4_scent_22 (by decide) (fun c22 => ?_) (fun c22 => ?_)
      · obtain ⟨pz, hpz, rfl⟩ := vIn_of (by omega) c22
        refine k_iload_n hJ dX4_scent_32 3 rfl ?_
        refine n_if_ne (tgt := 47) hJ dX4_scent_33 (by decide) (by omega) (fun c33 => ?_) (fun c33 => ?_)
        · refine k_aload_n hJ dX4_scent_47 0 rfl ?_
          refine k_iload_n hJ dX4_scent_48 1 rfl ?_
          refine k_iload_n hJ dX4_scent_49 2 rfl ?_
          refine c_VI (As := [.int (nI px), .int (nI py)]) (st := []) hJ (ct_X4_givesOff l g b (mE kf fj mj tl fr to va iw) m px py hB hm (by omega) (by omega)) (frS rfl) mv_X4_givesOff ml_X4_85 0 rfl rfl rfl (kRm_ok (by decide) (by decide)) rfl rfl (Nat.le_of_ble_eq_true rfl) dX4_scent_50 ?_
          have hsp : sp_scent (m, k, kf, tp, tl, sb, sz, nu, ct) (nI px) (nI py) (nI pz) = (nI (vGives m px py), (m, k, kf, tp, tl, sb, sz, nu, ct)) := by simp [-Nat.add_zero, sp_scent, sp_tell, nI_l0, nI_l1, nI_l2, nI_l3, nI_l4, tN_l0, tN_l1, tN_l2, tN_l3, tN_l4, c5, c12, c22, nI_clamp (show px < 2 ^ 31 by omega), nI_clamp (show py < 2 ^ 31 by omega), nI_clamp (show pz < 2 ^ 31 by omega)] <;> (repeat' (first | intro _ | refine ⟨?_, ?_⟩ | split)) <;> first | rfl | omega | (exfalso; omega)
          exact k_eqw (ws2 := modA g b (sp_scent (m, k, kf, tp, tl, sb, sz, nu, ct) (nI px) (nI py) (nI pz)).2 (fj, mj, fr, to, va, iw, jk, th, ai, ot, mo)) (by rw [hsp]; rfl) (hR _ _ _ (fj, mj, fr, to, va, iw, jk, th, ai, ot, mo) dX4_scent_53 (by rw [hsp]))
        · refine k_aload_n hJ dX4_scent_36 0 rfl ?_
          refine k_iload_n hJ dX4_scent_37 1 rfl ?_
          refine k_iconst (v := nI 4) hJ dX4_scent_38 (by decide) ?_
          refine k_iload_n hJ dX4_scent_39 2 rfl ?_
          refine n_iadd hJ dX4_scent_40 ?_
          refine c_VI (As := [.int (nI px), .int (nI (4 + py))]) (st := []) hJ (ct_X4_its l g b (mE kf fj mj tl fr to va iw) m px (4 + py) (by omega) (by omega)) (frS rfl) mv_X4_its ml_X4_82 0 rfl rfl rfl (kRm_ok (by decide) (by decide)) rfl rfl (Nat.le_of_ble_eq_true rfl) dX4_scent_41 ?_
          have hb41 : m (4 + 10 * px + (4 + py)) ≤ 99 := hm.sc (show px < 8 by omega) (show py < 6 by omega)
          refine k_goto (tgt := 53) hJ dX4_scent_44 (by decide) ?_
          have hsp : sp_scent (m, k, kf, tp, tl, sb, sz, nu, ct) (nI px) (nI py) (nI pz) = (nI (m (4 + 10 * px + (4 + py))), (m, k, kf, tp, tl, sb, sz, nu, ct)) := by simp [-Nat.add_zero, sp_scent, sp_tell, nI_l0, nI_l1, nI_l2, nI_l3, nI_l4, tN_l0, tN_l1, tN_l2, tN_l3, tN_l4, c5, c12, c22, nI_clamp (show px < 2 ^ 31 by omega), nI_clamp (show py < 2 ^ 31 by omega), nI_clamp (show pz < 2 ^ 31 by omega)] <;> (repeat' (first | intro _ | refine ⟨?_, ?_⟩ | split)) <;> first | rfl | omega | (exfalso; omega)
          exact k_eqw (ws2 := modA g b (sp_scent (m, k, kf, tp, tl, sb, sz, nu, ct) (nI px) (nI py) (nI pz)).2 (fj, mj, fr, to, va, iw, jk, th, ai, ot, mo)) (by rw [hsp]; rfl) (hR _ _ _ (fj, mj, fr, to, va, iw, jk, th, ai, ot, mo) dX4_scent_53 (by rw [hsp]))
      · refine k_aload_n hJ dX4_scent_25 0 rfl ?_
        refine k_ldc hJ dX4_scent_26 cw_X4_44 ?_
        refine k_eqs (st2 := [.int (kFi 0), .ref (b 0)]) (by rw [kFi_c0]) ?_
        refine c_VI (As := [.int (kFi 0)]) (st := []) hJ (ct_X4_finds l g b (mE kf fj mj tl fr to va iw) m th ai ct (fun i => nI ((if kf then k else jk) i)) ot tp sb sz nu mo 0 (by decide)) (Fr.all rfl) mv_X4_finds ml_X4_68 0 rfl rfl rfl (kRm_ok (by decide) (by decide)) rfl rfl (Nat.le_of_ble_eq_true rfl) dX4_scent_28 ?_
        have hsp : sp_scent (m, k, kf, tp, tl, sb, sz, nu, ct) (nI px) (nI py) z = (kFi 0, (m, k, kf, tp, tl, sb, sz, nu, kTe ct 0)) := by simp [-Nat.add_zero, sp_scent, sp_tell, nI_l0, nI_l1, nI_l2, nI_l3, nI_l4, tN_l0, tN_l1, tN_l2, tN_l3, tN_l4, c5, c12, c22, nI_clamp (show px < 2 ^ 31 by omega), nI_clamp (show py < 2 ^ 31 by omega)] <;> (repeat' (first | intro _ | refine ⟨?_, ?_⟩ | split)) <;> first | rfl | omega | (exfalso; omega)
        exact k_eqw (ws2 := modA g b (sp_scent (m, k, kf, tp, tl, sb, sz, nu, ct) (nI px) (nI py) z).2 (fj, mj, fr, to, va, iw, jk, th, ai, ot, mo)) (by rw [hsp]; rfl) (hR _ _ _ (fj, mj, fr, to, va, iw, jk, th, ai, ot, mo) dX4_scent_31 (by rw [hsp]))
set_option maxHeartbeats 4000000 in
set_option maxRecDepth 100000 in
theorem mp_turn (l : Launch) (g : KG) (b : Nat → Nat) (j : MJ) (s : KS) (hs : kOk s) (x : Int32) (y : Int32) : CT l yX4_turn cX4_turn 3 (some .int) (rmK 2) g [.ref (b 0), .int x, .int y] (modA g b s j) (S := MJ) oI (fun r _ => r = (sp_turn s x y).1) (fun j => modA g b (sp_turn s x y).2 j) := by
  obtain ⟨m, k, kf, tp, tl, sb, sz, nu, ct⟩ := s
  obtain ⟨fj, mj, fr, to, va, iw, jk, th, ai, ot, mo⟩ := j
  obtain ⟨hm, hk, htl, htp, hsh⟩ := hs
  have h0 : m 0 ≤ 8 := hm.1
  have h1 : m 1 ≤ 9999 := hm.2.1
  have h2 : m 2 ≤ 4 := hm.2.2.1
  have h3 : m 3 ≤ 99 := hm.2.2.2.2.1
  have hB : 9999 < 2 ^ 30 := by decide
  refine k_bodyI (by decide) (Nat.le_of_ble_eq_true rfl) (fun _ _ _ => rfl) (fun J hJ hR => ?_)
  show J (modW g b (mE kf fj mj tl fr to va iw) m th ai ct (fun i => nI ((if kf then k else jk) i)) ot tp sb sz nu mo) [(0, .ref (b 0)), (1, .int x), (2, .int y)] 0 []
  refine k_aload_n hJ dX4_turn_0 0 rfl ?_
  refine k_iload_n hJ dX4_turn_1 1 rfl ?_
  refine c_VI (As := [.int x]) (st := []) hJ (ct_X4_isPerson l g b (mE kf fj mj tl fr to va iw) m x (by omega)) (frS rfl) mv_X4_isPerson ml_X4_51 0 rfl rfl rfl (kRm_ok (by decide) (by decide)) rfl rfl (Nat.le_of_ble_eq_true rfl) dX4_turn_2 ?_
  refine b_if_eq (tgt := 28) hJ dX4_turn_5 (by decide) (fun c5 => ?_) (fun c5 => ?_)
  · refine k_aload_n hJ dX4_turn_28 0 rfl ?_
    refine k_ldc hJ dX4_turn_29 cw_X4_44 ?_
    refine k_eqs (st2 := [.int (kFi 0), .ref (b 0)]) (by rw [kFi_c0]) ?_
    refine c_VI (As := [.int (kFi 0)]) (st := []) hJ (ct_X4_finds l g b (mE kf fj mj tl fr to va iw) m th ai ct (fun i => nI ((if kf then k else jk) i)) ot tp sb sz nu mo 0 (by decide)) (Fr.all rfl) mv_X4_finds ml_X4_68 0 rfl rfl rfl (kRm_ok (by decide) (by decide)) rfl rfl (Nat.le_of_ble_eq_true rfl) dX4_turn_31 ?_
    have hsp : sp_turn (m, k, kf, tp, tl, sb, sz, nu, ct) x y = (kFi 0, (m, k, kf, tp, tl, sb, sz, nu, kTe ct 0)) := by simp [-Nat.add_zero, sp_turn, sp_tell, nI_l0, nI_l1, nI_l2, nI_l3, nI_l4, tN_l0, tN_l1, tN_l2, tN_l3, tN_l4, c5] <;> (repeat' (first | intro _ | refine ⟨?_, ?_⟩ | split)) <;> first | rfl | omega | (exfalso; omega)
    exact k_eqw (ws2 := modA g b (sp_turn (m, k, kf, tp, tl, sb, sz, nu, ct) x y).2 (fj, mj, fr, to, va, iw, jk, th, ai, ot, mo)) (by rw [hsp]; rfl) (hR _ _ _ (fj, mj, fr, to, va, iw, jk, th, ai, ot, mo) dX4_turn_34 (by rw [hsp]))
  · obtain ⟨px, hpx, rfl⟩ := vIn_of (by omega) c5
    refine k_iload_n hJ dX4_turn_8 2 rfl ?_
    refine c_SI (As := [.int y]) (st := []) hJ (ct_X4_isKind l g y ) Fr.none ms_X4_isKind ml_X4_72 (kRm_ok (by decide) (by decide)) rfl rfl (Nat.le_of_ble_eq_true rfl) dX4_turn_9 ?_
    refine b_if_eq (tgt := 28) hJ dX4_turn_12 (by decide) (fun c12 => ?_) (fun c12 => ?_)
    · refine k_aload_n hJ dX4_turn_28 0 rfl ?_
      refine k_ldc hJ dX4_turn_29 cw_X4_44 ?_
      refine k_eqs (st2 := [.int (kFi 0), .ref (b 0)]) (by rw [kFi_c0]) ?_
      refine c_VI (As := [.int (kFi 0)]) (st := []) hJ (ct_X4_finds l g b (mE kf fj mj tl fr to va iw) m th ai ct (fun i => nI ((if kf then k else jk) i)) ot tp sb sz nu mo 0 (by decide)) (Fr.all rfl) mv_X4_finds ml_X4_68 0 rfl rfl rfl (kRm_ok (by decide) (by decide)) rfl rfl (Nat.le_of_ble_eq_true rfl) dX4_turn_31 ?_
      have hsp : sp_turn (m, k, kf, tp, tl, sb, sz, nu, ct) (nI px) y = (kFi 0, (m, k, kf, tp, tl, sb, sz, nu, kTe ct 0)) := by simp [-Nat.add_zero, sp_turn, sp_tell, nI_l0, nI_l1, nI_l2, nI_l3, nI_l4, tN_l0, tN_l1, tN_l2, tN_l3, tN_l4, c5, c12, nI_clamp (show px < 2 ^ 31 by omega)] <;> (repeat' (first | intro _ | refine ⟨?_, ?_⟩ | split)) <;> first | rfl | omega | (exfalso; omega)
      exact k_eqw (ws2 := modA g b (sp_turn (m, k, kf, tp, tl, sb, sz, nu, ct) (nI px) y).2 (fj, mj, fr, to, va, iw, jk, th, ai, ot, mo)) (by rw [hsp]; rfl) (hR _ _ _ (fj, mj, fr, to, va, iw, jk, th, ai, ot, mo) dX4_turn_34 (by rw [hsp]))
    · obtain ⟨py, hpy, rfl⟩ := vIn_of (by omega) c12
      refine k_aload_n hJ dX4_turn_15 0 rfl ?_
      refine k_iload_n hJ dX4_turn_16 1 rfl ?_
      refine k_iconst (v := nI 0) hJ dX4_turn_17 (by decide) ?_
      refine c_SI (As := [.int (nI px), .int (nI 0)]) (st := [.ref (b 0)]) hJ (ct_X4_spot l g px 0 ) Fr.none ms_X4_spot ml_X4_57 (kRm_ok (by decide) (by decide)) rfl rfl (Nat.le_of_ble_eq_true rfl) dX4_turn_18 ?_
      refine k_iload_n hJ dX4_turn_21 2 rfl ?_
      refine c_VI (As := [.int (nI (4 + 10 * px + 0)), .int (nI py)]) (st := []) hJ (ct_X4_becomes l g b (mE kf fj mj tl fr to va iw) m (4 + 10 * px + 0) py (by omega)) (frS rfl) mv_X4_becomes ml_X4_65 0 rfl rfl rfl (kRm_ok (by decide) (by decide)) rfl rfl (Nat.le_of_ble_eq_true rfl) dX4_turn_22 ?_
      refine k_goto (tgt := 34) hJ dX4_turn_25 (by decide) ?_
      have hsp : sp_turn (m, k, kf, tp, tl, sb, sz, nu, ct) (nI px) (nI py) = (nI (m (4 + 10 * px + 0)), (vUp m (4 + 10 * px + 0) py, k, kf, tp, tl, sb, sz, nu, ct)) := by simp [-Nat.add_zero, sp_turn, sp_tell, nI_l0, nI_l1, nI_l2, nI_l3, nI_l4, tN_l0, tN_l1, tN_l2, tN_l3, tN_l4, c5, c12, nI_clamp (show px < 2 ^ 31 by omega), nI_clamp (show py < 2 ^ 31 by omega)] <;> (repeat' (first | intro _ | refine ⟨?_, ?_⟩ | split)) <;> first | rfl | omega | (exfalso; omega)
      exact k_eqw (ws2 := modA g b (sp_turn (m, k, kf, tp, tl, sb, sz, nu, ct) (nI px) (nI py)).2 (fj, mj, fr, to, va, iw, jk, th, ai, ot, mo)) (by rw [hsp]; rfl) (hR _ _ _ (fj, mj, fr, to, va, iw, jk, th, ai, ot, mo) dX4_turn_34 (by rw [hsp]))
set_option maxHeartbeats 4000000 in
set_option maxRecDepth 100000 in
theorem mp_as (l : Launch) (g : KG) (b : Nat → Nat) (j : MJ) (s : KS) (hs : kOk s) (x : Int32) (y : Int32) : CT l yX4_as cX4_as 3 (some .int) (rmK 2) g [.ref (b 0), .int x, .int y] (modA g b s j) (S := MJ) oI (fun r _ => r = (sp_as s x y).1) (fun j => modA g b (sp_as s x y).2 j) := by
  obtain ⟨m, k, kf, tp, tl, sb, sz, nu, ct⟩ := s
  obtain ⟨fj, mj, fr, to, va, iw, jk, th, ai, ot, mo⟩ := j
  obtain ⟨hm, hk, htl, htp, hsh⟩ := hs
  have h0 : m 0 ≤ 8 := hm.1
  have h1 : m 1 ≤ 9999 := hm.2.1
  have h2 : m 2 ≤ 4 := hm.2.2.1
  have h3 : m 3 ≤ 99 := hm.2.2.2.2.1
  have hB : 9999 < 2 ^ 30 := by decide
  refine k_bodyI (by decide) (Nat.le_of_ble_eq_true rfl) (fun _ _ _ => rfl) (fun J hJ hR => ?_)
  show J (modW g b (mE kf fj mj tl fr to va iw) m th ai ct (fun i => nI ((if kf then k else jk) i)) ot tp sb sz nu mo) [(0, .ref (b 0)), (1, .int x), (2, .int y)] 0 []
  refine k_aload_n hJ dX4_as_0 0 rfl ?_
  refine k_iload_n hJ dX4_as_1 1 rfl ?_
  refine c_VI (As := [.int x]) (st := []) hJ (ct_X4_isPerson l g b (mE kf fj mj tl fr to va iw) m x (by omega)) (frS rfl) mv_X4_isPerson ml_X4_51 0 rfl rfl rfl (kRm_ok (by decide) (by decide)) rfl rfl (Nat.le_of_ble_eq_true rfl) dX4_as_2 ?_
  refine b_if_eq (tgt := 15) hJ dX4_as_5 (by decide) (fun c5 => ?_) (fun c5 => ?_)
  · refine k_aload_n hJ dX4_as_15 0 rfl ?_
    refine k_ldc hJ dX4_as_16 cw_X4_44 ?_
    refine k_eqs (st2 := [.int (kFi 0), .ref (b 0)]) (by rw [kFi_c0]) ?_
    refine c_VI (As := [.int (kFi 0)]) (st := []) hJ (ct_X4_finds l g b (mE kf fj mj tl fr to va iw) m th ai ct (fun i => nI ((if kf then k else jk) i)) ot tp sb sz nu mo 0 (by decide)) (Fr.all rfl) mv_X4_finds ml_X4_68 0 rfl rfl rfl (kRm_ok (by decide) (by decide)) rfl rfl (Nat.le_of_ble_eq_true rfl) dX4_as_18 ?_
    have hsp : sp_as (m, k, kf, tp, tl, sb, sz, nu, ct) x y = (kFi 0, (m, k, kf, tp, tl, sb, sz, nu, kTe ct 0)) := by simp [-Nat.add_zero, sp_as, sp_tell, nI_l0, nI_l1, nI_l2, nI_l3, nI_l4, tN_l0, tN_l1, tN_l2, tN_l3, tN_l4, c5] <;> (repeat' (first | intro _ | refine ⟨?_, ?_⟩ | split)) <;> first | rfl | omega | (exfalso; omega)
    exact k_eqw (ws2 := modA g b (sp_as (m, k, kf, tp, tl, sb, sz, nu, ct) x y).2 (fj, mj, fr, to, va, iw, jk, th, ai, ot, mo)) (by rw [hsp]; rfl) (hR _ _ _ (fj, mj, fr, to, va, iw, jk, th, ai, ot, mo) dX4_as_21 (by rw [hsp]))
  · obtain ⟨px, hpx, rfl⟩ := vIn_of (by omega) c5
    refine k_iload_n hJ dX4_as_8 2 rfl ?_
    refine c_SI (As := [.int y]) (st := []) hJ (ct_X4_isKind l g y ) Fr.none ms_X4_isKind ml_X4_72 (kRm_ok (by decide) (by decide)) rfl rfl (Nat.le_of_ble_eq_true rfl) dX4_as_9 ?_
    refine b_if_ne (tgt := 22) hJ dX4_as_12 (by decide) (fun c12 => ?_) (fun c12 => ?_)
    · obtain ⟨py, hpy, rfl⟩ := vIn_of (by omega) c12
      refine k_aload_n hJ dX4_as_22 0 rfl ?_
      refine k_iload_n hJ dX4_as_23 1 rfl ?_
      refine k_iconst (v := nI 0) hJ dX4_as_24 (by decide) ?_
      refine c_VI (As := [.int (nI px), .int (nI 0)]) (st := []) hJ (ct_X4_its l g b (mE kf fj mj tl fr to va iw) m px 0 (by omega) (by omega)) (frS rfl) mv_X4_its ml_X4_82 0 rfl rfl rfl (kRm_ok (by decide) (by decide)) rfl rfl (Nat.le_of_ble_eq_true rfl) dX4_as_25 ?_
      have hb25 : m (4 + 10 * px + 0) ≤ 5 := hm.kd (show px < 8 by omega)
      refine k_iload_n hJ dX4_as_28 2 rfl ?_
      refine c_SI (As := [.int (nI (m (4 + 10 * px + 0))), .int (nI py)]) (st := []) hJ (ct_X4_isUnder l g (m (4 + 10 * px + 0)) py (by omega) (by omega)) Fr.none ms_X4_isUnder ml_X4_99 (kRm_ok (by decide) (by decide)) rfl rfl (Nat.le_of_ble_eq_true rfl) dX4_as_29 ?_
      refine b_if_eq (tgt := 44) hJ dX4_as_32 (by decide) (fun c32 => ?_) (fun c32 => ?_)
      · refine k_aload_n hJ dX4_as_44 0 rfl ?_
        refine k_ldc hJ dX4_as_45 cw_X4_103 ?_
        refine k_eqs (st2 := [.int (kFi 2), .ref (b 0)]) (by rw [kFi_c2]) ?_
        refine c_VI (As := [.int (kFi 2)]) (st := []) hJ (ct_X4_finds l g b (mE kf fj mj tl fr to va iw) m th ai ct (fun i => nI ((if kf then k else jk) i)) ot tp sb sz nu mo 2 (by decide)) (Fr.all rfl) mv_X4_finds ml_X4_68 0 rfl rfl rfl (kRm_ok (by decide) (by decide)) rfl rfl (Nat.le_of_ble_eq_true rfl) dX4_as_47 ?_
        have hsp : sp_as (m, k, kf, tp, tl, sb, sz, nu, ct) (nI px) (nI py) = (kFi 2, (m, k, kf, tp, tl, sb, sz, nu, kTe ct 2)) := by simp [-Nat.add_zero, sp_as, sp_tell, nI_l0, nI_l1, nI_l2, nI_l3, nI_l4, tN_l0, tN_l1, tN_l2, tN_l3, tN_l4, c5, c12, c32, nI_clamp (show px < 2 ^ 31 by omega), nI_clamp (show py < 2 ^ 31 by omega)] <;> (repeat' (first | intro _ | refine ⟨?_, ?_⟩ | split)) <;> first | rfl | omega | (exfalso; omega)
        exact k_eqw (ws2 := modA g b (sp_as (m, k, kf, tp, tl, sb, sz, nu, ct) (nI px) (nI py)).2 (fj, mj, fr, to, va, iw, jk, th, ai, ot, mo)) (by rw [hsp]; rfl) (hR _ _ _ (fj, mj, fr, to, va, iw, jk, th, ai, ot, mo) dX4_as_50 (by rw [hsp]))
      · refine k_aload_n hJ dX4_as_35 0 rfl ?_
        refine k_iload_n hJ dX4_as_36 1 rfl ?_
        refine k_iconst (v := nI 2) hJ dX4_as_37 (by decide) ?_
        refine c_VI (As := [.int (nI px), .int (nI 2)]) (st := []) hJ (ct_X4_its l g b (mE kf fj mj tl fr to va iw) m px 2 (by omega) (by omega)) (frS rfl) mv_X4_its ml_X4_82 0 rfl rfl rfl (kRm_ok (by decide) (by decide)) rfl rfl (Nat.le_of_ble_eq_true rfl) dX4_as_38 ?_
        have hb38 : m (4 + 10 * px + 2) ≤ 9 := hm.ns (show px < 8 by omega)
        refine k_goto (tgt := 50) hJ dX4_as_41 (by decide) ?_
        have hsp : sp_as (m, k, kf, tp, tl, sb, sz, nu, ct) (nI px) (nI py) = (nI (m (4 + 10 * px + 2)), (m, k, kf, tp, tl, sb, sz, nu, ct)) := by simp [-Nat.add_zero, sp_as, sp_tell, nI_l0, nI_l1, nI_l2, nI_l3, nI_l4, tN_l0, tN_l1, tN_l2, tN_l3, tN_l4, c5, c12, c32, nI_clamp (show px < 2 ^ 31 by omega), nI_clamp (show py < 2 ^ 31 by omega)] <;> (repeat' (first | intro _ | refine ⟨?_, ?_⟩ | split)) <;> first | rfl | omega | (exfalso; omega)
        exact k_eqw (ws2 := modA g b (sp_as (m, k, kf, tp, tl, sb, sz, nu, ct) (nI px) (nI py)).2 (fj, mj, fr, to, va, iw, jk, th, ai, ot, mo)) (by rw [hsp]; rfl) (hR _ _ _ (fj, mj, fr, to, va, iw, jk, th, ai, ot, mo) dX4_as_50 (by rw [hsp]))
    · refine k_aload_n hJ dX4_as_15 0 rfl ?_
      refine k_ldc hJ dX4_as_16 cw_X4_44 ?_
      refine k_eqs (st2 := [.int (kFi 0), .ref (b 0)]) (by rw [kFi_c0]) ?_
      refine c_VI (As := [.int (kFi 0)]) (st := []) hJ (ct_X4_finds l g b (mE kf fj mj tl fr to va iw) m th ai ct (fun i => nI ((if kf then k else jk) i)) ot tp sb sz nu mo 0 (by decide)) (Fr.all rfl) mv_X4_finds ml_X4_68 0 rfl rfl rfl (kRm_ok (by decide) (by decide)) rfl rfl (Nat.le_of_ble_eq_true rfl) dX4_as_18 ?_
      have hsp : sp_as (m, k, kf, tp, tl, sb, sz, nu, ct) (nI px) y = (kFi 0, (m, k, kf, tp, tl, sb, sz, nu, kTe ct 0)) := by simp [-Nat.add_zero, sp_as, sp_tell, nI_l0, nI_l1, nI_l2, nI_l3, nI_l4, tN_l0, tN_l1, tN_l2, tN_l3, tN_l4, c5, c12, nI_clamp (show px < 2 ^ 31 by omega)] <;> (repeat' (first | intro _ | refine ⟨?_, ?_⟩ | split)) <;> first | rfl | omega | (exfalso; omega)
      exact k_eqw (ws2 := modA g b (sp_as (m, k, kf, tp, tl, sb, sz, nu, ct) (nI px) y).2 (fj, mj, fr, to, va, iw, jk, th, ai, ot, mo)) (by rw [hsp]; rfl) (hR _ _ _ (fj, mj, fr, to, va, iw, jk, th, ai, ot, mo) dX4_as_21 (by rw [hsp]))
set_option maxHeartbeats 4000000 in
set_option maxRecDepth 100000 in
theorem mp_wash (l : Launch) (g : KG) (b : Nat → Nat) (j : MJ) (s : KS) (hs : kOk s) (x : Int32) : CT l yX4_wash cX4_wash 2 (some .int) (rmK 3) g [.ref (b 0), .int x] (modA g b s j) (S := MJ) oI (fun r _ => r = (sp_wash s x).1) (fun j => modA g b (sp_wash s x).2 j) := by
  obtain ⟨m, k, kf, tp, tl, sb, sz, nu, ct⟩ := s
  obtain ⟨fj, mj, fr, to, va, iw, jk, th, ai, ot, mo⟩ := j
  obtain ⟨hm, hk, htl, htp, hsh⟩ := hs
  have h0 : m 0 ≤ 8 := hm.1
  have h1 : m 1 ≤ 9999 := hm.2.1
  have h2 : m 2 ≤ 4 := hm.2.2.1
  have h3 : m 3 ≤ 99 := hm.2.2.2.2.1
  have hB : 9999 < 2 ^ 30 := by decide
  refine k_bodyI (by decide) (Nat.le_of_ble_eq_true rfl) (fun _ _ _ => rfl) (fun J hJ hR => ?_)
  show J (modW g b (mE kf fj mj tl fr to va iw) m th ai ct (fun i => nI ((if kf then k else jk) i)) ot tp sb sz nu mo) [(0, .ref (b 0)), (1, .int x)] 0 []
  refine k_aload_n hJ dX4_wash_0 0 rfl ?_
  refine k_iload_n hJ dX4_wash_1 1 rfl ?_
  refine c_VI (As := [.int x]) (st := []) hJ (ct_X4_isPerson l g b (mE kf fj mj tl fr to va iw) m x (by omega)) (frS rfl) mv_X4_isPerson ml_X4_51 0 rfl rfl rfl (kRm_ok (by decide) (by decide)) rfl rfl (Nat.le_of_ble_eq_true rfl) dX4_wash_2 ?_
  refine b_if_eq (tgt := 16) hJ dX4_wash_5 (by decide) (fun c5 => ?_) (fun c5 => ?_)
  · refine k_aload_n hJ dX4_wash_16 0 rfl ?_
    refine k_ldc hJ dX4_wash_17 cw_X4_44 ?_
    refine k_eqs (st2 := [.int (kFi 0), .ref (b 0)]) (by rw [kFi_c0]) ?_
    refine c_VI (As := [.int (kFi 0)]) (st := []) hJ (ct_X4_finds l g b (mE kf fj mj tl fr to va iw) m th ai ct (fun i => nI ((if kf then k else jk) i)) ot tp sb sz nu mo 0 (by decide)) (Fr.all rfl) mv_X4_finds ml_X4_68 0 rfl rfl rfl (kRm_ok (by decide) (by decide)) rfl rfl (Nat.le_of_ble_eq_true rfl) dX4_wash_19 ?_
    have hsp : sp_wash (m, k, kf, tp, tl, sb, sz, nu, ct) x = (kFi 0, (m, k, kf, tp, tl, sb, sz, nu, kTe ct 0)) := by simp [-Nat.add_zero, sp_wash, sp_tell, nI_l0, nI_l1, nI_l2, nI_l3, nI_l4, tN_l0, tN_l1, tN_l2, tN_l3, tN_l4, c5] <;> (repeat' (first | intro _ | refine ⟨?_, ?_⟩ | split)) <;> first | rfl | omega | (exfalso; omega)
    exact k_eqw (ws2 := modA g b (sp_wash (m, k, kf, tp, tl, sb, sz, nu, ct) x).2 (fj, mj, fr, to, va, iw, jk, th, ai, ot, mo)) (by rw [hsp]; rfl) (hR _ _ _ (fj, mj, fr, to, va, iw, jk, th, ai, ot, mo) dX4_wash_22 (by rw [hsp]))
  · obtain ⟨px, hpx, rfl⟩ := vIn_of (by omega) c5
    refine k_aload_n hJ dX4_wash_8 0 rfl ?_
    refine k_iload_n hJ dX4_wash_9 1 rfl ?_
    refine c_VI (As := [.int (nI px)]) (st := []) hJ (ct_X4_washes l g b (mE kf fj mj tl fr to va iw) m px hB hm (by omega)) (frS rfl) mv_X4_washes ml_X4_104 0 rfl rfl rfl (kRm_ok (by decide) (by decide)) rfl rfl (Nat.le_of_ble_eq_true rfl) dX4_wash_10 ?_
    refine k_goto (tgt := 22) hJ dX4_wash_13 (by decide) ?_
    have hsp : sp_wash (m, k, kf, tp, tl, sb, sz, nu, ct) (nI px) = (nI (vWashed m px), (vWash m px 6, k, kf, tp, tl, sb, sz, nu, ct)) := by simp [-Nat.add_zero, sp_wash, sp_tell, nI_l0, nI_l1, nI_l2, nI_l3, nI_l4, tN_l0, tN_l1, tN_l2, tN_l3, tN_l4, c5, nI_clamp (show px < 2 ^ 31 by omega)] <;> (repeat' (first | intro _ | refine ⟨?_, ?_⟩ | split)) <;> first | rfl | omega | (exfalso; omega)
    exact k_eqw (ws2 := modA g b (sp_wash (m, k, kf, tp, tl, sb, sz, nu, ct) (nI px)).2 (fj, mj, fr, to, va, iw, jk, th, ai, ot, mo)) (by rw [hsp]; rfl) (hR _ _ _ (fj, mj, fr, to, va, iw, jk, th, ai, ot, mo) dX4_wash_22 (by rw [hsp]))
set_option maxHeartbeats 4000000 in
set_option maxRecDepth 100000 in
theorem mp_smells (l : Launch) (g : KG) (b : Nat → Nat) (j : MJ) (s : KS) (hs : kOk s) (x : Int32) (y : Int32) (z : Int32) : CT l yX4_smells cX4_smells 4 (some .int) (rmK 4) g [.ref (b 0), .int x, .int y, .int z] (modA g b s j) (S := MJ) oI (fun r _ => r = (sp_smells s x y z).1) (fun j => modA g b (sp_smells s x y z).2 j) := by
  obtain ⟨m, k, kf, tp, tl, sb, sz, nu, ct⟩ := s
  obtain ⟨fj, mj, fr, to, va, iw, jk, th, ai, ot, mo⟩ := j
  obtain ⟨hm, hk, htl, htp, hsh⟩ := hs
  have h0 : m 0 ≤ 8 := hm.1
  have h1 : m 1 ≤ 9999 := hm.2.1
  have h2 : m 2 ≤ 4 := hm.2.2.1
  have h3 : m 3 ≤ 99 := hm.2.2.2.2.1
  have hB : 9999 < 2 ^ 30 := by decide
  refine k_bodyI (by decide) (Nat.le_of_ble_eq_true rfl) (fun _ _ _ => rfl) (fun J hJ hR => ?_)
  show J (modW g b (mE kf fj mj tl fr to va iw) m th ai ct (fun i => nI ((if kf then k else jk) i)) ot tp sb sz nu mo) [(0, .ref (b 0)), (1, .int x), (2, .int y), (3, .int z)] 0 []
  refine k_aload_n hJ dX4_smells_0 0 rfl ?_
  refine k_iload_n hJ dX4_smells_1 1 rfl ?_
  refine k_iload_n hJ dX4_smells_2 2 rfl ?_
  refine c_VI (As := [.int x, .int y]) (st := []) hJ (ct_X4_areTwo l g b (mE kf fj mj tl fr to va iw) m x y (by omega)) (frS rfl) mv_X4_areTwo ml_X4_107 0 rfl rfl rfl (kRm_ok (by decide) (by decide)) rfl rfl (Nat.le_of_ble_eq_true rfl) dX4_smells_3 ?_
  refine b_if_eq (tgt := 26) hJ dX4_smells_6 (by decide) (fun c6 => ?_) (fun c6 => ?_)
  · refine k_aload_n hJ dX4_smells_26 0 rfl ?_
    refine k_ldc hJ dX4_smells_27 cw_X4_44 ?_
    refine k_eqs (st2 := [.int (kFi 0), .ref (b 0)]) (by rw [kFi_c0]) ?_
    refine c_VI (As := [.int (kFi 0)]) (st := []) hJ (ct_X4_finds l g b (mE kf fj mj tl fr to va iw) m th ai ct (fun i => nI ((if kf then k else jk) i)) ot tp sb sz nu mo 0 (by decide)) (Fr.all rfl) mv_X4_finds ml_X4_68 0 rfl rfl rfl (kRm_ok (by decide) (by decide)) rfl rfl (Nat.le_of_ble_eq_true rfl) dX4_smells_29 ?_
    have hsp : sp_smells (m, k, kf, tp, tl, sb, sz, nu, ct) x y z = (kFi 0, (m, k, kf, tp, tl, sb, sz, nu, kTe ct 0)) := by simp [-Nat.add_zero, sp_smells, sp_tell, nI_l0, nI_l1, nI_l2, nI_l3, nI_l4, tN_l0, tN_l1, tN_l2, tN_l3, tN_l4, c6] <;> (repeat' (first | intro _ | refine ⟨?_, ?_⟩ | split)) <;> first | rfl | omega | (exfalso; omega)
    exact k_eqw (ws2 := modA g b (sp_smells (m, k, kf, tp, tl, sb, sz, nu, ct) x y z).2 (fj, mj, fr, to, va, iw, jk, th, ai, ot, mo)) (by rw [hsp]; rfl) (hR _ _ _ (fj, mj, fr, to, va, iw, jk, th, ai, ot, mo) dX4_smells_32 (by rw [hsp]))
  · obtain ⟨px, py, hpx, hpy, hnx, rfl, rfl⟩ := vTwo_of (by omega) c6
    refine k_iload_n hJ dX4_smells_9 3 rfl ?_
    refine c_SI (As := [.int z]) (st := []) hJ (ct_X4_isDeed l g z ) Fr.none ms_X4_isDeed ml_X4_96 (kRm_ok (by decide) (by decide)) rfl rfl (Nat.le_of_ble_eq_true rfl) dX4_smells_10 ?_
    refine b_if_eq (tgt := 26) hJ dX4_smells_13 (by decide) (fun c13 => ?_) (fun c13 => ?_)
    · refine k_aload_n hJ dX4_smells_26 0 rfl ?_
      refine k_ldc hJ dX4_smells_27 cw_X4_44 ?_
      refine k_eqs (st2 := [.int (kFi 0), .ref (b 0)]) (by rw [kFi_c0]) ?_
      refine c_VI (As := [.int (kFi 0)]) (st := []) hJ (ct_X4_finds l g b (mE kf fj mj tl fr to va iw) m th ai ct (fun i => nI ((if kf then k else jk) i)) ot tp sb sz nu mo 0 (by decide)) (Fr.all rfl) mv_X4_finds ml_X4_68 0 rfl rfl rfl (kRm_ok (by decide) (by decide)) rfl rfl (Nat.le_of_ble_eq_true rfl) dX4_smells_29 ?_
      have hsp : sp_smells (m, k, kf, tp, tl, sb, sz, nu, ct) (nI px) (nI py) z = (kFi 0, (m, k, kf, tp, tl, sb, sz, nu, kTe ct 0)) := by simp [-Nat.add_zero, sp_smells, sp_tell, nI_l0, nI_l1, nI_l2, nI_l3, nI_l4, tN_l0, tN_l1, tN_l2, tN_l3, tN_l4, c6, c13, nI_clamp (show px < 2 ^ 31 by omega), nI_clamp (show py < 2 ^ 31 by omega)] <;> (repeat' (first | intro _ | refine ⟨?_, ?_⟩ | split)) <;> first | rfl | omega | (exfalso; omega)
      exact k_eqw (ws2 := modA g b (sp_smells (m, k, kf, tp, tl, sb, sz, nu, ct) (nI px) (nI py) z).2 (fj, mj, fr, to, va, iw, jk, th, ai, ot, mo)) (by rw [hsp]; rfl) (hR _ _ _ (fj, mj, fr, to, va, iw, jk, th, ai, ot, mo) dX4_smells_32 (by rw [hsp]))
    · obtain ⟨pz, hpz, rfl⟩ := vIn_of (by omega) c13
      refine k_aload_n hJ dX4_smells_16 0 rfl ?_
      refine k_iload_n hJ dX4_smells_17 1 rfl ?_
      refine k_iload_n hJ dX4_smells_18 2 rfl ?_
      refine k_iload_n hJ dX4_smells_19 3 rfl ?_
      refine c_VI (As := [.int (nI px), .int (nI py), .int (nI pz)]) (st := []) hJ (ct_X4_smell l g b (mE kf fj mj tl fr to va iw) m px py pz hB hm (by omega) (by omega) (by omega)) (frS rfl) mv_X4_smell ml_X4_126 0 rfl rfl rfl (kRm_ok (by decide) (by decide)) rfl rfl (Nat.le_of_ble_eq_true rfl) dX4_smells_20 ?_
      refine k_goto (tgt := 32) hJ dX4_smells_23 (by decide) ?_
      have hsp : sp_smells (m, k, kf, tp, tl, sb, sz, nu, ct) (nI px) (nI py) (nI pz) = (nI (vSmell m px py pz), (m, k, kf, tp, tl, sb, sz, nu, ct)) := by simp [-Nat.add_zero, sp_smells, sp_tell, nI_l0, nI_l1, nI_l2, nI_l3, nI_l4, tN_l0, tN_l1, tN_l2, tN_l3, tN_l4, c6, c13, nI_clamp (show px < 2 ^ 31 by omega), nI_clamp (show py < 2 ^ 31 by omega), nI_clamp (show pz < 2 ^ 31 by omega)] <;> (repeat' (first | intro _ | refine ⟨?_, ?_⟩ | split)) <;> first | rfl | omega | (exfalso; omega)
      exact k_eqw (ws2 := modA g b (sp_smells (m, k, kf, tp, tl, sb, sz, nu, ct) (nI px) (nI py) (nI pz)).2 (fj, mj, fr, to, va, iw, jk, th, ai, ot, mo)) (by rw [hsp]; rfl) (hR _ _ _ (fj, mj, fr, to, va, iw, jk, th, ai, ot, mo) dX4_smells_32 (by rw [hsp]))
set_option maxHeartbeats 4000000 in
set_option maxRecDepth 100000 in
theorem mp_guilty (l : Launch) (g : KG) (b : Nat → Nat) (j : MJ) (s : KS) (hs : kOk s) (x : Int32) : CT l yX4_guilty cX4_guilty 2 (some .int) (rmK 6) g [.ref (b 0), .int x] (modA g b s j) (S := MJ) oI (fun r _ => r = (sp_guilty s x).1) (fun j => modA g b (sp_guilty s x).2 j) := by
  obtain ⟨m, k, kf, tp, tl, sb, sz, nu, ct⟩ := s
  obtain ⟨fj, mj, fr, to, va, iw, jk, th, ai, ot, mo⟩ := j
  obtain ⟨hm, hk, htl, htp, hsh⟩ := hs
  have h0 : m 0 ≤ 8 := hm.1
  have h1 : m 1 ≤ 9999 := hm.2.1
  have h2 : m 2 ≤ 4 := hm.2.2.1
  have h3 : m 3 ≤ 99 := hm.2.2.2.2.1
  have hB : 9999 < 2 ^ 30 := by decide
  refine k_bodyI (by decide) (Nat.le_of_ble_eq_true rfl) (fun _ _ _ => rfl) (fun J hJ hR => ?_)
  show J (modW g b (mE kf fj mj tl fr to va iw) m th ai ct (fun i => nI ((if kf then k else jk) i)) ot tp sb sz nu mo) [(0, .ref (b 0)), (1, .int x)] 0 []
  refine k_aload_n hJ dX4_guilty_0 0 rfl ?_
  refine k_iload_n hJ dX4_guilty_1 1 rfl ?_
  refine c_VI (As := [.int x]) (st := []) hJ (ct_X4_isPerson l g b (mE kf fj mj tl fr to va iw) m x (by omega)) (frS rfl) mv_X4_isPerson ml_X4_51 0 rfl rfl rfl (kRm_ok (by decide) (by decide)) rfl rfl (Nat.le_of_ble_eq_true rfl) dX4_guilty_2 ?_
  refine b_if_eq (tgt := 16) hJ dX4_guilty_5 (by decide) (fun c5 => ?_) (fun c5 => ?_)
  · refine k_aload_n hJ dX4_guilty_16 0 rfl ?_
    refine k_ldc hJ dX4_guilty_17 cw_X4_44 ?_
    refine k_eqs (st2 := [.int (kFi 0), .ref (b 0)]) (by rw [kFi_c0]) ?_
    refine c_VI (As := [.int (kFi 0)]) (st := []) hJ (ct_X4_finds l g b (mE kf fj mj tl fr to va iw) m th ai ct (fun i => nI ((if kf then k else jk) i)) ot tp sb sz nu mo 0 (by decide)) (Fr.all rfl) mv_X4_finds ml_X4_68 0 rfl rfl rfl (kRm_ok (by decide) (by decide)) rfl rfl (Nat.le_of_ble_eq_true rfl) dX4_guilty_19 ?_
    have hsp : sp_guilty (m, k, kf, tp, tl, sb, sz, nu, ct) x = (kFi 0, (m, k, kf, tp, tl, sb, sz, nu, kTe ct 0)) := by simp [-Nat.add_zero, sp_guilty, sp_tell, nI_l0, nI_l1, nI_l2, nI_l3, nI_l4, tN_l0, tN_l1, tN_l2, tN_l3, tN_l4, c5] <;> (repeat' (first | intro _ | refine ⟨?_, ?_⟩ | split)) <;> first | rfl | omega | (exfalso; omega)
    exact k_eqw (ws2 := modA g b (sp_guilty (m, k, kf, tp, tl, sb, sz, nu, ct) x).2 (fj, mj, fr, to, va, iw, jk, th, ai, ot, mo)) (by rw [hsp]; rfl) (hR _ _ _ (fj, mj, fr, to, va, iw, jk, th, ai, ot, mo) dX4_guilty_22 (by rw [hsp]))
  · obtain ⟨px, hpx, rfl⟩ := vIn_of (by omega) c5
    refine k_aload_n hJ dX4_guilty_8 0 rfl ?_
    refine k_iload_n hJ dX4_guilty_9 1 rfl ?_
    refine c_VI (As := [.int (nI px)]) (st := []) hJ (ct_X4_finders l g b (mE kf fj mj tl fr to va iw) m px hB hm (by omega)) (frS rfl) mv_X4_finders ml_X4_133 0 rfl rfl rfl (kRm_ok (by decide) (by decide)) rfl rfl (Nat.le_of_ble_eq_true rfl) dX4_guilty_10 ?_
    refine k_goto (tgt := 22) hJ dX4_guilty_13 (by decide) ?_
    have hsp : sp_guilty (m, k, kf, tp, tl, sb, sz, nu, ct) (nI px) = (nI (vFinders m px), (m, k, kf, tp, tl, sb, sz, nu, ct)) := by simp [-Nat.add_zero, sp_guilty, sp_tell, nI_l0, nI_l1, nI_l2, nI_l3, nI_l4, tN_l0, tN_l1, tN_l2, tN_l3, tN_l4, c5, nI_clamp (show px < 2 ^ 31 by omega)] <;> (repeat' (first | intro _ | refine ⟨?_, ?_⟩ | split)) <;> first | rfl | omega | (exfalso; omega)
    exact k_eqw (ws2 := modA g b (sp_guilty (m, k, kf, tp, tl, sb, sz, nu, ct) (nI px)).2 (fj, mj, fr, to, va, iw, jk, th, ai, ot, mo)) (by rw [hsp]; rfl) (hR _ _ _ (fj, mj, fr, to, va, iw, jk, th, ai, ot, mo) dX4_guilty_22 (by rw [hsp]))
set_option maxHeartbeats 4000000 in
set_option maxRecDepth 100000 in
theorem mp_now (l : Launch) (g : KG) (b : Nat → Nat) (j : MJ) (s : KS) (hs : kOk s) (x : Int32) : CT l yX4_now cX4_now 2 (some .int) (rmK 7) g [.ref (b 0), .int x] (modA g b s j) (S := MJ) oI (fun r _ => r = (sp_now s x).1) (fun j => modA g b (sp_now s x).2 j) := by
  obtain ⟨m, k, kf, tp, tl, sb, sz, nu, ct⟩ := s
  obtain ⟨fj, mj, fr, to, va, iw, jk, th, ai, ot, mo⟩ := j
  obtain ⟨hm, hk, htl, htp, hsh⟩ := hs
  have h0 : m 0 ≤ 8 := hm.1
  have h1 : m 1 ≤ 9999 := hm.2.1
  have h2 : m 2 ≤ 4 := hm.2.2.1
  have h3 : m 3 ≤ 99 := hm.2.2.2.2.1
  have hB : 9999 < 2 ^ 30 := by decide
  refine k_bodyI (by decide) (Nat.le_of_ble_eq_true rfl) (fun _ _ _ => rfl) (fun J hJ hR => ?_)
  show J (modW g b (mE kf fj mj tl fr to va iw) m th ai ct (fun i => nI ((if kf then k else jk) i)) ot tp sb sz nu mo) [(0, .ref (b 0)), (1, .int x)] 0 []
  refine k_iload_n hJ dX4_now_0 1 rfl ?_
  by_cases c1_0 : x = (0 : Int32)
  · refine r_tabIn (c := 0) (tgt := 36) hJ dX4_now_1 c1_0 (by decide) (by decide) (by decide) rfl (by decide) ?_
    refine k_aload_n hJ dX4_now_36 0 rfl ?_
    refine gf_X4_7 (v := .ref (b 1)) hJ 0 rfl rfl dX4_now_37 ?_
    refine k_iconst (v := nI 1) hJ dX4_now_40 (by decide) ?_
    refine k_iald hJ 1 rfl 1 (by omega) (by decide) rfl dX4_now_41 ?_
    have hsp : sp_now (m, k, kf, tp, tl, sb, sz, nu, ct) x = (nI (m 1), (m, k, kf, tp, tl, sb, sz, nu, ct)) := by simp [-Nat.add_zero, sp_now, sp_tell, nI_l0, nI_l1, nI_l2, nI_l3, nI_l4, tN_l0, tN_l1, tN_l2, tN_l3, tN_l4, c1_0] <;> (repeat' (first | intro _ | refine ⟨?_, ?_⟩ | split)) <;> first | rfl | omega | (exfalso; omega)
    exact k_eqw (ws2 := modA g b (sp_now (m, k, kf, tp, tl, sb, sz, nu, ct) x).2 (fj, mj, fr, to, va, iw, jk, th, ai, ot, mo)) (by rw [hsp]; rfl) (hR _ _ _ (fj, mj, fr, to, va, iw, jk, th, ai, ot, mo) dX4_now_42 (by rw [hsp]))
  by_cases c1_1 : x = (1 : Int32)
  · refine r_tabIn (c := 1) (tgt := 43) hJ dX4_now_1 c1_1 (by decide) (by decide) (by decide) rfl (by decide) ?_
    refine k_aload_n hJ dX4_now_43 0 rfl ?_
    refine gf_X4_7 (v := .ref (b 1)) hJ 0 rfl rfl dX4_now_44 ?_
    refine k_iconst (v := nI 2) hJ dX4_now_47 (by decide) ?_
    refine k_iald hJ 1 rfl 2 (by omega) (by decide) rfl dX4_now_48 ?_
    have hsp : sp_now (m, k, kf, tp, tl, sb, sz, nu, ct) x = (nI (m 2), (m, k, kf, tp, tl, sb, sz, nu, ct)) := by simp [-Nat.add_zero, sp_now, sp_tell, nI_l0, nI_l1, nI_l2, nI_l3, nI_l4, tN_l0, tN_l1, tN_l2, tN_l3, tN_l4, c1_0, c1_1] <;> (repeat' (first | intro _ | refine ⟨?_, ?_⟩ | split)) <;> first | rfl | omega | (exfalso; omega)
    exact k_eqw (ws2 := modA g b (sp_now (m, k, kf, tp, tl, sb, sz, nu, ct) x).2 (fj, mj, fr, to, va, iw, jk, th, ai, ot, mo)) (by rw [hsp]; rfl) (hR _ _ _ (fj, mj, fr, to, va, iw, jk, th, ai, ot, mo) dX4_now_49 (by rw [hsp]))
  by_cases c1_2 : x = (2 : Int32)
  · refine r_tabIn (c := 2) (tgt := 50) hJ dX4_now_1 c1_2 (by decide) (by decide) (by decide) rfl (by decide) ?_
    refine k_aload_n hJ dX4_now_50 0 rfl ?_
    refine gf_X4_7 (v := .ref (b 1)) hJ 0 rfl rfl dX4_now_51 ?_
    refine k_iconst (v := nI 3) hJ dX4_now_54 (by decide) ?_
    refine k_iald hJ 1 rfl 3 (by omega) (by decide) rfl dX4_now_55 ?_
    have hsp : sp_now (m, k, kf, tp, tl, sb, sz, nu, ct) x = (nI (m 3), (m, k, kf, tp, tl, sb, sz, nu, ct)) := by simp [-Nat.add_zero, sp_now, sp_tell, nI_l0, nI_l1, nI_l2, nI_l3, nI_l4, tN_l0, tN_l1, tN_l2, tN_l3, tN_l4, c1_0, c1_1, c1_2] <;> (repeat' (first | intro _ | refine ⟨?_, ?_⟩ | split)) <;> first | rfl | omega | (exfalso; omega)
    exact k_eqw (ws2 := modA g b (sp_now (m, k, kf, tp, tl, sb, sz, nu, ct) x).2 (fj, mj, fr, to, va, iw, jk, th, ai, ot, mo)) (by rw [hsp]; rfl) (hR _ _ _ (fj, mj, fr, to, va, iw, jk, th, ai, ot, mo) dX4_now_56 (by rw [hsp]))
  by_cases c1_3 : x = (3 : Int32)
  · refine r_tabIn (c := 3) (tgt := 57) hJ dX4_now_1 c1_3 (by decide) (by decide) (by decide) rfl (by decide) ?_
    refine k_aload_n hJ dX4_now_57 0 rfl ?_
    refine c_VI (As := []) (st := []) hJ (ct_X4_scentsAll l g b (mE kf fj mj tl fr to va iw) m  hB hm) (frS rfl) mv_X4_scentsAll ml_X4_158 0 rfl rfl rfl (kRm_ok (by decide) (by decide)) rfl rfl (Nat.le_of_ble_eq_true rfl) dX4_now_58 ?_
    have hsp : sp_now (m, k, kf, tp, tl, sb, sz, nu, ct) x = (nI (vScentsAll m), (m, k, kf, tp, tl, sb, sz, nu, ct)) := by simp [-Nat.add_zero, sp_now, sp_tell, nI_l0, nI_l1, nI_l2, nI_l3, nI_l4, tN_l0, tN_l1, tN_l2, tN_l3, tN_l4, c1_0, c1_1, c1_2, c1_3] <;> (repeat' (first | intro _ | refine ⟨?_, ?_⟩ | split)) <;> first | rfl | omega | (exfalso; omega)
    exact k_eqw (ws2 := modA g b (sp_now (m, k, kf, tp, tl, sb, sz, nu, ct) x).2 (fj, mj, fr, to, va, iw, jk, th, ai, ot, mo)) (by rw [hsp]; rfl) (hR _ _ _ (fj, mj, fr, to, va, iw, jk, th, ai, ot, mo) dX4_now_61 (by rw [hsp]))
  by_cases c1_4 : x = (4 : Int32)
  · refine r_tabIn (c := 4) (tgt := 62) hJ dX4_now_1 c1_4 (by decide) (by decide) (by decide) rfl (by decide) ?_
    refine k_aload_n hJ dX4_now_62 0 rfl ?_
    refine c_VI (As := []) (st := []) hJ (ct_X4_allGuilty l g b (mE kf fj mj tl fr to va iw) m  hB hm) (frS rfl) mv_X4_allGuilty ml_X4_162 0 rfl rfl rfl (kRm_ok (by decide) (by decide)) rfl rfl (Nat.le_of_ble_eq_true rfl) dX4_now_63 ?_
    have hsp : sp_now (m, k, kf, tp, tl, sb, sz, nu, ct) x = (nI (vGuiltyAll m), (m, k, kf, tp, tl, sb, sz, nu, ct)) := by simp [-Nat.add_zero, sp_now, sp_tell, nI_l0, nI_l1, nI_l2, nI_l3, nI_l4, tN_l0, tN_l1, tN_l2, tN_l3, tN_l4, c1_0, c1_1, c1_2, c1_3, c1_4] <;> (repeat' (first | intro _ | refine ⟨?_, ?_⟩ | split)) <;> first | rfl | omega | (exfalso; omega)
    exact k_eqw (ws2 := modA g b (sp_now (m, k, kf, tp, tl, sb, sz, nu, ct) x).2 (fj, mj, fr, to, va, iw, jk, th, ai, ot, mo)) (by rw [hsp]; rfl) (hR _ _ _ (fj, mj, fr, to, va, iw, jk, th, ai, ot, mo) dX4_now_66 (by rw [hsp]))
  refine r_tabOut (N := 5) (tgt := 67) hJ dX4_now_1 (by decide) (by decide) (fun c hc e => by rcases (show c = 0 ∨ c = 1 ∨ c = 2 ∨ c = 3 ∨ c = 4 by omega) with rfl | rfl | rfl | rfl | rfl; all_goals first | exact c1_0 e | exact c1_1 e | exact c1_2 e | exact c1_3 e | exact c1_4 e) (by decide) ?_
  refine k_aload_n hJ dX4_now_67 0 rfl ?_
  refine k_ldc hJ dX4_now_68 cw_X4_44 ?_
  refine k_eqs (st2 := [.int (kFi 0), .ref (b 0)]) (by rw [kFi_c0]) ?_
  refine c_VI (As := [.int (kFi 0)]) (st := []) hJ (ct_X4_finds l g b (mE kf fj mj tl fr to va iw) m th ai ct (fun i => nI ((if kf then k else jk) i)) ot tp sb sz nu mo 0 (by decide)) (Fr.all rfl) mv_X4_finds ml_X4_68 0 rfl rfl rfl (kRm_ok (by decide) (by decide)) rfl rfl (Nat.le_of_ble_eq_true rfl) dX4_now_70 ?_
  have hsp : sp_now (m, k, kf, tp, tl, sb, sz, nu, ct) x = (kFi 0, (m, k, kf, tp, tl, sb, sz, nu, kTe ct 0)) := by simp [-Nat.add_zero, sp_now, sp_tell, nI_l0, nI_l1, nI_l2, nI_l3, nI_l4, tN_l0, tN_l1, tN_l2, tN_l3, tN_l4, c1_0, c1_1, c1_2, c1_3, c1_4] <;> (repeat' (first | intro _ | refine ⟨?_, ?_⟩ | split)) <;> first | rfl | omega | (exfalso; omega)
  exact k_eqw (ws2 := modA g b (sp_now (m, k, kf, tp, tl, sb, sz, nu, ct) x).2 (fj, mj, fr, to, va, iw, jk, th, ai, ot, mo)) (by rw [hsp]; rfl) (hR _ _ _ (fj, mj, fr, to, va, iw, jk, th, ai, ot, mo) dX4_now_73 (by rw [hsp]))
set_option maxHeartbeats 4000000 in
set_option maxRecDepth 100000 in
theorem mp_wind (l : Launch) (g : KG) (b : Nat → Nat) (j : MJ) (s : KS) (hs : kOk s) (x : Int32) : CT l yX4_wind cX4_wind 2 (some .int) (rmK 8) g [.ref (b 0), .int x] (modA g b s j) (S := MJ) oI (fun r _ => r = (sp_wind s x).1) (fun j => modA g b (sp_wind s x).2 j) := by
  obtain ⟨m, k, kf, tp, tl, sb, sz, nu, ct⟩ := s
  obtain ⟨fj, mj, fr, to, va, iw, jk, th, ai, ot, mo⟩ := j
  obtain ⟨hm, hk, htl, htp, hsh⟩ := hs
  have h0 : m 0 ≤ 8 := hm.1
  have h1 : m 1 ≤ 9999 := hm.2.1
  have h2 : m 2 ≤ 4 := hm.2.2.1
  have h3 : m 3 ≤ 99 := hm.2.2.2.2.1
  have hB : 9999 < 2 ^ 30 := by decide
  refine k_bodyI (by decide) (Nat.le_of_ble_eq_true rfl) (fun _ _ _ => rfl) (fun J hJ hR => ?_)
  show J (modW g b (mE kf fj mj tl fr to va iw) m th ai ct (fun i => nI ((if kf then k else jk) i)) ot tp sb sz nu mo) [(0, .ref (b 0)), (1, .int x)] 0 []
  refine k_aload_n hJ dX4_wind_0 0 rfl ?_
  refine k_iload_n hJ dX4_wind_1 1 rfl ?_
  refine c_VI (As := [.int x]) (st := []) hJ (ct_X4_isPerson l g b (mE kf fj mj tl fr to va iw) m x (by omega)) (frS rfl) mv_X4_isPerson ml_X4_51 0 rfl rfl rfl (kRm_ok (by decide) (by decide)) rfl rfl (Nat.le_of_ble_eq_true rfl) dX4_wind_2 ?_
  refine b_if_eq (tgt := 18) hJ dX4_wind_5 (by decide) (fun c5 => ?_) (fun c5 => ?_)
  · refine k_aload_n hJ dX4_wind_18 0 rfl ?_
    refine k_ldc hJ dX4_wind_19 cw_X4_44 ?_
    refine k_eqs (st2 := [.int (kFi 0), .ref (b 0)]) (by rw [kFi_c0]) ?_
    refine c_VI (As := [.int (kFi 0)]) (st := []) hJ (ct_X4_finds l g b (mE kf fj mj tl fr to va iw) m th ai ct (fun i => nI ((if kf then k else jk) i)) ot tp sb sz nu mo 0 (by decide)) (Fr.all rfl) mv_X4_finds ml_X4_68 0 rfl rfl rfl (kRm_ok (by decide) (by decide)) rfl rfl (Nat.le_of_ble_eq_true rfl) dX4_wind_21 ?_
    have hsp : sp_wind (m, k, kf, tp, tl, sb, sz, nu, ct) x = (kFi 0, (m, k, kf, tp, tl, sb, sz, nu, kTe ct 0)) := by simp [-Nat.add_zero, sp_wind, sp_tell, nI_l0, nI_l1, nI_l2, nI_l3, nI_l4, tN_l0, tN_l1, tN_l2, tN_l3, tN_l4, c5] <;> (repeat' (first | intro _ | refine ⟨?_, ?_⟩ | split)) <;> first | rfl | omega | (exfalso; omega)
    exact k_eqw (ws2 := modA g b (sp_wind (m, k, kf, tp, tl, sb, sz, nu, ct) x).2 (fj, mj, fr, to, va, iw, jk, th, ai, ot, mo)) (by rw [hsp]; rfl) (hR _ _ _ (fj, mj, fr, to, va, iw, jk, th, ai, ot, mo) dX4_wind_24 (by rw [hsp]))
  · obtain ⟨px, hpx, rfl⟩ := vIn_of (by omega) c5
    refine k_aload_n hJ dX4_wind_8 0 rfl ?_
    refine k_iconst (v := nI 2) hJ dX4_wind_9 (by decide) ?_
    refine k_iconst (v := nI 5) hJ dX4_wind_10 (by decide) ?_
    refine k_iload_n hJ dX4_wind_11 1 rfl ?_
    refine c_VI (As := [.int (nI 2), .int (nI 5), .int (nI px)]) (st := []) hJ (ct_X4_leastBy l g b (mE kf fj mj tl fr to va iw) m 2 5 px hB (fun v hv => vOk_wind hm (by omega)) (by omega) (by omega) (by omega)) (frS rfl) mv_X4_leastBy ml_X4_174 0 rfl rfl rfl (kRm_ok (by decide) (by decide)) rfl rfl (Nat.le_of_ble_eq_true rfl) dX4_wind_12 ?_
    refine k_goto (tgt := 24) hJ dX4_wind_15 (by decide) ?_
    have hsp : sp_wind (m, k, kf, tp, tl, sb, sz, nu, ct) (nI px) = (nI ((vLst m 2 px 5).1), (m, k, kf, tp, tl, sb, sz, nu, ct)) := by simp [-Nat.add_zero, sp_wind, sp_tell, nI_l0, nI_l1, nI_l2, nI_l3, nI_l4, tN_l0, tN_l1, tN_l2, tN_l3, tN_l4, c5, nI_clamp (show px < 2 ^ 31 by omega)] <;> (repeat' (first | intro _ | refine ⟨?_, ?_⟩ | split)) <;> first | rfl | omega | (exfalso; omega)
    exact k_eqw (ws2 := modA g b (sp_wind (m, k, kf, tp, tl, sb, sz, nu, ct) (nI px)).2 (fj, mj, fr, to, va, iw, jk, th, ai, ot, mo)) (by rw [hsp]; rfl) (hR _ _ _ (fj, mj, fr, to, va, iw, jk, th, ai, ot, mo) dX4_wind_24 (by rw [hsp]))
set_option maxHeartbeats 4000000 in
set_option maxRecDepth 100000 in
theorem mp_seat (l : Launch) (g : KG) (b : Nat → Nat) (j : MJ) (s : KS) (hs : kOk s) (x : Int32) : CT l yX4_seat cX4_seat 2 (some .int) (rmK 8) g [.ref (b 0), .int x] (modA g b s j) (S := MJ) oI (fun r _ => r = (sp_seat s x).1) (fun j => modA g b (sp_seat s x).2 j) := by
  obtain ⟨m, k, kf, tp, tl, sb, sz, nu, ct⟩ := s
  obtain ⟨fj, mj, fr, to, va, iw, jk, th, ai, ot, mo⟩ := j
  obtain ⟨hm, hk, htl, htp, hsh⟩ := hs
  have h0 : m 0 ≤ 8 := hm.1
  have h1 : m 1 ≤ 9999 := hm.2.1
  have h2 : m 2 ≤ 4 := hm.2.2.1
  have h3 : m 3 ≤ 99 := hm.2.2.2.2.1
  have hB : 9999 < 2 ^ 30 := by decide
  refine k_bodyI (by decide) (Nat.le_of_ble_eq_true rfl) (fun _ _ _ => rfl) (fun J hJ hR => ?_)
  show J (modW g b (mE kf fj mj tl fr to va iw) m th ai ct (fun i => nI ((if kf then k else jk) i)) ot tp sb sz nu mo) [(0, .ref (b 0)), (1, .int x)] 0 []
  refine k_aload_n hJ dX4_seat_0 0 rfl ?_
  refine k_iload_n hJ dX4_seat_1 1 rfl ?_
  refine c_VI (As := [.int x]) (st := []) hJ (ct_X4_isPerson l g b (mE kf fj mj tl fr to va iw) m x (by omega)) (frS rfl) mv_X4_isPerson ml_X4_51 0 rfl rfl rfl (kRm_ok (by decide) (by decide)) rfl rfl (Nat.le_of_ble_eq_true rfl) dX4_seat_2 ?_
  refine b_if_eq (tgt := 23) hJ dX4_seat_5 (by decide) (fun c5 => ?_) (fun c5 => ?_)
  · refine k_aload_n hJ dX4_seat_23 0 rfl ?_
    refine k_ldc hJ dX4_seat_24 cw_X4_44 ?_
    refine k_eqs (st2 := [.int (kFi 0), .ref (b 0)]) (by rw [kFi_c0]) ?_
    refine c_VI (As := [.int (kFi 0)]) (st := []) hJ (ct_X4_finds l g b (mE kf fj mj tl fr to va iw) m th ai ct (fun i => nI ((if kf then k else jk) i)) ot tp sb sz nu mo 0 (by decide)) (Fr.all rfl) mv_X4_finds ml_X4_68 0 rfl rfl rfl (kRm_ok (by decide) (by decide)) rfl rfl (Nat.le_of_ble_eq_true rfl) dX4_seat_26 ?_
    have hsp : sp_seat (m, k, kf, tp, tl, sb, sz, nu, ct) x = (kFi 0, (m, k, kf, tp, tl, sb, sz, nu, kTe ct 0)) := by simp [-Nat.add_zero, sp_seat, sp_tell, nI_l0, nI_l1, nI_l2, nI_l3, nI_l4, tN_l0, tN_l1, tN_l2, tN_l3, tN_l4, c5] <;> (repeat' (first | intro _ | refine ⟨?_, ?_⟩ | split)) <;> first | rfl | omega | (exfalso; omega)
    exact k_eqw (ws2 := modA g b (sp_seat (m, k, kf, tp, tl, sb, sz, nu, ct) x).2 (fj, mj, fr, to, va, iw, jk, th, ai, ot, mo)) (by rw [hsp]; rfl) (hR _ _ _ (fj, mj, fr, to, va, iw, jk, th, ai, ot, mo) dX4_seat_29 (by rw [hsp]))
  · obtain ⟨px, hpx, rfl⟩ := vIn_of (by omega) c5
    refine k_aload_n hJ dX4_seat_8 0 rfl ?_
    refine k_iload_n hJ dX4_seat_9 1 rfl ?_
    refine k_iconst (v := nI 1) hJ dX4_seat_10 (by decide) ?_
    refine c_SI (As := [.int (nI px), .int (nI 1)]) (st := [.ref (b 0)]) hJ (ct_X4_spot l g px 1 ) Fr.none ms_X4_spot ml_X4_57 (kRm_ok (by decide) (by decide)) rfl rfl (Nat.le_of_ble_eq_true rfl) dX4_seat_11 ?_
    refine k_bipush (v := nI 48) hJ dX4_seat_14 (by decide) ?_
    refine k_iload_n hJ dX4_seat_16 1 rfl ?_
    refine c_VI (As := [.int (nI (4 + 10 * px + 1)), .int (nI 48), .int (nI px)]) (st := []) hJ (ct_X4_leastBy l g b (mE kf fj mj tl fr to va iw) m (4 + 10 * px + 1) 48 px hB (fun v hv => vOk_pl hm px (by omega)) (by omega) (by omega) (by omega)) (frS rfl) mv_X4_leastBy ml_X4_174 0 rfl rfl rfl (kRm_ok (by decide) (by decide)) rfl rfl (Nat.le_of_ble_eq_true rfl) dX4_seat_17 ?_
    refine k_goto (tgt := 29) hJ dX4_seat_20 (by decide) ?_
    have hsp : sp_seat (m, k, kf, tp, tl, sb, sz, nu, ct) (nI px) = (nI ((vLst m (4 + 10 * px + 1) px 48).1), (m, k, kf, tp, tl, sb, sz, nu, ct)) := by simp [-Nat.add_zero, sp_seat, sp_tell, nI_l0, nI_l1, nI_l2, nI_l3, nI_l4, tN_l0, tN_l1, tN_l2, tN_l3, tN_l4, c5, nI_clamp (show px < 2 ^ 31 by omega)] <;> (repeat' (first | intro _ | refine ⟨?_, ?_⟩ | split)) <;> first | rfl | omega | (exfalso; omega)
    exact k_eqw (ws2 := modA g b (sp_seat (m, k, kf, tp, tl, sb, sz, nu, ct) (nI px)).2 (fj, mj, fr, to, va, iw, jk, th, ai, ot, mo)) (by rw [hsp]; rfl) (hR _ _ _ (fj, mj, fr, to, va, iw, jk, th, ai, ot, mo) dX4_seat_29 (by rw [hsp]))
set_option maxHeartbeats 4000000 in
set_option maxRecDepth 100000 in
theorem mp_kind (l : Launch) (g : KG) (b : Nat → Nat) (j : MJ) (s : KS) (hs : kOk s) (x : Int32) : CT l yX4_kind cX4_kind 2 (some .int) (rmK 8) g [.ref (b 0), .int x] (modA g b s j) (S := MJ) oI (fun r _ => r = (sp_kind s x).1) (fun j => modA g b (sp_kind s x).2 j) := by
  obtain ⟨m, k, kf, tp, tl, sb, sz, nu, ct⟩ := s
  obtain ⟨fj, mj, fr, to, va, iw, jk, th, ai, ot, mo⟩ := j
  obtain ⟨hm, hk, htl, htp, hsh⟩ := hs
  have h0 : m 0 ≤ 8 := hm.1
  have h1 : m 1 ≤ 9999 := hm.2.1
  have h2 : m 2 ≤ 4 := hm.2.2.1
  have h3 : m 3 ≤ 99 := hm.2.2.2.2.1
  have hB : 9999 < 2 ^ 30 := by decide
  refine k_bodyI (by decide) (Nat.le_of_ble_eq_true rfl) (fun _ _ _ => rfl) (fun J hJ hR => ?_)
  show J (modW g b (mE kf fj mj tl fr to va iw) m th ai ct (fun i => nI ((if kf then k else jk) i)) ot tp sb sz nu mo) [(0, .ref (b 0)), (1, .int x)] 0 []
  refine k_aload_n hJ dX4_kind_0 0 rfl ?_
  refine k_iload_n hJ dX4_kind_1 1 rfl ?_
  refine c_VI (As := [.int x]) (st := []) hJ (ct_X4_isPerson l g b (mE kf fj mj tl fr to va iw) m x (by omega)) (frS rfl) mv_X4_isPerson ml_X4_51 0 rfl rfl rfl (kRm_ok (by decide) (by decide)) rfl rfl (Nat.le_of_ble_eq_true rfl) dX4_kind_2 ?_
  refine b_if_eq (tgt := 23) hJ dX4_kind_5 (by decide) (fun c5 => ?_) (fun c5 => ?_)
  · refine k_aload_n hJ dX4_kind_23 0 rfl ?_
    refine k_ldc hJ dX4_kind_24 cw_X4_44 ?_
    refine k_eqs (st2 := [.int (kFi 0), .ref (b 0)]) (by rw [kFi_c0]) ?_
    refine c_VI (As := [.int (kFi 0)]) (st := []) hJ (ct_X4_finds l g b (mE kf fj mj tl fr to va iw) m th ai ct (fun i => nI ((if kf then k else jk) i)) ot tp sb sz nu mo 0 (by decide)) (Fr.all rfl) mv_X4_finds ml_X4_68 0 rfl rfl rfl (kRm_ok (by decide) (by decide)) rfl rfl (Nat.le_of_ble_eq_true rfl) dX4_kind_26 ?_
    have hsp : sp_kind (m, k, kf, tp, tl, sb, sz, nu, ct) x = (kFi 0, (m, k, kf, tp, tl, sb, sz, nu, kTe ct 0)) := by simp [-Nat.add_zero, sp_kind, sp_tell, nI_l0, nI_l1, nI_l2, nI_l3, nI_l4, tN_l0, tN_l1, tN_l2, tN_l3, tN_l4, c5] <;> (repeat' (first | intro _ | refine ⟨?_, ?_⟩ | split)) <;> first | rfl | omega | (exfalso; omega)
    exact k_eqw (ws2 := modA g b (sp_kind (m, k, kf, tp, tl, sb, sz, nu, ct) x).2 (fj, mj, fr, to, va, iw, jk, th, ai, ot, mo)) (by rw [hsp]; rfl) (hR _ _ _ (fj, mj, fr, to, va, iw, jk, th, ai, ot, mo) dX4_kind_29 (by rw [hsp]))
  · obtain ⟨px, hpx, rfl⟩ := vIn_of (by omega) c5
    refine k_aload_n hJ dX4_kind_8 0 rfl ?_
    refine k_iload_n hJ dX4_kind_9 1 rfl ?_
    refine k_iconst (v := nI 0) hJ dX4_kind_10 (by decide) ?_
    refine c_SI (As := [.int (nI px), .int (nI 0)]) (st := [.ref (b 0)]) hJ (ct_X4_spot l g px 0 ) Fr.none ms_X4_spot ml_X4_57 (kRm_ok (by decide) (by decide)) rfl rfl (Nat.le_of_ble_eq_true rfl) dX4_kind_11 ?_
    refine k_bipush (v := nI 6) hJ dX4_kind_14 (by decide) ?_
    refine k_iload_n hJ dX4_kind_16 1 rfl ?_
    refine c_VI (As := [.int (nI (4 + 10 * px + 0)), .int (nI 6), .int (nI px)]) (st := []) hJ (ct_X4_leastBy l g b (mE kf fj mj tl fr to va iw) m (4 + 10 * px + 0) 6 px hB (fun v hv => vOk_kd hm px (by omega)) (by omega) (by omega) (by omega)) (frS rfl) mv_X4_leastBy ml_X4_174 0 rfl rfl rfl (kRm_ok (by decide) (by decide)) rfl rfl (Nat.le_of_ble_eq_true rfl) dX4_kind_17 ?_
    refine k_goto (tgt := 29) hJ dX4_kind_20 (by decide) ?_
    have hsp : sp_kind (m, k, kf, tp, tl, sb, sz, nu, ct) (nI px) = (nI ((vLst m (4 + 10 * px + 0) px 6).1), (m, k, kf, tp, tl, sb, sz, nu, ct)) := by simp [-Nat.add_zero, sp_kind, sp_tell, nI_l0, nI_l1, nI_l2, nI_l3, nI_l4, tN_l0, tN_l1, tN_l2, tN_l3, tN_l4, c5, nI_clamp (show px < 2 ^ 31 by omega)] <;> (repeat' (first | intro _ | refine ⟨?_, ?_⟩ | split)) <;> first | rfl | omega | (exfalso; omega)
    exact k_eqw (ws2 := modA g b (sp_kind (m, k, kf, tp, tl, sb, sz, nu, ct) (nI px)).2 (fj, mj, fr, to, va, iw, jk, th, ai, ot, mo)) (by rw [hsp]; rfl) (hR _ _ _ (fj, mj, fr, to, va, iw, jk, th, ai, ot, mo) dX4_kind_29 (by rw [hsp]))
