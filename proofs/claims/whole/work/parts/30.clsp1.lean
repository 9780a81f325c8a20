/-- two halls alike but for scents of other deeds than d -/
def vSm (d : Nat) (m q : Nat → Nat) : Prop := ∀ j, ¬ (4 ≤ j ∧ 4 ≤ (j - 4) % 10 ∧ (j - 4) % 10 ≠ 4 + d) → m j = q j
theorem vSm_max {d : Nat} {m q : Nat → Nat} (h : vSm d m q) (hd : d < 6) (p : Nat) : ∀ n, vMax m p d n = vMax q p d n
  | 0 => rfl
  | n + 1 => by
    rw [vMax, vMax, vSm_max h hd p n, show vPl m n = vPl q n from h _ (by omega), show vPl m p = vPl q p from h _ (by omega), show vSc m n d = vSc q n d from h _ (by omega)]
theorem vSm_new {d : Nat} {m q : Nat → Nat} (h : vSm d m q) (hd : d < 6) (p : Nat) : vNew m p d = vNew q p d := by
  unfold vNew
  rw [show m 0 = q 0 from h _ (by omega), vSm_max h hd p, show vSc m p d = vSc q p d from h _ (by omega)]
theorem vSm_hour {d : Nat} {m q : Nat → Nat} (h : vSm d m q) (hd : d < 6) : vSm d (vHourFor m d) (vHour q) := by
  intro j hj
  unfold vHourFor vHour
  by_cases e : j = 1
  · rw [vUp_eq e, vUp_eq e, h 1 (by omega)]
  · rw [vUp_ne e, vUp_ne e]
    unfold vRow vRows
    rw [show m 0 = q 0 from h _ (by omega)]
    by_cases c : 4 ≤ j ∧ (j - 4) % 10 = 4 + d ∧ (j - 4) / 10 < q 0
    · rw [if_pos c, if_pos (by omega), vSm_new h hd, show (j - 4) % 10 - 4 = d by omega]
    · rw [if_neg c, if_neg (by omega)]
      exact h j hj
theorem vSm_iter {d : Nat} (m : Nat → Nat) (hd : d < 6) : ∀ n, vSm d (vIter (fun x => vHourFor x d) n m) (vIter vHour n m)
  | 0 => fun _ _ => rfl
  | n + 1 => vSm_hour (vSm_iter m hd n) hd
theorem vSm_smell {d : Nat} {m q : Nat → Nat} (h : vSm d m q) (hd : d < 6) (p o : Nat) : vSmell m p o d = vSmell q p o d := by
  have e0 : ∀ x c, c < 4 → m (4 + 10 * x + c) = q (4 + 10 * x + c) := fun x c hc => h _ (by omega)
  have e1 : vGives m o d = vGives q o d := by
    unfold vGives
    simp only [vKd, vSc]
    rw [e0 o 0 (by omega), show m (4 + 10 * o + (4 + d)) = q (4 + 10 * o + (4 + d)) from h _ (by omega), h 1 (by omega)]
  unfold vSmell vSense
  simp only [vPl, vKd, vNs, vCd]
  rw [e1, h 2 (by omega), e0 p 0 (by omega), e0 p 1 (by omega), e0 p 2 (by omega), e0 p 3 (by omega), e0 o 1 (by omega)]
theorem vOk_iterFor {B : Nat} {m : Nat → Nat} (h : vOk B m) {d : Nat} (hd : d < 6) : ∀ n, vOk (B + n) (vIter (fun x => vHourFor x d) n m)
  | 0 => h
  | n + 1 => vOk_hourFor (vOk_iterFor h hd n) hd
theorem vMt_lo {m : Nat → Nat} {p o d : Nat} (hn : p ≠ o) (hp : p < 8) (ho : o < 8) (hd : d < 6) : vMt m p o (d + 1) = vUp (vUp (vMt m p o d) (4 + 10 * p + (4 + d)) (max (m (4 + 10 * p + (4 + d))) (max (m (4 + 10 * p + (4 + d))) (m (4 + 10 * o + (4 + d))) / 2))) (4 + 10 * o + (4 + d)) (max (m (4 + 10 * o + (4 + d))) (max (m (4 + 10 * p + (4 + d))) (m (4 + 10 * o + (4 + d))) / 2)) := (vMt_step hn hp ho hd).symm
theorem vUp_same {m : Nat → Nat} {k v : Nat} (h : m k = v) : vUp m k v = m := by rw [← h, vUp_id]
set_option maxHeartbeats 4000000 in
set_option maxRecDepth 100000 in
theorem cp_hours (l : Launch) (g : KG) (a aK aL aT : Nat → Nat) (j : CJ) (s : KS) (hs : kOk s) (x : Int32) : CT l yX3_hours cX3_hours 3 (some .int) (rmK 4) g [.ref (a 0), .int x] (clsA g a aK aL aT s j) (S := CJ) oI (fun r _ => r = (sp_hours s x).1) (fun j => clsA g a aK aL aT (sp_hours s x).2 j) := by
  obtain ⟨m, k, kf, tp, tl, sb, sz, nu, ct⟩ := s
  obtain ⟨jk, lk, lm, t, lt, nx, tk, sr, va⟩ := j
  obtain ⟨hm, hk, htl, htp, hsh⟩ := hs
  have h0 : m 0 ≤ 8 := hm.1
  have h1 : m 1 ≤ 9999 := hm.2.1
  have h2 : m 2 ≤ 4 := hm.2.2.1
  have h3 : m 3 ≤ 99 := hm.2.2.2.2.1
  have hB : 9999 < 2 ^ 30 := by decide
  refine k_bodyI (by decide) (Nat.le_of_ble_eq_true rfl) (fun _ _ _ => rfl) (fun J hJ hR => ?_)
  show J (clsW g a aK aL aT kf ct (if kf then k else jk) lk m lm t lt tp tl nx tk sr va sb sz nu) [(0, .ref (a 0)), (1, .int x)] 0 []
  refine k_iload_n hJ dX3_hours_0 1 rfl ?_
  refine k_iconst (v := nI 1) hJ dX3_hours_1 (by decide) ?_
  refine k_bipush (v := nI 60) hJ dX3_hours_2 (by decide) ?_
  refine c_SI (As := [.int x, .int (nI 1), .int (nI 60)]) (st := []) hJ (ct_X3_within l g x 1 60) Fr.none ms_X3_within ml_X3_44 (kRm_ok (by decide) (by decide)) rfl rfl (Nat.le_of_ble_eq_true rfl) dX3_hours_4 ?_
  refine b_if_ne (tgt := 17) hJ dX3_hours_7 (by decide) (fun c7 => ?_) (fun c7 => ?_)
  · obtain ⟨px, hlx, hpx, rfl⟩ := vBt_of (by omega) (by first | omega | (have := Nat.pow_le_pow_right (show 0 < 2 by decide) h0; omega)) c7
    refine k_aload_n hJ dX3_hours_17 0 rfl ?_
    refine gf_X3_10 (v := .ref (aL 0)) hJ 0 rfl rfl dX3_hours_18 ?_
    refine gf_X3_142 (v := .int (nI (m 1))) hJ 15 rfl rfl dX3_hours_21 ?_
    refine k_iload_n hJ dX3_hours_24 1 rfl ?_
    refine n_iadd hJ dX3_hours_25 ?_
    refine k_sipush (v := nI 9999) hJ dX3_hours_26 (by decide) ?_
    refine n_icmp_le (tgt := 39) hJ dX3_hours_29 (by decide) (by omega) (by omega) (fun c29 => ?_) (fun c29 => ?_)
    · refine k_iconst (v := nI 0) hJ dX3_hours_39 (by decide) ?_
      refine k_istore_n (lv1 := [(0, .ref (a 0)), (1, .int (nI px)), (2, .int (nI 0))]) hJ dX3_hours_40 (by decide) [1, 2, 0] rfl ?_
      have L41 : ∀ (fu : Nat) (i : Nat) (L : Nat → Int32), (i ≤ px) → (px + 1 ≤ i + fu) → J (clsW g a aK aL aT kf ct (if kf then k else jk) lk (vIter vHour i m) L t lt tp tl nx tk sr va sb sz nu) [(0, .ref (a 0)), (1, .int (nI px)), (2, .int (nI i))] 41 [] := by
        intro fu
        induction fu with
        | zero => intro i L hi hf; exfalso; omega
        | succ fu ih =>
          intro i L hi hf
          refine k_iload_n hJ dX3_hours_41 2 rfl ?_
          refine k_iload_n hJ dX3_hours_42 1 rfl ?_
          refine n_icmp_ge (tgt := 59) hJ dX3_hours_43 (by decide) (by omega) (by omega) (fun c43 => ?_) (fun c43 => ?_)
          · refine k_aload_n hJ dX3_hours_59 0 rfl ?_
            refine gf_X3_10 (v := .ref (aL 0)) hJ 0 rfl rfl dX3_hours_60 ?_
            refine c_VI (As := []) (st := []) hJ (ct_X0_scentsOfAll l g aL (vIter vHour i m) L (show 9999 + i < 2 ^ 30 by omega) (vOk_iter hm i)) cls_frL mv_X0_scentsOfAll ml_X3_148 15 rfl rfl rfl (kRm_ok (by decide) (by decide)) rfl rfl (Nat.le_of_ble_eq_true rfl) dX3_hours_63 ?_
            have hi6 : i = px := by omega
            subst hi6
            have hsp : sp_hours (m, k, kf, tp, tl, sb, sz, nu, ct) (nI i) = (nI (vScentsAll (vIter vHour i m)), (vIter vHour i m, k, kf, tp, tl, sb, sz, nu, ct)) := by simp [-Nat.add_zero, sp_hours, sp_tell, nI_l0, nI_l1, nI_l2, nI_l3, nI_l4, tN_l0, tN_l1, tN_l2, tN_l3, tN_l4, c7, nI_clamp (show i < 2 ^ 31 by omega)] <;> (repeat' (first | intro _ | refine ⟨?_, ?_⟩ | split)) <;> first | rfl | omega | (exfalso; omega)
            exact k_eqw (ws2 := clsA g a aK aL aT (sp_hours (m, k, kf, tp, tl, sb, sz, nu, ct) (nI i)).2 (jk, lk, L, t, lt, nx, tk, sr, va)) (by rw [hsp]; rfl) (hR _ _ _ (jk, lk, L, t, lt, nx, tk, sr, va) dX3_hours_66 (by rw [hsp]))
          · refine k_aload_n hJ dX3_hours_46 0 rfl ?_
            refine gf_X3_10 (v := .ref (aL 0)) hJ 0 rfl rfl dX3_hours_47 ?_
            refine k_callV (As := []) (st := []) hJ (ct_X0_hourGoes l g aL (vIter vHour i m) L (show 9999 + i < 2 ^ 30 by omega) (vOk_iter hm i)) (fun _ => cls_frL) mv_X0_hourGoes ml_X3_145 15 rfl rfl rfl (kRm_ok (by decide) (by decide)) rfl rfl (Nat.le_of_ble_eq_true rfl) dX3_hours_50 (fun _ u _ => ?_)
            refine n_iinc (b := 1) (lv1 := [(0, .ref (a 0)), (1, .int (nI px)), (2, .int (nI (i + 1)))]) hJ dX3_hours_53 2 rfl (by decide) (by decide) [1, 2, 0] rfl ?_
            refine k_goto (tgt := 41) hJ dX3_hours_56 (by decide) ?_
            exact ih (i + 1) u (by omega) (by omega)
      exact L41 (px + 1) 0 lm (by omega) (by omega)
    · refine k_aload_n hJ dX3_hours_32 0 rfl ?_
      refine k_ldc hJ dX3_hours_33 cw_X3_138 ?_
      refine k_eqs (st2 := [.int (kFi 4), .ref (a 0)]) (by rw [kFi_c4]) ?_
      refine c_VI (As := [.int (kFi 4)]) (st := []) hJ (ct_X3_tell l g a aK aL aT kf ct 4 (by decide)) cls_frX mv_X3_tell ml_X3_56 0 rfl rfl rfl (kRm_ok (by decide) (by decide)) rfl rfl (Nat.le_of_ble_eq_true rfl) dX3_hours_35 ?_
      have hsp : sp_hours (m, k, kf, tp, tl, sb, sz, nu, ct) (nI px) = (kFi 4, (m, k, kf, tp, tl, sb, sz, nu, kTe ct 4)) := by simp [-Nat.add_zero, sp_hours, sp_tell, nI_l0, nI_l1, nI_l2, nI_l3, nI_l4, tN_l0, tN_l1, tN_l2, tN_l3, tN_l4, c7, nI_clamp (show px < 2 ^ 31 by omega)] <;> (repeat' (first | intro _ | refine ⟨?_, ?_⟩ | split)) <;> first | rfl | omega | (exfalso; omega)
      exact k_eqw (ws2 := clsA g a aK aL aT (sp_hours (m, k, kf, tp, tl, sb, sz, nu, ct) (nI px)).2 (jk, lk, lm, t, lt, nx, tk, sr, va)) (by rw [hsp]; rfl) (hR _ _ _ (jk, lk, lm, t, lt, nx, tk, sr, va) dX3_hours_38 (by rw [hsp]))
  · refine k_aload_n hJ dX3_hours_10 0 rfl ?_
    refine k_ldc hJ dX3_hours_11 cw_X3_55 ?_
    refine k_eqs (st2 := [.int (kFi 0), .ref (a 0)]) (by rw [kFi_c0]) ?_
    refine c_VI (As := [.int (kFi 0)]) (st := []) hJ (ct_X3_tell l g a aK aL aT kf ct 0 (by decide)) cls_frX mv_X3_tell ml_X3_56 0 rfl rfl rfl (kRm_ok (by decide) (by decide)) rfl rfl (Nat.le_of_ble_eq_true rfl) dX3_hours_13 ?_
    have hsp : sp_hours (m, k, kf, tp, tl, sb, sz, nu, ct) x = (kFi 0, (m, k, kf, tp, tl, sb, sz, nu, kTe ct 0)) := by simp [-Nat.add_zero, sp_hours, sp_tell, nI_l0, nI_l1, nI_l2, nI_l3, nI_l4, tN_l0, tN_l1, tN_l2, tN_l3, tN_l4, c7] <;> (repeat' (first | intro _ | refine ⟨?_, ?_⟩ | split)) <;> first | rfl | omega | (exfalso; omega)
    exact k_eqw (ws2 := clsA g a aK aL aT (sp_hours (m, k, kf, tp, tl, sb, sz, nu, ct) x).2 (jk, lk, lm, t, lt, nx, tk, sr, va)) (by rw [hsp]; rfl) (hR _ _ _ (jk, lk, lm, t, lt, nx, tk, sr, va) dX3_hours_16 (by rw [hsp]))
set_option maxHeartbeats 4000000 in
set_option maxRecDepth 100000 in
theorem cp_on (l : Launch) (g : KG) (a aK aL aT : Nat → Nat) (j : CJ) (s : KS) (hs : kOk s) (x : Int32) (y : Int32) (z : Int32) : CT l yX3_on cX3_on 5 (some .int) (rmK 4) g [.ref (a 0), .int x, .int y, .int z] (clsA g a aK aL aT s j) (S := CJ) oI (fun r _ => r = (sp_on s x y z).1) (fun j => clsA g a aK aL aT (sp_on s x y z).2 j) := by
  obtain ⟨m, k, kf, tp, tl, sb, sz, nu, ct⟩ := s
  obtain ⟨jk, lk, lm, t, lt, nx, tk, sr, va⟩ := j
  obtain ⟨hm, hk, htl, htp, hsh⟩ := hs
  have h0 : m 0 ≤ 8 := hm.1
  have h1 : m 1 ≤ 9999 := hm.2.1
  have h2 : m 2 ≤ 4 := hm.2.2.1
  have h3 : m 3 ≤ 99 := hm.2.2.2.2.1
  have hB : 9999 < 2 ^ 30 := by decide
  refine k_bodyI (by decide) (Nat.le_of_ble_eq_true rfl) (fun _ _ _ => rfl) (fun J hJ hR => ?_)
  show J (clsW g a aK aL aT kf ct (if kf then k else jk) lk m lm t lt tp tl nx tk sr va sb sz nu) [(0, .ref (a 0)), (1, .int x), (2, .int y), (3, .int z)] 0 []
  refine k_aload_n hJ dX3_on_0 0 rfl ?_
  refine gf_X3_10 (v := .ref (aL 0)) hJ 0 rfl rfl dX3_on_1 ?_
  refine k_iload_n hJ dX3_on_4 1 rfl ?_
  refine c_VI (As := [.int x]) (st := []) hJ (ct_X0_has l g aL m lm x ) cls_frL mv_X0_has ml_X3_75 15 rfl rfl rfl (kRm_ok (by decide) (by decide)) rfl rfl (Nat.le_of_ble_eq_true rfl) dX3_on_5 ?_
  refine b_if_eq (tgt := 28) hJ dX3_on_8 (by decide) (fun c8 => ?_) (fun c8 => ?_)
  · refine k_aload_n hJ dX3_on_28 0 rfl ?_
    refine k_ldc hJ dX3_on_29 cw_X3_55 ?_
    refine k_eqs (st2 := [.int (kFi 0), .ref (a 0)]) (by rw [kFi_c0]) ?_
    refine c_VI (As := [.int (kFi 0)]) (st := []) hJ (ct_X3_tell l g a aK aL aT kf ct 0 (by decide)) cls_frX mv_X3_tell ml_X3_56 0 rfl rfl rfl (kRm_ok (by decide) (by decide)) rfl rfl (Nat.le_of_ble_eq_true rfl) dX3_on_31 ?_
    have hsp : sp_on (m, k, kf, tp, tl, sb, sz, nu, ct) x y z = (kFi 0, (m, k, kf, tp, tl, sb, sz, nu, kTe ct 0)) := by simp [-Nat.add_zero, sp_on, sp_tell, nI_l0, nI_l1, nI_l2, nI_l3, nI_l4, tN_l0, tN_l1, tN_l2, tN_l3, tN_l4, c8] <;> (repeat' (first | intro _ | refine ⟨?_, ?_⟩ | split)) <;> first | rfl | omega | (exfalso; omega)
    exact k_eqw (ws2 := clsA g a aK aL aT (sp_on (m, k, kf, tp, tl, sb, sz, nu, ct) x y z).2 (jk, lk, lm, t, lt, nx, tk, sr, va)) (by rw [hsp]; rfl) (hR _ _ _ (jk, lk, lm, t, lt, nx, tk, sr, va) dX3_on_34 (by rw [hsp]))
  · obtain ⟨px, hpx, rfl⟩ := vIn_of (by omega) c8
    refine k_iload_n hJ dX3_on_11 2 rfl ?_
    refine c_SI (As := [.int y]) (st := []) hJ (ct_X3_isDeed l g y) Fr.none ms_X3_isDeed ml_X3_100 (kRm_ok (by decide) (by decide)) rfl rfl (Nat.le_of_ble_eq_true rfl) dX3_on_12 ?_
    refine b_if_eq (tgt := 28) hJ dX3_on_15 (by decide) (fun c15 => ?_) (fun c15 => ?_)
    · refine k_aload_n hJ dX3_on_28 0 rfl ?_
      refine k_ldc hJ dX3_on_29 cw_X3_55 ?_
      refine k_eqs (st2 := [.int (kFi 0), .ref (a 0)]) (by rw [kFi_c0]) ?_
      refine c_VI (As := [.int (kFi 0)]) (st := []) hJ (ct_X3_tell l g a aK aL aT kf ct 0 (by decide)) cls_frX mv_X3_tell ml_X3_56 0 rfl rfl rfl (kRm_ok (by decide) (by decide)) rfl rfl (Nat.le_of_ble_eq_true rfl) dX3_on_31 ?_
      have hsp : sp_on (m, k, kf, tp, tl, sb, sz, nu, ct) (nI px) y z = (kFi 0, (m, k, kf, tp, tl, sb, sz, nu, kTe ct 0)) := by simp [-Nat.add_zero, sp_on, sp_tell, nI_l0, nI_l1, nI_l2, nI_l3, nI_l4, tN_l0, tN_l1, tN_l2, tN_l3, tN_l4, c8, c15, nI_clamp (show px < 2 ^ 31 by omega)] <;> (repeat' (first | intro _ | refine ⟨?_, ?_⟩ | split)) <;> first | rfl | omega | (exfalso; omega)
      exact k_eqw (ws2 := clsA g a aK aL aT (sp_on (m, k, kf, tp, tl, sb, sz, nu, ct) (nI px) y z).2 (jk, lk, lm, t, lt, nx, tk, sr, va)) (by rw [hsp]; rfl) (hR _ _ _ (jk, lk, lm, t, lt, nx, tk, sr, va) dX3_on_34 (by rw [hsp]))
    · obtain ⟨py, hpy, rfl⟩ := vIn_of (by omega) c15
      refine k_iload_n hJ dX3_on_18 3 rfl ?_
      refine k_iconst (v := nI 0) hJ dX3_on_19 (by decide) ?_
      refine k_bipush (v := nI 60) hJ dX3_on_20 (by decide) ?_
      refine c_SI (As := [.int z, .int (nI 0), .int (nI 60)]) (st := []) hJ (ct_X3_within l g z 0 60) Fr.none ms_X3_within ml_X3_44 (kRm_ok (by decide) (by decide)) rfl rfl (Nat.le_of_ble_eq_true rfl) dX3_on_22 ?_
      refine k_eqs (st2 := [.int (kb (vIn z 61))]) (by rw [vBt_in _ (by decide)]) ?_
      refine b_if_ne (tgt := 35) hJ dX3_on_25 (by decide) (fun c25 => ?_) (fun c25 => ?_)
      · obtain ⟨pz, hpz, rfl⟩ := vIn_of (by omega) c25
        refine k_aload_n hJ dX3_on_35 0 rfl ?_
        refine gf_X3_19 (v := .ref (aT 0)) hJ 0 rfl rfl dX3_on_36 ?_
        refine k_aload_n hJ dX3_on_39 0 rfl ?_
        refine gf_X3_10 (v := .ref (aL 0)) hJ 0 rfl rfl dX3_on_40 ?_
        refine c_VV (As := [.ref (aL 0)]) (st := []) hJ (CT_swap (ct_X0_become l g aT aL t m lt lm)) cls_frLT mv_X0_become ml_X3_154 28 rfl rfl rfl (kRm_ok (by decide) (by decide)) rfl rfl (Nat.le_of_ble_eq_true rfl) dX3_on_43 ?_
        refine k_iconst (v := nI 0) hJ dX3_on_46 (by decide) ?_
        refine k_istore (lv1 := [(0, .ref (a 0)), (1, .int (nI px)), (2, .int (nI py)), (3, .int (nI pz)), (4, .int (nI 0))]) hJ dX3_on_47 (by decide) [1, 2, 3, 4, 0] rfl ?_
        have L49 : ∀ (fu : Nat) (i : Nat) (L : Nat → Int32), (i ≤ pz) → (pz + 1 ≤ i + fu) → J (clsW g a aK aL aT kf ct (if kf then k else jk) lk m lm (vIter (fun x => vHourFor x py) i m) L tp tl nx tk sr va sb sz nu) [(0, .ref (a 0)), (1, .int (nI px)), (2, .int (nI py)), (3, .int (nI pz)), (4, .int (nI i))] 49 [] := by
          intro fu
          induction fu with
          | zero => intro i L hi hf; exfalso; omega
          | succ fu ih =>
            intro i L hi hf
            refine k_iload hJ dX3_on_49 4 rfl ?_
            refine k_iload_n hJ dX3_on_51 3 rfl ?_
            refine n_icmp_ge (tgt := 69) hJ dX3_on_52 (by decide) (by omega) (by omega) (fun c52 => ?_) (fun c52 => ?_)
            · refine k_aload_n hJ dX3_on_69 0 rfl ?_
              refine gf_X3_19 (v := .ref (aT 0)) hJ 0 rfl rfl dX3_on_70 ?_
              refine gf_X3_103 (v := .ref (aT 5)) hJ 28 rfl rfl dX3_on_73 ?_
              refine k_iload_n hJ dX3_on_76 2 rfl ?_
              refine k_aald (f := fun i => some (aT (7 + i))) (b := aT (7 + py)) hJ 33 rfl py (by omega) (by decide) rfl dX3_on_77 ?_
              refine k_iload_n hJ dX3_on_78 1 rfl ?_
              refine k_iald hJ (35 + py) (cls_rowT (by omega)) px (by omega) (by decide) rfl dX3_on_79 ?_
              have he : (vIter (fun x => vHourFor x py) i m) (4 + 10 * px + (4 + py)) = (vIter vHour i m) (4 + 10 * px + (4 + py)) := vSm_iter m hpy i _ (by omega)
              refine k_eqs (st2 := [.int (nI ((vIter vHour i m) (4 + 10 * px + (4 + py))))]) (by rw [he]) ?_
              have hi6 : i = pz := by omega
              subst hi6
              have hsp : sp_on (m, k, kf, tp, tl, sb, sz, nu, ct) (nI px) (nI py) (nI i) = (nI ((vIter vHour i m) (4 + 10 * px + (4 + py))), (m, k, kf, tp, tl, sb, sz, nu, ct)) := by simp [-Nat.add_zero, sp_on, sp_tell, nI_l0, nI_l1, nI_l2, nI_l3, nI_l4, tN_l0, tN_l1, tN_l2, tN_l3, tN_l4, c8, c15, c25, nI_clamp (show px < 2 ^ 31 by omega), nI_clamp (show py < 2 ^ 31 by omega), nI_clamp (show i < 2 ^ 31 by omega)] <;> (repeat' (first | intro _ | refine ⟨?_, ?_⟩ | split)) <;> first | rfl | omega | (exfalso; omega)
              exact k_eqw (ws2 := clsA g a aK aL aT (sp_on (m, k, kf, tp, tl, sb, sz, nu, ct) (nI px) (nI py) (nI i)).2 (jk, lk, lm, vIter (fun x => vHourFor x py) i m, L, nx, tk, sr, va)) (by rw [hsp]; rfl) (hR _ _ _ (jk, lk, lm, vIter (fun x => vHourFor x py) i m, L, nx, tk, sr, va) dX3_on_80 (by rw [hsp]))
            · refine k_aload_n hJ dX3_on_55 0 rfl ?_
              refine gf_X3_19 (v := .ref (aT 0)) hJ 0 rfl rfl dX3_on_56 ?_
              refine k_iload_n hJ dX3_on_59 2 rfl ?_
              refine k_callV (As := [.int (nI py)]) (st := []) hJ (ct_X0_hourGoesFor l g aT (vIter (fun x => vHourFor x py) i m) L py (show 9999 + i < 2 ^ 30 by omega) (vOk_iterFor hm hpy i) hpy) (fun _ => cls_frT) mv_X0_hourGoesFor ml_X3_158 28 rfl rfl rfl (kRm_ok (by decide) (by decide)) rfl rfl (Nat.le_of_ble_eq_true rfl) dX3_on_60 (fun _ u _ => ?_)
              refine n_iinc (b := 1) (lv1 := [(0, .ref (a 0)), (1, .int (nI px)), (2, .int (nI py)), (3, .int (nI pz)), (4, .int (nI (i + 1)))]) hJ dX3_on_63 4 rfl (by decide) (by decide) [1, 2, 3, 4, 0] rfl ?_
              refine k_goto (tgt := 49) hJ dX3_on_66 (by decide) ?_
              exact ih (i + 1) u (by omega) (by omega)
        exact L49 (pz + 1) 0 lt (by omega) (by omega)
      · refine k_aload_n hJ dX3_on_28 0 rfl ?_
        refine k_ldc hJ dX3_on_29 cw_X3_55 ?_
        refine k_eqs (st2 := [.int (kFi 0), .ref (a 0)]) (by rw [kFi_c0]) ?_
        refine c_VI (As := [.int (kFi 0)]) (st := []) hJ (ct_X3_tell l g a aK aL aT kf ct 0 (by decide)) cls_frX mv_X3_tell ml_X3_56 0 rfl rfl rfl (kRm_ok (by decide) (by decide)) rfl rfl (Nat.le_of_ble_eq_true rfl) dX3_on_31 ?_
        have hsp : sp_on (m, k, kf, tp, tl, sb, sz, nu, ct) (nI px) (nI py) z = (kFi 0, (m, k, kf, tp, tl, sb, sz, nu, kTe ct 0)) := by simp [-Nat.add_zero, sp_on, sp_tell, nI_l0, nI_l1, nI_l2, nI_l3, nI_l4, tN_l0, tN_l1, tN_l2, tN_l3, tN_l4, c8, c15, c25, nI_clamp (show px < 2 ^ 31 by omega), nI_clamp (show py < 2 ^ 31 by omega)] <;> (repeat' (first | intro _ | refine ⟨?_, ?_⟩ | split)) <;> first | rfl | omega | (exfalso; omega)
        exact k_eqw (ws2 := clsA g a aK aL aT (sp_on (m, k, kf, tp, tl, sb, sz, nu, ct) (nI px) (nI py) z).2 (jk, lk, lm, t, lt, nx, tk, sr, va)) (by rw [hsp]; rfl) (hR _ _ _ (jk, lk, lm, t, lt, nx, tk, sr, va) dX3_on_34 (by rw [hsp]))
set_option maxHeartbeats 4000000 in
set_option maxRecDepth 100000 in
theorem cp_clean (l : Launch) (g : KG) (a aK aL aT : Nat → Nat) (j : CJ) (s : KS) (hs : kOk s) (x : Int32) : CT l yX3_clean cX3_clean 3 (some .int) (rmK 5) g [.ref (a 0), .int x] (clsA g a aK aL aT s j) (S := CJ) oI (fun r _ => r = (sp_clean s x).1) (fun j => clsA g a aK aL aT (sp_clean s x).2 j) := by
  obtain ⟨m, k, kf, tp, tl, sb, sz, nu, ct⟩ := s
  obtain ⟨jk, lk, lm, t, lt, nx, tk, sr, va⟩ := j
  obtain ⟨hm, hk, htl, htp, hsh⟩ := hs
  have h0 : m 0 ≤ 8 := hm.1
  have h1 : m 1 ≤ 9999 := hm.2.1
  have h2 : m 2 ≤ 4 := hm.2.2.1
  have h3 : m 3 ≤ 99 := hm.2.2.2.2.1
  have hB : 9999 < 2 ^ 30 := by decide
  refine k_bodyI (by decide) (Nat.le_of_ble_eq_true rfl) (fun _ _ _ => rfl) (fun J hJ hR => ?_)
  show J (clsW g a aK aL aT kf ct (if kf then k else jk) lk m lm t lt tp tl nx tk sr va sb sz nu) [(0, .ref (a 0)), (1, .int x)] 0 []
  refine k_aload_n hJ dX3_clean_0 0 rfl ?_
  refine gf_X3_10 (v := .ref (aL 0)) hJ 0 rfl rfl dX3_clean_1 ?_
  refine k_iload_n hJ dX3_clean_4 1 rfl ?_
  refine c_VI (As := [.int x]) (st := []) hJ (ct_X0_has l g aL m lm x ) cls_frL mv_X0_has ml_X3_75 15 rfl rfl rfl (kRm_ok (by decide) (by decide)) rfl rfl (Nat.le_of_ble_eq_true rfl) dX3_clean_5 ?_
  refine b_if_ne (tgt := 18) hJ dX3_clean_8 (by decide) (fun c8 => ?_) (fun c8 => ?_)
  · obtain ⟨px, hpx, rfl⟩ := vIn_of (by omega) c8
    refine k_aload_n hJ dX3_clean_18 0 rfl ?_
    refine gf_X3_19 (v := .ref (aT 0)) hJ 0 rfl rfl dX3_clean_19 ?_
    refine k_aload_n hJ dX3_clean_22 0 rfl ?_
    refine gf_X3_10 (v := .ref (aL 0)) hJ 0 rfl rfl dX3_clean_23 ?_
    refine c_VV (As := [.ref (aL 0)]) (st := []) hJ (CT_swap (ct_X0_become l g aT aL t m lt lm)) cls_frLT mv_X0_become ml_X3_154 28 rfl rfl rfl (kRm_ok (by decide) (by decide)) rfl rfl (Nat.le_of_ble_eq_true rfl) dX3_clean_26 ?_
    refine k_iconst (v := nI 0) hJ dX3_clean_29 (by decide) ?_
    refine k_istore_n (lv1 := [(0, .ref (a 0)), (1, .int (nI px)), (2, .int (nI 0))]) hJ dX3_clean_30 (by decide) [1, 2, 0] rfl ?_
    have L31 : ∀ (fu : Nat) (n : Nat) (L : Nat → Int32), (n ≤ 61) → (62 ≤ n + fu) → (∀ i, i < n → (fun n => vFinders (vIter vHour n m) px == 0) i = false) → J (clsW g a aK aL aT kf ct (if kf then k else jk) lk m lm (vIter vHour n m) L tp tl nx tk sr va sb sz nu) [(0, .ref (a 0)), (1, .int (nI px)), (2, .int (nI n))] 31 [] := by
      intro fu
      induction fu with
      | zero => intro n L h61 hf hn; exfalso; omega
      | succ fu ih =>
        intro n L h61 hf hn
        refine k_iload_n hJ dX3_clean_31 2 rfl ?_
        refine k_bipush (v := nI 60) hJ dX3_clean_32 (by decide) ?_
        refine n_icmp_gt (tgt := 63) hJ dX3_clean_34 (by decide) (by omega) (by omega) (fun c34 => ?_) (fun c34 => ?_)
        · refine k_aload_n hJ dX3_clean_63 0 rfl ?_
          refine k_ldc hJ dX3_clean_64 cw_X3_130 ?_
          refine k_eqs (st2 := [.int (kFi 3), .ref (a 0)]) (by rw [kFi_c3]) ?_
          refine c_VI (As := [.int (kFi 3)]) (st := []) hJ (ct_X3_tell l g a aK aL aT kf ct 3 (by decide)) cls_frX mv_X3_tell ml_X3_56 0 rfl rfl rfl (kRm_ok (by decide) (by decide)) rfl rfl (Nat.le_of_ble_eq_true rfl) dX3_clean_66 ?_
          have hF : vFst (fun n => vFinders (vIter vHour n m) px == 0) 61 = 61 := vFst_none (fun i hi => hn i (by omega))
          have hsp : sp_clean (m, k, kf, tp, tl, sb, sz, nu, ct) (nI px) = (kFi 3, (m, k, kf, tp, tl, sb, sz, nu, kTe ct 3)) := by simp only [sp_clean]; rw [if_pos c8, tN_nI (show px < 2 ^ 31 by omega), hF]; unfold sp_fst; rw [if_neg (by omega)]; rfl
          exact k_eqw (ws2 := clsA g a aK aL aT (sp_clean (m, k, kf, tp, tl, sb, sz, nu, ct) (nI px)).2 (jk, lk, lm, vIter vHour n m, L, nx, tk, sr, va)) (by rw [hsp]; rfl) (hR _ _ _ (jk, lk, lm, vIter vHour n m, L, nx, tk, sr, va) dX3_clean_69 (by rw [hsp]))
        · refine k_aload_n hJ dX3_clean_37 0 rfl ?_
          refine gf_X3_19 (v := .ref (aT 0)) hJ 0 rfl rfl dX3_clean_38 ?_
          refine k_iload_n hJ dX3_clean_41 1 rfl ?_
          refine c_VI (As := [.int (nI px)]) (st := []) hJ (ct_X0_finders l g aT (vIter vHour n m) L px (show 9999 + n < 2 ^ 30 by omega) (vOk_iter hm n) (by omega)) cls_frT mv_X0_finders ml_X3_131 28 rfl rfl rfl (kRm_ok (by decide) (by decide)) rfl rfl (Nat.le_of_ble_eq_true rfl) dX3_clean_42 ?_
          have hff : vFinders (vIter vHour n m) px < 256 := vBits_le8 _ (vOk_iter hm n).1
          refine n_if_ne (tgt := 50) hJ dX3_clean_45 (by decide) (by omega) (fun c45 => ?_) (fun c45 => ?_)
          · refine k_aload_n hJ dX3_clean_50 0 rfl ?_
            refine gf_X3_19 (v := .ref (aT 0)) hJ 0 rfl rfl dX3_clean_51 ?_
            refine k_callV (As := []) (st := []) hJ (ct_X0_hourGoes l g aT (vIter vHour n m) L (show 9999 + n < 2 ^ 30 by omega) (vOk_iter hm n)) (fun _ => cls_frT) mv_X0_hourGoes ml_X3_145 28 rfl rfl rfl (kRm_ok (by decide) (by decide)) rfl rfl (Nat.le_of_ble_eq_true rfl) dX3_clean_54 (fun _ u _ => ?_)
            refine n_iinc (b := 1) (lv1 := [(0, .ref (a 0)), (1, .int (nI px)), (2, .int (nI (n + 1)))]) hJ dX3_clean_57 2 rfl (by decide) (by decide) [1, 2, 0] rfl ?_
            refine k_goto (tgt := 31) hJ dX3_clean_60 (by decide) ?_
            exact ih (n + 1) u (by omega) (by omega) (lt_s hn (beq_false_of_ne (by omega)))
          · refine k_iload_n hJ dX3_clean_48 2 rfl ?_
            have hF : vFst (fun n => vFinders (vIter vHour n m) px == 0) 61 = n := vFst_at hn (by show (vFinders (vIter vHour n m) px == 0) = true; rw [c45]; rfl) (by omega)
            have hsp : sp_clean (m, k, kf, tp, tl, sb, sz, nu, ct) (nI px) = (nI n, (m, k, kf, tp, tl, sb, sz, nu, ct)) := by simp only [sp_clean]; rw [if_pos c8, tN_nI (show px < 2 ^ 31 by omega), hF]; unfold sp_fst; rw [if_pos (by omega)]; rfl
            exact k_eqw (ws2 := clsA g a aK aL aT (sp_clean (m, k, kf, tp, tl, sb, sz, nu, ct) (nI px)).2 (jk, lk, lm, vIter vHour n m, L, nx, tk, sr, va)) (by rw [hsp]; rfl) (hR _ _ _ (jk, lk, lm, vIter vHour n m, L, nx, tk, sr, va) dX3_clean_49 (by rw [hsp]))
    exact L31 62 0 lt (by omega) (by omega) lt_0
  · refine k_aload_n hJ dX3_clean_11 0 rfl ?_
    refine k_ldc hJ dX3_clean_12 cw_X3_55 ?_
    refine k_eqs (st2 := [.int (kFi 0), .ref (a 0)]) (by rw [kFi_c0]) ?_
    refine c_VI (As := [.int (kFi 0)]) (st := []) hJ (ct_X3_tell l g a aK aL aT kf ct 0 (by decide)) cls_frX mv_X3_tell ml_X3_56 0 rfl rfl rfl (kRm_ok (by decide) (by decide)) rfl rfl (Nat.le_of_ble_eq_true rfl) dX3_clean_14 ?_
    have hsp : sp_clean (m, k, kf, tp, tl, sb, sz, nu, ct) x = (kFi 0, (m, k, kf, tp, tl, sb, sz, nu, kTe ct 0)) := by simp [-Nat.add_zero, sp_clean, sp_tell, nI_l0, nI_l1, nI_l2, nI_l3, nI_l4, tN_l0, tN_l1, tN_l2, tN_l3, tN_l4, c8] <;> (repeat' (first | intro _ | refine ⟨?_, ?_⟩ | split)) <;> first | rfl | omega | (exfalso; omega)
    exact k_eqw (ws2 := clsA g a aK aL aT (sp_clean (m, k, kf, tp, tl, sb, sz, nu, ct) x).2 (jk, lk, lm, t, lt, nx, tk, sr, va)) (by rw [hsp]; rfl) (hR _ _ _ (jk, lk, lm, t, lt, nx, tk, sr, va) dX3_clean_17 (by rw [hsp]))
set_option maxHeartbeats 4000000 in
set_option maxRecDepth 100000 in
theorem cp_due (l : Launch) (g : KG) (a aK aL aT : Nat → Nat) (j : CJ) (s : KS) (hs : kOk s) (x : Int32) : CT l yX3_due cX3_due 3 (some .int) (rmK 5) g [.ref (a 0), .int x] (clsA g a aK aL aT s j) (S := CJ) oI (fun r _ => r = (sp_due s x).1) (fun j => clsA g a aK aL aT (sp_due s x).2 j) := by
  obtain ⟨m, k, kf, tp, tl, sb, sz, nu, ct⟩ := s
  obtain ⟨jk, lk, lm, t, lt, nx, tk, sr, va⟩ := j
  obtain ⟨hm, hk, htl, htp, hsh⟩ := hs
  have h0 : m 0 ≤ 8 := hm.1
  have h1 : m 1 ≤ 9999 := hm.2.1
  have h2 : m 2 ≤ 4 := hm.2.2.1
  have h3 : m 3 ≤ 99 := hm.2.2.2.2.1
  have hB : 9999 < 2 ^ 30 := by decide
  refine k_bodyI (by decide) (Nat.le_of_ble_eq_true rfl) (fun _ _ _ => rfl) (fun J hJ hR => ?_)
  show J (clsW g a aK aL aT kf ct (if kf then k else jk) lk m lm t lt tp tl nx tk sr va sb sz nu) [(0, .ref (a 0)), (1, .int x)] 0 []
  refine k_aload_n hJ dX3_due_0 0 rfl ?_
  refine gf_X3_10 (v := .ref (aL 0)) hJ 0 rfl rfl dX3_due_1 ?_
  refine k_iload_n hJ dX3_due_4 1 rfl ?_
  refine c_VI (As := [.int x]) (st := []) hJ (ct_X0_has l g aL m lm x ) cls_frL mv_X0_has ml_X3_75 15 rfl rfl rfl (kRm_ok (by decide) (by decide)) rfl rfl (Nat.le_of_ble_eq_true rfl) dX3_due_5 ?_
  refine b_if_ne (tgt := 18) hJ dX3_due_8 (by decide) (fun c8 => ?_) (fun c8 => ?_)
  · obtain ⟨px, hpx, rfl⟩ := vIn_of (by omega) c8
    refine k_aload_n hJ dX3_due_18 0 rfl ?_
    refine gf_X3_19 (v := .ref (aT 0)) hJ 0 rfl rfl dX3_due_19 ?_
    refine k_aload_n hJ dX3_due_22 0 rfl ?_
    refine gf_X3_10 (v := .ref (aL 0)) hJ 0 rfl rfl dX3_due_23 ?_
    refine c_VV (As := [.ref (aL 0)]) (st := []) hJ (CT_swap (ct_X0_become l g aT aL t m lt lm)) cls_frLT mv_X0_become ml_X3_154 28 rfl rfl rfl (kRm_ok (by decide) (by decide)) rfl rfl (Nat.le_of_ble_eq_true rfl) dX3_due_26 ?_
    refine k_iconst (v := nI 1) hJ dX3_due_29 (by decide) ?_
    refine k_istore_n (lv1 := [(0, .ref (a 0)), (1, .int (nI px)), (2, .int (nI 1))]) hJ dX3_due_30 (by decide) [1, 2, 0] rfl ?_
    have L31 : ∀ (fu : Nat) (v : Nat) (M : Nat → Nat), (1 ≤ v) → (v ≤ 100) → (101 ≤ v + fu) → (∀ y, vUp M 3 y = vUp m 3 y) → (∀ i, i < v - 1 → (fun d => vFinders (vUp m 3 (d + 1)) px == 0) i = false) → J (clsW g a aK aL aT kf ct (if kf then k else jk) lk m lm M lt tp tl nx tk sr va sb sz nu) [(0, .ref (a 0)), (1, .int (nI px)), (2, .int (nI v))] 31 [] := by
      intro fu
      induction fu with
      | zero => intro v M hv1 hv2 hf hM hn; exfalso; omega
      | succ fu ih =>
        intro v M hv1 hv2 hf hM hn
        refine k_iload_n hJ dX3_due_31 2 rfl ?_
        refine k_bipush (v := nI 99) hJ dX3_due_32 (by decide) ?_
        refine n_icmp_gt (tgt := 64) hJ dX3_due_34 (by decide) (by omega) (by omega) (fun c34 => ?_) (fun c34 => ?_)
        · refine k_aload_n hJ dX3_due_64 0 rfl ?_
          refine k_ldc hJ dX3_due_65 cw_X3_130 ?_
          refine k_eqs (st2 := [.int (kFi 3), .ref (a 0)]) (by rw [kFi_c3]) ?_
          refine c_VI (As := [.int (kFi 3)]) (st := []) hJ (ct_X3_tell l g a aK aL aT kf ct 3 (by decide)) cls_frX mv_X3_tell ml_X3_56 0 rfl rfl rfl (kRm_ok (by decide) (by decide)) rfl rfl (Nat.le_of_ble_eq_true rfl) dX3_due_67 ?_
          have hF : vFst (fun d => vFinders (vUp m 3 (d + 1)) px == 0) 99 = 99 := vFst_none (fun i hi => hn i (by omega))
          have hsp : sp_due (m, k, kf, tp, tl, sb, sz, nu, ct) (nI px) = (kFi 3, (m, k, kf, tp, tl, sb, sz, nu, kTe ct 3)) := by simp only [sp_due]; rw [if_pos c8, tN_nI (show px < 2 ^ 31 by omega), hF]; unfold sp_fst; rw [if_neg (by omega)]; rfl
          exact k_eqw (ws2 := clsA g a aK aL aT (sp_due (m, k, kf, tp, tl, sb, sz, nu, ct) (nI px)).2 (jk, lk, lm, M, lt, nx, tk, sr, va)) (by rw [hsp]; rfl) (hR _ _ _ (jk, lk, lm, M, lt, nx, tk, sr, va) dX3_due_70 (by rw [hsp]))
        · refine k_aload_n hJ dX3_due_37 0 rfl ?_
          refine gf_X3_19 (v := .ref (aT 0)) hJ 0 rfl rfl dX3_due_38 ?_
          refine k_iload_n hJ dX3_due_41 2 rfl ?_
          refine pf_X3_52 (ws2 := clsW g a aK aL aT kf ct (if kf then k else jk) lk m lm (vUp M 3 v) lt tp tl nx tk sr va sb sz nu) hJ 28 rfl (cls_setT (i := 0) (by decide) (hs_due g aT M lt v)) (Nat.le_of_ble_eq_true rfl) dX3_due_42 ?_
          refine k_eqw (ws2 := clsW g a aK aL aT kf ct (if kf then k else jk) lk m lm (vUp m 3 v) lt tp tl nx tk sr va sb sz nu) (by rw [hM]) ?_
          refine k_aload_n hJ dX3_due_45 0 rfl ?_
          refine gf_X3_19 (v := .ref (aT 0)) hJ 0 rfl rfl dX3_due_46 ?_
          refine k_iload_n hJ dX3_due_49 1 rfl ?_
          have hk1 := vOk_due hm hv1 (show v ≤ 99 by omega)
          refine c_VI (As := [.int (nI px)]) (st := []) hJ (ct_X0_finders l g aT (vUp m 3 v) lt px hB hk1 (by omega)) cls_frT mv_X0_finders ml_X3_131 28 rfl rfl rfl (kRm_ok (by decide) (by decide)) rfl rfl (Nat.le_of_ble_eq_true rfl) dX3_due_50 ?_
          have hff : vFinders (vUp m 3 v) px < 256 := vBits_le8 _ hk1.1
          refine n_if_ne (tgt := 58) hJ dX3_due_53 (by decide) (by omega) (fun c53 => ?_) (fun c53 => ?_)
          · refine n_iinc (b := 1) (lv1 := [(0, .ref (a 0)), (1, .int (nI px)), (2, .int (nI (v + 1)))]) hJ dX3_due_58 2 rfl (by decide) (by decide) [1, 2, 0] rfl ?_
            refine k_goto (tgt := 31) hJ dX3_due_61 (by decide) ?_
            exact ih (v + 1) _ (by omega) (by omega) (by omega) (fun y => by rw [vUp_up]) (fun i hi => by rcases Nat.lt_or_ge i (v - 1) with g | g; exact hn i (by omega); rw [show i = v - 1 by omega]; show (vFinders (vUp m 3 (v - 1 + 1)) px == 0) = false; rw [show v - 1 + 1 = v by omega]; exact beq_false_of_ne (by omega))
          · refine k_iload_n hJ dX3_due_56 2 rfl ?_
            have hF : vFst (fun d => vFinders (vUp m 3 (d + 1)) px == 0) 99 = v - 1 := vFst_at (fun j hj => hn j (by omega)) (by show (vFinders (vUp m 3 (v - 1 + 1)) px == 0) = true; rw [show v - 1 + 1 = v by omega, c53]; rfl) (by omega)
            have hsp : sp_due (m, k, kf, tp, tl, sb, sz, nu, ct) (nI px) = (nI v, (m, k, kf, tp, tl, sb, sz, nu, ct)) := by simp only [sp_due]; rw [if_pos c8, tN_nI (show px < 2 ^ 31 by omega), hF]; unfold sp_fst; rw [if_pos (by omega), show v - 1 + 1 = v by omega]
            exact k_eqw (ws2 := clsA g a aK aL aT (sp_due (m, k, kf, tp, tl, sb, sz, nu, ct) (nI px)).2 (jk, lk, lm, vUp m 3 v, lt, nx, tk, sr, va)) (by rw [hsp]; rfl) (hR _ _ _ (jk, lk, lm, vUp m 3 v, lt, nx, tk, sr, va) dX3_due_57 (by rw [hsp]))
    exact L31 100 1 m (by omega) (by omega) (by omega) (fun _ => rfl) (fun i hi => absurd hi (by omega))
  · refine k_aload_n hJ dX3_due_11 0 rfl ?_
    refine k_ldc hJ dX3_due_12 cw_X3_55 ?_
    refine k_eqs (st2 := [.int (kFi 0), .ref (a 0)]) (by rw [kFi_c0]) ?_
    refine c_VI (As := [.int (kFi 0)]) (st := []) hJ (ct_X3_tell l g a aK aL aT kf ct 0 (by decide)) cls_frX mv_X3_tell ml_X3_56 0 rfl rfl rfl (kRm_ok (by decide) (by decide)) rfl rfl (Nat.le_of_ble_eq_true rfl) dX3_due_14 ?_
    have hsp : sp_due (m, k, kf, tp, tl, sb, sz, nu, ct) x = (kFi 0, (m, k, kf, tp, tl, sb, sz, nu, kTe ct 0)) := by simp [-Nat.add_zero, sp_due, sp_tell, nI_l0, nI_l1, nI_l2, nI_l3, nI_l4, tN_l0, tN_l1, tN_l2, tN_l3, tN_l4, c8] <;> (repeat' (first | intro _ | refine ⟨?_, ?_⟩ | split)) <;> first | rfl | omega | (exfalso; omega)
    exact k_eqw (ws2 := clsA g a aK aL aT (sp_due (m, k, kf, tp, tl, sb, sz, nu, ct) x).2 (jk, lk, lm, t, lt, nx, tk, sr, va)) (by rw [hsp]; rfl) (hR _ _ _ (jk, lk, lm, t, lt, nx, tk, sr, va) dX3_due_17 (by rw [hsp]))
set_option maxHeartbeats 4000000 in
set_option maxRecDepth 100000 in
theorem cp_deed (l : Launch) (g : KG) (a aK aL aT : Nat → Nat) (j : CJ) (s : KS) (hs : kOk s) (x : Int32) (y : Int32) : CT l yX3_deed cX3_deed 7 (some .int) (rmK 3) g [.ref (a 0), .int x, .int y] (clsA g a aK aL aT s j) (S := CJ) oI (fun r _ => r = (sp_deed s x y).1) (fun j => clsA g a aK aL aT (sp_deed s x y).2 j) := by
  obtain ⟨m, k, kf, tp, tl, sb, sz, nu, ct⟩ := s
  obtain ⟨jk, lk, lm, t, lt, nx, tk, sr, va⟩ := j
  obtain ⟨hm, hk, htl, htp, hsh⟩ := hs
  have h0 : m 0 ≤ 8 := hm.1
  have h1 : m 1 ≤ 9999 := hm.2.1
  have h2 : m 2 ≤ 4 := hm.2.2.1
  have h3 : m 3 ≤ 99 := hm.2.2.2.2.1
  have hB : 9999 < 2 ^ 30 := by decide
  refine k_bodyI (by decide) (Nat.le_of_ble_eq_true rfl) (fun _ _ _ => rfl) (fun J hJ hR => ?_)
  show J (clsW g a aK aL aT kf ct (if kf then k else jk) lk m lm t lt tp tl nx tk sr va sb sz nu) [(0, .ref (a 0)), (1, .int x), (2, .int y)] 0 []
  refine k_aload_n hJ dX3_deed_0 0 rfl ?_
  refine gf_X3_10 (v := .ref (aL 0)) hJ 0 rfl rfl dX3_deed_1 ?_
  refine k_iload_n hJ dX3_deed_4 1 rfl ?_
  refine k_iload_n hJ dX3_deed_5 2 rfl ?_
  refine c_VI (As := [.int x, .int y]) (st := []) hJ (ct_X0_hasTwo l g aL m lm x y ) cls_frL mv_X0_hasTwo ml_X3_118 15 rfl rfl rfl (kRm_ok (by decide) (by decide)) rfl rfl (Nat.le_of_ble_eq_true rfl) dX3_deed_6 ?_
  refine b_if_ne (tgt := 19) hJ dX3_deed_9 (by decide) (fun c9 => ?_) (fun c9 => ?_)
  · obtain ⟨px, py, hpx, hpy, hnx, rfl, rfl⟩ := vTwo_of (by omega) c9
    refine k_iconst (v := (-1)) hJ dX3_deed_19 (by decide) ?_
    refine k_istore_n (lv1 := [(0, .ref (a 0)), (1, .int (nI px)), (2, .int (nI py)), (3, .int (-1))]) hJ dX3_deed_20 (by decide) [1, 2, 3, 0] rfl ?_
    refine k_iconst (v := nI 0) hJ dX3_deed_21 (by decide) ?_
    refine k_istore (lv1 := [(0, .ref (a 0)), (1, .int (nI px)), (2, .int (nI py)), (3, .int (-1)), (4, .int (nI 0))]) hJ dX3_deed_22 (by decide) [1, 2, 3, 4, 0] rfl ?_
    refine k_iconst (v := nI 0) hJ dX3_deed_24 (by decide) ?_
    refine k_istore (lv1 := [(0, .ref (a 0)), (1, .int (nI px)), (2, .int (nI py)), (3, .int (-1)), (4, .int (nI 0)), (5, .int (nI 0))]) hJ dX3_deed_25 (by decide) [1, 2, 3, 4, 5, 0] rfl ?_
    have L27 : ∀ (fu : Nat) (d : Nat), (d ≤ 6) → (7 ≤ d + fu) → J (clsW g a aK aL aT kf ct (if kf then k else jk) lk m lm t lt tp tl nx tk sr va sb sz nu) [(0, .ref (a 0)), (1, .int (nI px)), (2, .int (nI py)), (3, .int (kOpt (vDe m px py d).1)), (4, .int (nI ((vDe m px py d).2))), (5, .int (nI d))] 27 [] := by
      intro fu
      induction fu with
      | zero => intro d hd hf; exfalso; omega
      | succ fu ih =>
        intro d hd hf
        refine k_iload hJ dX3_deed_27 5 rfl ?_
        refine k_bipush (v := nI 6) hJ dX3_deed_29 (by decide) ?_
        refine n_icmp_ge (tgt := 67) hJ dX3_deed_31 (by decide) (by omega) (by omega) (fun c31 => ?_) (fun c31 => ?_)
        · have hd6 : d = 6 := by omega
          subst hd6
          rcases hO : (vDe m px py 6).1 with _ | bb
          · show J (clsW g a aK aL aT kf ct (if kf then k else jk) lk m lm t lt tp tl nx tk sr va sb sz nu) [(0, .ref (a 0)), (1, .int (nI px)), (2, .int (nI py)), (3, .int (-1)), (4, .int (nI ((vDe m px py 6).2))), (5, .int (nI 6))] 67 []
            refine k_iload_n hJ dX3_deed_67 3 rfl ?_
            refine k_if_ge (tgt := 80) hJ dX3_deed_68 (by decide) (fun c68 => ?_) (fun c68 => ?_)
            · refine k_iload_n hJ dX3_deed_80 3 rfl ?_
              exact absurd c68 (by decide)
            · refine k_aload_n hJ dX3_deed_71 0 rfl ?_
              refine k_ldc hJ dX3_deed_72 cw_X3_130 ?_
              refine k_eqs (st2 := [.int (kFi 3), .ref (a 0)]) (by rw [kFi_c3]) ?_
              refine c_VI (As := [.int (kFi 3)]) (st := []) hJ (ct_X3_tell l g a aK aL aT kf ct 3 (by decide)) cls_frX mv_X3_tell ml_X3_56 0 rfl rfl rfl (kRm_ok (by decide) (by decide)) rfl rfl (Nat.le_of_ble_eq_true rfl) dX3_deed_74 ?_
              refine k_goto (tgt := 81) hJ dX3_deed_77 (by decide) ?_
              have hsp : sp_deed (m, k, kf, tp, tl, sb, sz, nu, ct) (nI px) (nI py) = (kFi 3, (m, k, kf, tp, tl, sb, sz, nu, kTe ct 3)) := by simp [sp_deed, sp_opt, sp_tell, c9, nI_clamp (show px < 2 ^ 31 by omega), nI_clamp (show py < 2 ^ 31 by omega), hO]
              exact k_eqw (ws2 := clsA g a aK aL aT (sp_deed (m, k, kf, tp, tl, sb, sz, nu, ct) (nI px) (nI py)).2 (jk, lk, lm, t, lt, nx, tk, sr, va)) (by rw [hsp]; rfl) (hR _ _ _ (jk, lk, lm, t, lt, nx, tk, sr, va) dX3_deed_81 (by rw [hsp]))
          · show J (clsW g a aK aL aT kf ct (if kf then k else jk) lk m lm t lt tp tl nx tk sr va sb sz nu) [(0, .ref (a 0)), (1, .int (nI px)), (2, .int (nI py)), (3, .int (nI bb)), (4, .int (nI ((vDe m px py 6).2))), (5, .int (nI 6))] 67 []
            have hbb := (vDe_le hm (show px < 8 by omega) (show py < 8 by omega) (Nat.le_refl 6)).2 bb hO
            refine k_iload_n hJ dX3_deed_67 3 rfl ?_
            refine n_if_ge (tgt := 80) hJ dX3_deed_68 (by decide) (by omega) (fun c68 => ?_) (fun c68 => ?_)
            · refine k_iload_n hJ dX3_deed_80 3 rfl ?_
              have hsp : sp_deed (m, k, kf, tp, tl, sb, sz, nu, ct) (nI px) (nI py) = (nI bb, (m, k, kf, tp, tl, sb, sz, nu, ct)) := by simp [sp_deed, sp_opt, sp_tell, c9, nI_clamp (show px < 2 ^ 31 by omega), nI_clamp (show py < 2 ^ 31 by omega), hO]
              exact k_eqw (ws2 := clsA g a aK aL aT (sp_deed (m, k, kf, tp, tl, sb, sz, nu, ct) (nI px) (nI py)).2 (jk, lk, lm, t, lt, nx, tk, sr, va)) (by rw [hsp]; rfl) (hR _ _ _ (jk, lk, lm, t, lt, nx, tk, sr, va) dX3_deed_81 (by rw [hsp]))
            · exact absurd c68 (by omega)
        · have hl := (vDe_le hm (show px < 8 by omega) (show py < 8 by omega) (show d ≤ 6 by omega)).1
          have hq := vSmell_le hm (show px < 8 by omega) (show py < 8 by omega) (show d < 6 by omega)
          refine k_aload_n hJ dX3_deed_34 0 rfl ?_
          refine gf_X3_10 (v := .ref (aL 0)) hJ 0 rfl rfl dX3_deed_35 ?_
          refine k_iload_n hJ dX3_deed_38 1 rfl ?_
          refine k_iload_n hJ dX3_deed_39 2 rfl ?_
          refine k_iload hJ dX3_deed_40 5 rfl ?_
          refine c_VI (As := [.int (nI px), .int (nI py), .int (nI d)]) (st := []) hJ (ct_X0_smelt l g aL m lm px py d hB hm (by omega) (by omega) (by omega)) cls_frL mv_X0_smelt ml_X3_126 15 rfl rfl rfl (kRm_ok (by decide) (by decide)) rfl rfl (Nat.le_of_ble_eq_true rfl) dX3_deed_42 ?_
          refine k_istore (lv1 := [(0, .ref (a 0)), (1, .int (nI px)), (2, .int (nI py)), (3, .int (kOpt (vDe m px py d).1)), (4, .int (nI ((vDe m px py d).2))), (5, .int (nI d)), (6, .int (nI (vSmell m px py d)))]) hJ dX3_deed_45 (by decide) [1, 2, 3, 4, 5, 6, 0] rfl ?_
          refine k_iload hJ dX3_deed_47 6 rfl ?_
          refine k_iload hJ dX3_deed_49 4 rfl ?_
          refine n_icmp_le (tgt := 61) hJ dX3_deed_51 (by decide) (by omega) (by omega) (fun c51 => ?_) (fun c51 => ?_)
          · refine n_iinc (b := 1) (lv1 := [(0, .ref (a 0)), (1, .int (nI px)), (2, .int (nI py)), (3, .int (kOpt (vDe m px py d).1)), (4, .int (nI ((vDe m px py d).2))), (5, .int (nI (d + 1))), (6, .int (nI (vSmell m px py d)))]) hJ dX3_deed_61 5 rfl (by decide) (by decide) [1, 2, 3, 4, 5, 0, 6] rfl ?_
            refine k_goto (tgt := 27) hJ dX3_deed_64 (by decide) ?_
            refine k_lv (lv1 := [(0, .ref (a 0)), (1, .int (nI px)), (2, .int (nI py)), (3, .int (kOpt (vDe m px py d).1)), (4, .int (nI ((vDe m px py d).2))), (5, .int (nI (d + 1)))]) hJ [0, 1, 2, 3, 4, 5] rfl ?_
            refine k_eql (lv1 := [(0, .ref (a 0)), (1, .int (nI px)), (2, .int (nI py)), (3, .int (kOpt (vDe m px py (d + 1)).1)), (4, .int (nI ((vDe m px py (d + 1)).2))), (5, .int (nI (d + 1)))]) (by rw [vDe_f (by omega)]) ?_
            exact ih (d + 1) (by omega) (by omega)
          · refine k_iload hJ dX3_deed_54 6 rfl ?_
            refine k_istore (lv1 := [(0, .ref (a 0)), (1, .int (nI px)), (2, .int (nI py)), (3, .int (kOpt (vDe m px py d).1)), (4, .int (nI (vSmell m px py d))), (5, .int (nI d)), (6, .int (nI (vSmell m px py d)))]) hJ dX3_deed_56 (by decide) [1, 2, 3, 4, 0, 5, 6] rfl ?_
            refine k_iload hJ dX3_deed_58 5 rfl ?_
            refine k_istore_n (lv1 := [(0, .ref (a 0)), (1, .int (nI px)), (2, .int (nI py)), (3, .int (nI d)), (4, .int (nI (vSmell m px py d))), (5, .int (nI d)), (6, .int (nI (vSmell m px py d)))]) hJ dX3_deed_60 (by decide) [1, 2, 3, 0, 4, 5, 6] rfl ?_
            refine n_iinc (b := 1) (lv1 := [(0, .ref (a 0)), (1, .int (nI px)), (2, .int (nI py)), (3, .int (nI d)), (4, .int (nI (vSmell m px py d))), (5, .int (nI (d + 1))), (6, .int (nI (vSmell m px py d)))]) hJ dX3_deed_61 5 rfl (by decide) (by decide) [1, 2, 3, 4, 5, 0, 6] rfl ?_
            refine k_goto (tgt := 27) hJ dX3_deed_64 (by decide) ?_
            refine k_lv (lv1 := [(0, .ref (a 0)), (1, .int (nI px)), (2, .int (nI py)), (3, .int (nI d)), (4, .int (nI (vSmell m px py d))), (5, .int (nI (d + 1)))]) hJ [0, 1, 2, 3, 4, 5] rfl ?_
            refine k_eql (lv1 := [(0, .ref (a 0)), (1, .int (nI px)), (2, .int (nI py)), (3, .int (kOpt (vDe m px py (d + 1)).1)), (4, .int (nI ((vDe m px py (d + 1)).2))), (5, .int (nI (d + 1)))]) (by rw [vDe_t (by omega)]; rfl) ?_
            exact ih (d + 1) (by omega) (by omega)
    exact L27 7 0 (by omega) (by omega)
  · refine k_aload_n hJ dX3_deed_12 0 rfl ?_
    refine k_ldc hJ dX3_deed_13 cw_X3_55 ?_
    refine k_eqs (st2 := [.int (kFi 0), .ref (a 0)]) (by rw [kFi_c0]) ?_
    refine c_VI (As := [.int (kFi 0)]) (st := []) hJ (ct_X3_tell l g a aK aL aT kf ct 0 (by decide)) cls_frX mv_X3_tell ml_X3_56 0 rfl rfl rfl (kRm_ok (by decide) (by decide)) rfl rfl (Nat.le_of_ble_eq_true rfl) dX3_deed_15 ?_
    have hsp : sp_deed (m, k, kf, tp, tl, sb, sz, nu, ct) x y = (kFi 0, (m, k, kf, tp, tl, sb, sz, nu, kTe ct 0)) := by simp [-Nat.add_zero, sp_deed, sp_tell, nI_l0, nI_l1, nI_l2, nI_l3, nI_l4, tN_l0, tN_l1, tN_l2, tN_l3, tN_l4, c9] <;> (repeat' (first | intro _ | refine ⟨?_, ?_⟩ | split)) <;> first | rfl | omega | (exfalso; omega)
    exact k_eqw (ws2 := clsA g a aK aL aT (sp_deed (m, k, kf, tp, tl, sb, sz, nu, ct) x y).2 (jk, lk, lm, t, lt, nx, tk, sr, va)) (by rw [hsp]; rfl) (hR _ _ _ (jk, lk, lm, t, lt, nx, tk, sr, va) dX3_deed_18 (by rw [hsp]))
set_option maxHeartbeats 4000000 in
set_option maxRecDepth 100000 in
theorem cp_convicts (l : Launch) (g : KG) (a aK aL aT : Nat → Nat) (j : CJ) (s : KS) (hs : kOk s) (x : Int32) (y : Int32) : CT l yX3_convicts cX3_convicts 3 (some .int) (rmK 5) g [.ref (a 0), .int x, .int y] (clsA g a aK aL aT s j) (S := CJ) oI (fun r _ => r = (sp_convicts s x y).1) (fun j => clsA g a aK aL aT (sp_convicts s x y).2 j) := by
  obtain ⟨m, k, kf, tp, tl, sb, sz, nu, ct⟩ := s
  obtain ⟨jk, lk, lm, t, lt, nx, tk, sr, va⟩ := j
  obtain ⟨hm, hk, htl, htp, hsh⟩ := hs
  have h0 : m 0 ≤ 8 := hm.1
  have h1 : m 1 ≤ 9999 := hm.2.1
  have h2 : m 2 ≤ 4 := hm.2.2.1
  have h3 : m 3 ≤ 99 := hm.2.2.2.2.1
  have hB : 9999 < 2 ^ 30 := by decide
  refine k_bodyI (by decide) (Nat.le_of_ble_eq_true rfl) (fun _ _ _ => rfl) (fun J hJ hR => ?_)
  have hpw : 2 ^ m 0 ≤ 256 := Nat.pow_le_pow_right (by decide) h0
  have hp1 : 1 ≤ 2 ^ m 0 := Nat.one_le_two_pow
  show J (clsW g a aK aL aT kf ct (if kf then k else jk) lk m lm t lt tp tl nx tk sr va sb sz nu) [(0, .ref (a 0)), (1, .int x), (2, .int y)] 0 []
  refine k_iload_n hJ dX3_convicts_0 1 rfl ?_
  refine k_iconst (v := nI 1) hJ dX3_convicts_1 (by decide) ?_
  refine k_aload_n hJ dX3_convicts_2 0 rfl ?_
  refine gf_X3_10 (v := .ref (aL 0)) hJ 0 rfl rfl dX3_convicts_3 ?_
  refine c_VI (As := []) (st := [.int (nI 1), .int x]) hJ (ct_X0_everybody l g aL m lm  hB hm ) cls_frL mv_X0_everybody ml_X3_134 15 rfl rfl rfl (kRm_ok (by decide) (by decide)) rfl rfl (Nat.le_of_ble_eq_true rfl) dX3_convicts_6 ?_
  refine c_SI (As := [.int x, .int (nI 1), .int (nI (2 ^ m 0 - 1))]) (st := []) hJ (ct_X3_within l g x 1 (2 ^ m 0 - 1)) Fr.none ms_X3_within ml_X3_44 (kRm_ok (by decide) (by decide)) rfl rfl (Nat.le_of_ble_eq_true rfl) dX3_convicts_9 ?_
  refine b_if_eq (tgt := 26) hJ dX3_convicts_12 (by decide) (fun c12 => ?_) (fun c12 => ?_)
  · refine k_aload_n hJ dX3_convicts_26 0 rfl ?_
    refine k_ldc hJ dX3_convicts_27 cw_X3_55 ?_
    refine k_eqs (st2 := [.int (kFi 0), .ref (a 0)]) (by rw [kFi_c0]) ?_
    refine c_VI (As := [.int (kFi 0)]) (st := []) hJ (ct_X3_tell l g a aK aL aT kf ct 0 (by decide)) cls_frX mv_X3_tell ml_X3_56 0 rfl rfl rfl (kRm_ok (by decide) (by decide)) rfl rfl (Nat.le_of_ble_eq_true rfl) dX3_convicts_29 ?_
    have hsp : sp_convicts (m, k, kf, tp, tl, sb, sz, nu, ct) x y = (kFi 0, (m, k, kf, tp, tl, sb, sz, nu, kTe ct 0)) := by simp [-Nat.add_zero, sp_convicts, sp_tell, nI_l0, nI_l1, nI_l2, nI_l3, nI_l4, tN_l0, tN_l1, tN_l2, tN_l3, tN_l4, c12] <;> (repeat' (first | intro _ | refine ⟨?_, ?_⟩ | split)) <;> first | rfl | omega | (exfalso; omega)
    exact k_eqw (ws2 := clsA g a aK aL aT (sp_convicts (m, k, kf, tp, tl, sb, sz, nu, ct) x y).2 (jk, lk, lm, t, lt, nx, tk, sr, va)) (by rw [hsp]; rfl) (hR _ _ _ (jk, lk, lm, t, lt, nx, tk, sr, va) dX3_convicts_32 (by rw [hsp]))
  · obtain ⟨px, hlx, hpx, rfl⟩ := vBt_of (by omega) (by first | omega | (have := Nat.pow_le_pow_right (show 0 < 2 by decide) h0; omega)) c12
    refine k_aload_n hJ dX3_convicts_15 0 rfl ?_
    refine gf_X3_10 (v := .ref (aL 0)) hJ 0 rfl rfl dX3_convicts_16 ?_
    refine k_iload_n hJ dX3_convicts_19 2 rfl ?_
    refine c_VI (As := [.int y]) (st := []) hJ (ct_X0_has l g aL m lm y ) cls_frL mv_X0_has ml_X3_75 15 rfl rfl rfl (kRm_ok (by decide) (by decide)) rfl rfl (Nat.le_of_ble_eq_true rfl) dX3_convicts_20 ?_
    refine b_if_ne (tgt := 33) hJ dX3_convicts_23 (by decide) (fun c23 => ?_) (fun c23 => ?_)
    · obtain ⟨py, hpy, rfl⟩ := vIn_of (by omega) c23
      refine k_iload_n hJ dX3_convicts_33 1 rfl ?_
      refine k_iconst (v := nI 1) hJ dX3_convicts_34 (by decide) ?_
      refine k_iload_n hJ dX3_convicts_35 2 rfl ?_
      refine n_ibit hJ dX3_convicts_36 (by omega) ?_
      refine n_iand hJ dX3_convicts_37 ?_
      refine n_if_eq (tgt := 48) hJ dX3_convicts_38 (by decide) (by have := and_lt256 (b := 2 ^ py) (show px < 256 by omega); omega) (fun c38 => ?_) (fun c38 => ?_)
      · rw [bit_a py (by omega) px (by omega)] at c38
        refine k_iload_n hJ dX3_convicts_48 1 rfl ?_
        refine k_aload_n hJ dX3_convicts_49 0 rfl ?_
        refine gf_X3_10 (v := .ref (aL 0)) hJ 0 rfl rfl dX3_convicts_50 ?_
        refine k_iload_n hJ dX3_convicts_53 2 rfl ?_
        refine c_VI (As := [.int (nI py)]) (st := [.int (nI px)]) hJ (ct_X0_finders l g aL m lm py hB hm (by omega)) cls_frL mv_X0_finders ml_X3_131 15 rfl rfl rfl (kRm_ok (by decide) (by decide)) rfl rfl (Nat.le_of_ble_eq_true rfl) dX3_convicts_54 ?_
        have hff54 : vFinders m py < 256 := vBits_le8 _ (hm).1
        refine c_SI (As := [.int (nI px), .int (nI (vFinders m py))]) (st := []) hJ (ct_X3_isMajority l g px (vFinders m py) (by omega)) Fr.none ms_X3_isMajority ml_X3_139 (kRm_ok (by decide) (by decide)) rfl rfl (Nat.le_of_ble_eq_true rfl) dX3_convicts_57 ?_
        refine b_if_eq (tgt := 67) hJ dX3_convicts_60 (by decide) (fun c60 => ?_) (fun c60 => ?_)
        · refine k_iconst (v := nI 0) hJ dX3_convicts_67 (by decide) ?_
          have hsp : sp_convicts (m, k, kf, tp, tl, sb, sz, nu, ct) (nI px) (nI py) = (nI 0, (m, k, kf, tp, tl, sb, sz, nu, ct)) := by simp [-Nat.add_zero, sp_convicts, sp_tell, nI_l0, nI_l1, nI_l2, nI_l3, nI_l4, tN_l0, tN_l1, tN_l2, tN_l3, tN_l4, c12, c23, c60, nI_clamp (show px < 2 ^ 31 by omega), nI_clamp (show py < 2 ^ 31 by omega)] <;> (repeat' (first | intro _ | refine ⟨?_, ?_⟩ | split)) <;> first | rfl | omega | (exfalso; omega)
          exact k_eqw (ws2 := clsA g a aK aL aT (sp_convicts (m, k, kf, tp, tl, sb, sz, nu, ct) (nI px) (nI py)).2 (jk, lk, lm, t, lt, nx, tk, sr, va)) (by rw [hsp]; rfl) (hR _ _ _ (jk, lk, lm, t, lt, nx, tk, sr, va) dX3_convicts_68 (by rw [hsp]))
        · refine k_iconst (v := nI 1) hJ dX3_convicts_63 (by decide) ?_
          refine k_goto (tgt := 68) hJ dX3_convicts_64 (by decide) ?_
          have hsp : sp_convicts (m, k, kf, tp, tl, sb, sz, nu, ct) (nI px) (nI py) = (nI 1, (m, k, kf, tp, tl, sb, sz, nu, ct)) := by simp [-Nat.add_zero, sp_convicts, sp_tell, nI_l0, nI_l1, nI_l2, nI_l3, nI_l4, tN_l0, tN_l1, tN_l2, tN_l3, tN_l4, c12, c23, c60, nI_clamp (show px < 2 ^ 31 by omega), nI_clamp (show py < 2 ^ 31 by omega)] <;> (repeat' (first | intro _ | refine ⟨?_, ?_⟩ | split)) <;> first | rfl | omega | (exfalso; omega)
          exact k_eqw (ws2 := clsA g a aK aL aT (sp_convicts (m, k, kf, tp, tl, sb, sz, nu, ct) (nI px) (nI py)).2 (jk, lk, lm, t, lt, nx, tk, sr, va)) (by rw [hsp]; rfl) (hR _ _ _ (jk, lk, lm, t, lt, nx, tk, sr, va) dX3_convicts_68 (by rw [hsp]))
      · rw [Ne, bit_a py (by omega) px (by omega)] at c38
        refine k_aload_n hJ dX3_convicts_41 0 rfl ?_
        refine k_ldc hJ dX3_convicts_42 cw_X3_138 ?_
        refine k_eqs (st2 := [.int (kFi 4), .ref (a 0)]) (by rw [kFi_c4]) ?_
        refine c_VI (As := [.int (kFi 4)]) (st := []) hJ (ct_X3_tell l g a aK aL aT kf ct 4 (by decide)) cls_frX mv_X3_tell ml_X3_56 0 rfl rfl rfl (kRm_ok (by decide) (by decide)) rfl rfl (Nat.le_of_ble_eq_true rfl) dX3_convicts_44 ?_
        have hsp : sp_convicts (m, k, kf, tp, tl, sb, sz, nu, ct) (nI px) (nI py) = (kFi 4, (m, k, kf, tp, tl, sb, sz, nu, kTe ct 4)) := by simp [-Nat.add_zero, sp_convicts, sp_tell, nI_l0, nI_l1, nI_l2, nI_l3, nI_l4, tN_l0, tN_l1, tN_l2, tN_l3, tN_l4, c12, c23, nI_clamp (show px < 2 ^ 31 by omega), nI_clamp (show py < 2 ^ 31 by omega)] <;> (repeat' (first | intro _ | refine ⟨?_, ?_⟩ | split)) <;> first | rfl | omega | (exfalso; omega)
        exact k_eqw (ws2 := clsA g a aK aL aT (sp_convicts (m, k, kf, tp, tl, sb, sz, nu, ct) (nI px) (nI py)).2 (jk, lk, lm, t, lt, nx, tk, sr, va)) (by rw [hsp]; rfl) (hR _ _ _ (jk, lk, lm, t, lt, nx, tk, sr, va) dX3_convicts_47 (by rw [hsp]))
    · refine k_aload_n hJ dX3_convicts_26 0 rfl ?_
      refine k_ldc hJ dX3_convicts_27 cw_X3_55 ?_
      refine k_eqs (st2 := [.int (kFi 0), .ref (a 0)]) (by rw [kFi_c0]) ?_
      refine c_VI (As := [.int (kFi 0)]) (st := []) hJ (ct_X3_tell l g a aK aL aT kf ct 0 (by decide)) cls_frX mv_X3_tell ml_X3_56 0 rfl rfl rfl (kRm_ok (by decide) (by decide)) rfl rfl (Nat.le_of_ble_eq_true rfl) dX3_convicts_29 ?_
      have hsp : sp_convicts (m, k, kf, tp, tl, sb, sz, nu, ct) (nI px) y = (kFi 0, (m, k, kf, tp, tl, sb, sz, nu, kTe ct 0)) := by simp [-Nat.add_zero, sp_convicts, sp_tell, nI_l0, nI_l1, nI_l2, nI_l3, nI_l4, tN_l0, tN_l1, tN_l2, tN_l3, tN_l4, c12, c23, nI_clamp (show px < 2 ^ 31 by omega)] <;> (repeat' (first | intro _ | refine ⟨?_, ?_⟩ | split)) <;> first | rfl | omega | (exfalso; omega)
      exact k_eqw (ws2 := clsA g a aK aL aT (sp_convicts (m, k, kf, tp, tl, sb, sz, nu, ct) (nI px) y).2 (jk, lk, lm, t, lt, nx, tk, sr, va)) (by rw [hsp]; rfl) (hR _ _ _ (jk, lk, lm, t, lt, nx, tk, sr, va) dX3_convicts_32 (by rw [hsp]))
set_option maxHeartbeats 4000000 in
set_option maxRecDepth 100000 in
theorem cp_bath (l : Launch) (g : KG) (a aK aL aT : Nat → Nat) (j : CJ) (s : KS) (hs : kOk s) (x : Int32) : CT l yX3_bath cX3_bath 6 (some .int) (rmK 5) g [.ref (a 0), .int x] (clsA g a aK aL aT s j) (S := CJ) oI (fun r _ => r = (sp_bath s x).1) (fun j => clsA g a aK aL aT (sp_bath s x).2 j) := by
  obtain ⟨m, k, kf, tp, tl, sb, sz, nu, ct⟩ := s
  obtain ⟨jk, lk, lm, t, lt, nx, tk, sr, va⟩ := j
  obtain ⟨hm, hk, htl, htp, hsh⟩ := hs
  have h0 : m 0 ≤ 8 := hm.1
  have h1 : m 1 ≤ 9999 := hm.2.1
  have h2 : m 2 ≤ 4 := hm.2.2.1
  have h3 : m 3 ≤ 99 := hm.2.2.2.2.1
  have hB : 9999 < 2 ^ 30 := by decide
  refine k_bodyI (by decide) (Nat.le_of_ble_eq_true rfl) (fun _ _ _ => rfl) (fun J hJ hR => ?_)
  show J (clsW g a aK aL aT kf ct (if kf then k else jk) lk m lm t lt tp tl nx tk sr va sb sz nu) [(0, .ref (a 0)), (1, .int x)] 0 []
  refine k_aload_n hJ dX3_bath_0 0 rfl ?_
  refine gf_X3_10 (v := .ref (aL 0)) hJ 0 rfl rfl dX3_bath_1 ?_
  refine k_iload_n hJ dX3_bath_4 1 rfl ?_
  refine c_VI (As := [.int x]) (st := []) hJ (ct_X0_has l g aL m lm x ) cls_frL mv_X0_has ml_X3_75 15 rfl rfl rfl (kRm_ok (by decide) (by decide)) rfl rfl (Nat.le_of_ble_eq_true rfl) dX3_bath_5 ?_
  refine b_if_ne (tgt := 18) hJ dX3_bath_8 (by decide) (fun c8 => ?_) (fun c8 => ?_)
  · obtain ⟨px, hpx, rfl⟩ := vIn_of (by omega) c8
    refine k_aload_n hJ dX3_bath_18 0 rfl ?_
    refine gf_X3_19 (v := .ref (aT 0)) hJ 0 rfl rfl dX3_bath_19 ?_
    refine k_aload_n hJ dX3_bath_22 0 rfl ?_
    refine gf_X3_10 (v := .ref (aL 0)) hJ 0 rfl rfl dX3_bath_23 ?_
    refine c_VV (As := [.ref (aL 0)]) (st := []) hJ (CT_swap (ct_X0_become l g aT aL t m lt lm)) cls_frLT mv_X0_become ml_X3_154 28 rfl rfl rfl (kRm_ok (by decide) (by decide)) rfl rfl (Nat.le_of_ble_eq_true rfl) dX3_bath_26 ?_
    refine k_aload_n hJ dX3_bath_29 0 rfl ?_
    refine gf_X3_19 (v := .ref (aT 0)) hJ 0 rfl rfl dX3_bath_30 ?_
    refine k_callV (As := []) (st := []) hJ (ct_X0_hourGoes l g aT m lt hB hm) (fun _ => cls_frT) mv_X0_hourGoes ml_X3_145 28 rfl rfl rfl (kRm_ok (by decide) (by decide)) rfl rfl (Nat.le_of_ble_eq_true rfl) dX3_bath_33 (fun _ u33 _ => ?_)
    refine k_aload_n hJ dX3_bath_36 0 rfl ?_
    refine gf_X3_19 (v := .ref (aT 0)) hJ 0 rfl rfl dX3_bath_37 ?_
    refine k_iload_n hJ dX3_bath_40 1 rfl ?_
    refine c_VI (As := [.int (nI px)]) (st := []) hJ (ct_X0_finders l g aT (vHour m) u33 px (show 9999 + 1 < 2 ^ 30 by decide) (vOk_hour hm) (by omega)) cls_frT mv_X0_finders ml_X3_131 28 rfl rfl rfl (kRm_ok (by decide) (by decide)) rfl rfl (Nat.le_of_ble_eq_true rfl) dX3_bath_41 ?_
    have hff41 : vFinders (vHour m) px < 256 := vBits_le8 _ ((vOk_hour hm)).1
    have hq41 := vPop_le (s := vFinders (vHour m) px)
    refine c_SI (As := [.int (nI (vFinders (vHour m) px))]) (st := []) hJ (ct_J6_bitCount_0f7a4 l g (vFinders (vHour m) px) (by first | omega | exact and_lt256 (by omega))) Fr.none ms_J6_bitCount_0f7a4 ml_X3_165 (kRm_ok (by decide) (by decide)) rfl rfl (Nat.le_of_ble_eq_true rfl) dX3_bath_44 ?_
    refine k_istore_n (lv1 := [(0, .ref (a 0)), (1, .int (nI px)), (2, .int (nI (vPop (vFinders (vHour m) px))))]) hJ dX3_bath_47 (by decide) [1, 2, 0] rfl ?_
    refine k_iconst (v := (-1)) hJ dX3_bath_48 (by decide) ?_
    refine k_istore_n (lv1 := [(0, .ref (a 0)), (1, .int (nI px)), (2, .int (nI (vPop (vFinders (vHour m) px)))), (3, .int (-1))]) hJ dX3_bath_49 (by decide) [1, 2, 3, 0] rfl ?_
    refine k_iconst (v := nI 0) hJ dX3_bath_50 (by decide) ?_
    refine k_istore (lv1 := [(0, .ref (a 0)), (1, .int (nI px)), (2, .int (nI (vPop (vFinders (vHour m) px)))), (3, .int (-1)), (4, .int (nI 0))]) hJ dX3_bath_51 (by decide) [1, 2, 3, 4, 0] rfl ?_
    have L53 : ∀ (fu : Nat) (i : Nat) (M : Nat → Nat) (L : Nat → Int32), (i ≤ m 0) → (m 0 + 1 ≤ i + fu) → J (clsW g a aK aL aT kf ct (if kf then k else jk) lk m lm M L tp tl nx tk sr va sb sz nu) [(0, .ref (a 0)), (1, .int (nI px)), (2, .int (nI ((vBa m px i).2))), (3, .int (kOpt (vBa m px i).1)), (4, .int (nI i))] 53 [] := by
      intro fu
      induction fu with
      | zero => intro i M L hi hf; exfalso; omega
      | succ fu ih =>
        intro i M L hi hf
        refine k_iload hJ dX3_bath_53 4 rfl ?_
        refine k_aload_n hJ dX3_bath_55 0 rfl ?_
        refine gf_X3_10 (v := .ref (aL 0)) hJ 0 rfl rfl dX3_bath_56 ?_
        refine gf_X3_67 (v := .int (nI (m 0))) hJ 15 rfl rfl dX3_bath_59 ?_
        refine n_icmp_ge (tgt := 124) hJ dX3_bath_62 (by decide) (by omega) (by omega) (fun c62 => ?_) (fun c62 => ?_)
        · have hd6 : i = m 0 := by omega
          subst hd6
          rcases hO : (vBa m px (m 0)).1 with _ | bb
          · show J (clsW g a aK aL aT kf ct (if kf then k else jk) lk m lm M L tp tl nx tk sr va sb sz nu) [(0, .ref (a 0)), (1, .int (nI px)), (2, .int (nI ((vBa m px (m 0)).2))), (3, .int (-1)), (4, .int (nI (m 0)))] 124 []
            refine k_iload_n hJ dX3_bath_124 3 rfl ?_
            refine k_if_ge (tgt := 137) hJ dX3_bath_125 (by decide) (fun c125 => ?_) (fun c125 => ?_)
            · refine k_iload_n hJ dX3_bath_137 3 rfl ?_
              exact absurd c125 (by decide)
            · refine k_aload_n hJ dX3_bath_128 0 rfl ?_
              refine k_ldc hJ dX3_bath_129 cw_X3_130 ?_
              refine k_eqs (st2 := [.int (kFi 3), .ref (a 0)]) (by rw [kFi_c3]) ?_
              refine c_VI (As := [.int (kFi 3)]) (st := []) hJ (ct_X3_tell l g a aK aL aT kf ct 3 (by decide)) cls_frX mv_X3_tell ml_X3_56 0 rfl rfl rfl (kRm_ok (by decide) (by decide)) rfl rfl (Nat.le_of_ble_eq_true rfl) dX3_bath_131 ?_
              refine k_goto (tgt := 138) hJ dX3_bath_134 (by decide) ?_
              have hsp : sp_bath (m, k, kf, tp, tl, sb, sz, nu, ct) (nI px) = (kFi 3, (m, k, kf, tp, tl, sb, sz, nu, kTe ct 3)) := by simp [sp_bath, sp_opt, sp_tell, c8, nI_clamp (show px < 2 ^ 31 by omega), hO]
              exact k_eqw (ws2 := clsA g a aK aL aT (sp_bath (m, k, kf, tp, tl, sb, sz, nu, ct) (nI px)).2 (jk, lk, lm, M, L, nx, tk, sr, va)) (by rw [hsp]; rfl) (hR _ _ _ (jk, lk, lm, M, L, nx, tk, sr, va) dX3_bath_138 (by rw [hsp]))
          · show J (clsW g a aK aL aT kf ct (if kf then k else jk) lk m lm M L tp tl nx tk sr va sb sz nu) [(0, .ref (a 0)), (1, .int (nI px)), (2, .int (nI ((vBa m px (m 0)).2))), (3, .int (nI bb)), (4, .int (nI (m 0)))] 124 []
            have hbb := (vBa_le m px (m 0)).2 bb hO
            refine k_iload_n hJ dX3_bath_124 3 rfl ?_
            refine n_if_ge (tgt := 137) hJ dX3_bath_125 (by decide) (by omega) (fun c125 => ?_) (fun c125 => ?_)
            · refine k_iload_n hJ dX3_bath_137 3 rfl ?_
              have hsp : sp_bath (m, k, kf, tp, tl, sb, sz, nu, ct) (nI px) = (nI bb, (m, k, kf, tp, tl, sb, sz, nu, ct)) := by simp [sp_bath, sp_opt, sp_tell, c8, nI_clamp (show px < 2 ^ 31 by omega), hO]
              exact k_eqw (ws2 := clsA g a aK aL aT (sp_bath (m, k, kf, tp, tl, sb, sz, nu, ct) (nI px)).2 (jk, lk, lm, M, L, nx, tk, sr, va)) (by rw [hsp]; rfl) (hR _ _ _ (jk, lk, lm, M, L, nx, tk, sr, va) dX3_bath_138 (by rw [hsp]))
            · exact absurd c125 (by omega)
        · have hl := (vBa_le m px i).1
          refine k_aload_n hJ dX3_bath_65 0 rfl ?_
          refine gf_X3_19 (v := .ref (aT 0)) hJ 0 rfl rfl dX3_bath_66 ?_
          refine k_aload_n hJ dX3_bath_69 0 rfl ?_
          refine gf_X3_10 (v := .ref (aL 0)) hJ 0 rfl rfl dX3_bath_70 ?_
          refine c_VV (As := [.ref (aL 0)]) (st := []) hJ (CT_swap (ct_X0_become l g aT aL M m L lm)) cls_frLT mv_X0_become ml_X3_154 28 rfl rfl rfl (kRm_ok (by decide) (by decide)) rfl rfl (Nat.le_of_ble_eq_true rfl) dX3_bath_73 ?_
          refine k_aload_n hJ dX3_bath_76 0 rfl ?_
          refine gf_X3_19 (v := .ref (aT 0)) hJ 0 rfl rfl dX3_bath_77 ?_
          refine k_iload hJ dX3_bath_80 4 rfl ?_
          refine c_VI (As := [.int (nI i)]) (st := []) hJ (ct_X0_washes l g aT m L i hB hm (by omega)) cls_frT mv_X0_washes ml_X3_115 28 rfl rfl rfl (kRm_ok (by decide) (by decide)) rfl rfl (Nat.le_of_ble_eq_true rfl) dX3_bath_82 ?_
          refine k_pop hJ dX3_bath_85 rfl ?_
          refine k_aload_n hJ dX3_bath_86 0 rfl ?_
          refine gf_X3_19 (v := .ref (aT 0)) hJ 0 rfl rfl dX3_bath_87 ?_
          refine k_callV (As := []) (st := []) hJ (ct_X0_hourGoes l g aT (vWash m i 6) L hB (vOk_wash hm (show i < 8 by omega))) (fun _ => cls_frT) mv_X0_hourGoes ml_X3_145 28 rfl rfl rfl (kRm_ok (by decide) (by decide)) rfl rfl (Nat.le_of_ble_eq_true rfl) dX3_bath_90 (fun _ u90 _ => ?_)
          refine k_aload_n hJ dX3_bath_93 0 rfl ?_
          refine gf_X3_19 (v := .ref (aT 0)) hJ 0 rfl rfl dX3_bath_94 ?_
          refine k_iload_n hJ dX3_bath_97 1 rfl ?_
          refine c_VI (As := [.int (nI px)]) (st := []) hJ (ct_X0_finders l g aT (vHour (vWash m i 6)) u90 px (show 9999 + 1 < 2 ^ 30 by decide) (vOk_hour (vOk_wash hm (show i < 8 by omega))) (by omega)) cls_frT mv_X0_finders ml_X3_131 28 rfl rfl rfl (kRm_ok (by decide) (by decide)) rfl rfl (Nat.le_of_ble_eq_true rfl) dX3_bath_98 ?_
          have hff98 : vFinders (vHour (vWash m i 6)) px < 256 := vBits_le8 _ ((vOk_hour (vOk_wash hm (show i < 8 by omega)))).1
          have hq98 := vPop_le (s := vFinders (vHour (vWash m i 6)) px)
          refine c_SI (As := [.int (nI (vFinders (vHour (vWash m i 6)) px))]) (st := []) hJ (ct_J6_bitCount_0f7a4 l g (vFinders (vHour (vWash m i 6)) px) (by first | omega | exact and_lt256 (by omega))) Fr.none ms_J6_bitCount_0f7a4 ml_X3_165 (kRm_ok (by decide) (by decide)) rfl rfl (Nat.le_of_ble_eq_true rfl) dX3_bath_101 ?_
          refine k_istore (lv1 := [(0, .ref (a 0)), (1, .int (nI px)), (2, .int (nI ((vBa m px i).2))), (3, .int (kOpt (vBa m px i).1)), (4, .int (nI i)), (5, .int (nI (vPop (vFinders (vHour (vWash m i 6)) px))))]) hJ dX3_bath_104 (by decide) [1, 2, 3, 4, 5, 0] rfl ?_
          refine k_iload hJ dX3_bath_106 5 rfl ?_
          refine k_iload_n hJ dX3_bath_108 2 rfl ?_
          refine n_icmp_ge (tgt := 118) hJ dX3_bath_109 (by decide) (by omega) (by omega) (fun c109 => ?_) (fun c109 => ?_)
          · refine n_iinc (b := 1) (lv1 := [(0, .ref (a 0)), (1, .int (nI px)), (2, .int (nI ((vBa m px i).2))), (3, .int (kOpt (vBa m px i).1)), (4, .int (nI (i + 1))), (5, .int (nI (vPop (vFinders (vHour (vWash m i 6)) px))))]) hJ dX3_bath_118 4 rfl (by decide) (by decide) [1, 2, 3, 4, 0, 5] rfl ?_
            refine k_goto (tgt := 53) hJ dX3_bath_121 (by decide) ?_
            refine k_lv (lv1 := [(0, .ref (a 0)), (1, .int (nI px)), (2, .int (nI ((vBa m px i).2))), (3, .int (kOpt (vBa m px i).1)), (4, .int (nI (i + 1)))]) hJ [0, 1, 2, 3, 4] rfl ?_
            refine k_eql (lv1 := [(0, .ref (a 0)), (1, .int (nI px)), (2, .int (nI ((vBa m px (i + 1)).2))), (3, .int (kOpt (vBa m px (i + 1)).1)), (4, .int (nI (i + 1)))]) (by rw [vBa_f (by omega)]) ?_
            exact ih (i + 1) _ u90 (by omega) (by omega)
          · refine k_iload hJ dX3_bath_112 5 rfl ?_
            refine k_istore_n (lv1 := [(0, .ref (a 0)), (1, .int (nI px)), (2, .int (nI (vPop (vFinders (vHour (vWash m i 6)) px)))), (3, .int (kOpt (vBa m px i).1)), (4, .int (nI i)), (5, .int (nI (vPop (vFinders (vHour (vWash m i 6)) px))))]) hJ dX3_bath_114 (by decide) [1, 2, 0, 3, 4, 5] rfl ?_
            refine k_iload hJ dX3_bath_115 4 rfl ?_
            refine k_istore_n (lv1 := [(0, .ref (a 0)), (1, .int (nI px)), (2, .int (nI (vPop (vFinders (vHour (vWash m i 6)) px)))), (3, .int (nI i)), (4, .int (nI i)), (5, .int (nI (vPop (vFinders (vHour (vWash m i 6)) px))))]) hJ dX3_bath_117 (by decide) [1, 2, 3, 0, 4, 5] rfl ?_
            refine n_iinc (b := 1) (lv1 := [(0, .ref (a 0)), (1, .int (nI px)), (2, .int (nI (vPop (vFinders (vHour (vWash m i 6)) px)))), (3, .int (nI i)), (4, .int (nI (i + 1))), (5, .int (nI (vPop (vFinders (vHour (vWash m i 6)) px))))]) hJ dX3_bath_118 4 rfl (by decide) (by decide) [1, 2, 3, 4, 0, 5] rfl ?_
            refine k_goto (tgt := 53) hJ dX3_bath_121 (by decide) ?_
            refine k_lv (lv1 := [(0, .ref (a 0)), (1, .int (nI px)), (2, .int (nI (vPop (vFinders (vHour (vWash m i 6)) px)))), (3, .int (nI i)), (4, .int (nI (i + 1)))]) hJ [0, 1, 2, 3, 4] rfl ?_
            refine k_eql (lv1 := [(0, .ref (a 0)), (1, .int (nI px)), (2, .int (nI ((vBa m px (i + 1)).2))), (3, .int (kOpt (vBa m px (i + 1)).1)), (4, .int (nI (i + 1)))]) (by rw [vBa_t (by omega)]; rfl) ?_
            exact ih (i + 1) _ u90 (by omega) (by omega)
    exact L53 (m 0 + 1) 0 _ u33 (by omega) (by omega)
  · refine k_aload_n hJ dX3_bath_11 0 rfl ?_
    refine k_ldc hJ dX3_bath_12 cw_X3_55 ?_
    refine k_eqs (st2 := [.int (kFi 0), .ref (a 0)]) (by rw [kFi_c0]) ?_
    refine c_VI (As := [.int (kFi 0)]) (st := []) hJ (ct_X3_tell l g a aK aL aT kf ct 0 (by decide)) cls_frX mv_X3_tell ml_X3_56 0 rfl rfl rfl (kRm_ok (by decide) (by decide)) rfl rfl (Nat.le_of_ble_eq_true rfl) dX3_bath_14 ?_
    have hsp : sp_bath (m, k, kf, tp, tl, sb, sz, nu, ct) x = (kFi 0, (m, k, kf, tp, tl, sb, sz, nu, kTe ct 0)) := by simp [-Nat.add_zero, sp_bath, sp_tell, nI_l0, nI_l1, nI_l2, nI_l3, nI_l4, tN_l0, tN_l1, tN_l2, tN_l3, tN_l4, c8] <;> (repeat' (first | intro _ | refine ⟨?_, ?_⟩ | split)) <;> first | rfl | omega | (exfalso; omega)
    exact k_eqw (ws2 := clsA g a aK aL aT (sp_bath (m, k, kf, tp, tl, sb, sz, nu, ct) x).2 (jk, lk, lm, t, lt, nx, tk, sr, va)) (by rw [hsp]; rfl) (hR _ _ _ (jk, lk, lm, t, lt, nx, tk, sr, va) dX3_bath_17 (by rw [hsp]))
theorem vJ1_stay {f p n s x : Nat} (h : vJ1 f p n s = some x) : ∀ k, vJ1 f p n (s + k) = some x
  | 0 => h
  | k + 1 => by rw [← Nat.add_assoc, vJ1, vJ1_stay h k]
set_option maxHeartbeats 4000000 in
set_option maxRecDepth 100000 in
theorem cp_jury (l : Launch) (g : KG) (a aK aL aT : Nat → Nat) (j : CJ) (s : KS) (hs : kOk s) (x : Int32) (y : Int32) : CT l yX3_jury cX3_jury 5 (some .int) (rmK 5) g [.ref (a 0), .int x, .int y] (clsA g a aK aL aT s j) (S := CJ) oI (fun r _ => r = (sp_jury s x y).1) (fun j => clsA g a aK aL aT (sp_jury s x y).2 j) := by
  obtain ⟨m, k, kf, tp, tl, sb, sz, nu, ct⟩ := s
  obtain ⟨jk, lk, lm, t, lt, nx, tk, sr, va⟩ := j
  obtain ⟨hm, hk, htl, htp, hsh⟩ := hs
  have h0 : m 0 ≤ 8 := hm.1
  have h1 : m 1 ≤ 9999 := hm.2.1
  have h2 : m 2 ≤ 4 := hm.2.2.1
  have h3 : m 3 ≤ 99 := hm.2.2.2.2.1
  have hB : 9999 < 2 ^ 30 := by decide
  refine k_bodyI (by decide) (Nat.le_of_ble_eq_true rfl) (fun _ _ _ => rfl) (fun J hJ hR => ?_)
  have hpw : 2 ^ m 0 ≤ 256 := Nat.pow_le_pow_right (by decide) h0
  have hp1 : 1 ≤ 2 ^ m 0 := Nat.one_le_two_pow
  show J (clsW g a aK aL aT kf ct (if kf then k else jk) lk m lm t lt tp tl nx tk sr va sb sz nu) [(0, .ref (a 0)), (1, .int x), (2, .int y)] 0 []
  refine k_aload_n hJ dX3_jury_0 0 rfl ?_
  refine gf_X3_10 (v := .ref (aL 0)) hJ 0 rfl rfl dX3_jury_1 ?_
  refine k_iload_n hJ dX3_jury_4 1 rfl ?_
  refine c_VI (As := [.int x]) (st := []) hJ (ct_X0_has l g aL m lm x ) cls_frL mv_X0_has ml_X3_75 15 rfl rfl rfl (kRm_ok (by decide) (by decide)) rfl rfl (Nat.le_of_ble_eq_true rfl) dX3_jury_5 ?_
  refine b_if_eq (tgt := 21) hJ dX3_jury_8 (by decide) (fun c8 => ?_) (fun c8 => ?_)
  · refine k_aload_n hJ dX3_jury_21 0 rfl ?_
    refine k_ldc hJ dX3_jury_22 cw_X3_55 ?_
    refine k_eqs (st2 := [.int (kFi 0), .ref (a 0)]) (by rw [kFi_c0]) ?_
    refine c_VI (As := [.int (kFi 0)]) (st := []) hJ (ct_X3_tell l g a aK aL aT kf ct 0 (by decide)) cls_frX mv_X3_tell ml_X3_56 0 rfl rfl rfl (kRm_ok (by decide) (by decide)) rfl rfl (Nat.le_of_ble_eq_true rfl) dX3_jury_24 ?_
    have hsp : sp_jury (m, k, kf, tp, tl, sb, sz, nu, ct) x y = (kFi 0, (m, k, kf, tp, tl, sb, sz, nu, kTe ct 0)) := by simp [-Nat.add_zero, sp_jury, sp_tell, nI_l0, nI_l1, nI_l2, nI_l3, nI_l4, tN_l0, tN_l1, tN_l2, tN_l3, tN_l4, c8] <;> (repeat' (first | intro _ | refine ⟨?_, ?_⟩ | split)) <;> first | rfl | omega | (exfalso; omega)
    exact k_eqw (ws2 := clsA g a aK aL aT (sp_jury (m, k, kf, tp, tl, sb, sz, nu, ct) x y).2 (jk, lk, lm, t, lt, nx, tk, sr, va)) (by rw [hsp]; rfl) (hR _ _ _ (jk, lk, lm, t, lt, nx, tk, sr, va) dX3_jury_27 (by rw [hsp]))
  · obtain ⟨px, hpx, rfl⟩ := vIn_of (by omega) c8
    refine k_iload_n hJ dX3_jury_11 2 rfl ?_
    refine k_iconst (v := nI 1) hJ dX3_jury_12 (by decide) ?_
    refine k_bipush (v := nI 7) hJ dX3_jury_13 (by decide) ?_
    refine c_SI (As := [.int y, .int (nI 1), .int (nI 7)]) (st := []) hJ (ct_X3_within l g y 1 7) Fr.none ms_X3_within ml_X3_44 (kRm_ok (by decide) (by decide)) rfl rfl (Nat.le_of_ble_eq_true rfl) dX3_jury_15 ?_
    refine b_if_ne (tgt := 28) hJ dX3_jury_18 (by decide) (fun c18 => ?_) (fun c18 => ?_)
    · obtain ⟨py, hly, hpy, rfl⟩ := vBt_of (by omega) (by first | omega | (have := Nat.pow_le_pow_right (show 0 < 2 by decide) h0; omega)) c18
      refine k_aload_n hJ dX3_jury_28 0 rfl ?_
      refine gf_X3_10 (v := .ref (aL 0)) hJ 0 rfl rfl dX3_jury_29 ?_
      refine k_iload_n hJ dX3_jury_32 1 rfl ?_
      refine c_VI (As := [.int (nI px)]) (st := []) hJ (ct_X0_finders l g aL m lm px hB hm (by omega)) cls_frL mv_X0_finders ml_X3_131 15 rfl rfl rfl (kRm_ok (by decide) (by decide)) rfl rfl (Nat.le_of_ble_eq_true rfl) dX3_jury_33 ?_
      have hff33 : vFinders m px < 256 := vBits_le8 _ (hm).1
      refine k_istore_n (lv1 := [(0, .ref (a 0)), (1, .int (nI px)), (2, .int (nI py)), (3, .int (nI (vFinders m px)))]) hJ dX3_jury_36 (by decide) [1, 2, 3, 0] rfl ?_
      refine k_iconst (v := nI 1) hJ dX3_jury_37 (by decide) ?_
      refine k_istore (lv1 := [(0, .ref (a 0)), (1, .int (nI px)), (2, .int (nI py)), (3, .int (nI (vFinders m px))), (4, .int (nI 1))]) hJ dX3_jury_38 (by decide) [1, 2, 3, 4, 0] rfl ?_
      have L40 : ∀ (fu : Nat) (S : Nat), (1 ≤ S) → (S ≤ 2 ^ m 0) → (2 ^ m 0 + 1 ≤ S + fu) → (vJ1 (vFinders m px) px py S = none) → J (clsW g a aK aL aT kf ct (if kf then k else jk) lk m lm t lt tp tl nx tk sr va sb sz nu) [(0, .ref (a 0)), (1, .int (nI px)), (2, .int (nI py)), (3, .int (nI (vFinders m px))), (4, .int (nI S))] 40 [] := by
        intro fu
        induction fu with
        | zero => intro S h1S hS hf hn; exfalso; omega
        | succ fu ih =>
          intro S h1S hS hf hn
          refine k_iload hJ dX3_jury_40 4 rfl ?_
          refine k_aload_n hJ dX3_jury_42 0 rfl ?_
          refine gf_X3_10 (v := .ref (aL 0)) hJ 0 rfl rfl dX3_jury_43 ?_
          refine c_VI (As := []) (st := [.int (nI S)]) hJ (ct_X0_everybody l g aL m lm  hB hm ) cls_frL mv_X0_everybody ml_X3_134 15 rfl rfl rfl (kRm_ok (by decide) (by decide)) rfl rfl (Nat.le_of_ble_eq_true rfl) dX3_jury_46 ?_
          refine n_icmp_gt (tgt := 72) hJ dX3_jury_49 (by decide) (by omega) (by omega) (fun c49 => ?_) (fun c49 => ?_)
          · refine k_aload_n hJ dX3_jury_72 0 rfl ?_
            refine k_ldc hJ dX3_jury_73 cw_X3_130 ?_
            refine k_eqs (st2 := [.int (kFi 3), .ref (a 0)]) (by rw [kFi_c3]) ?_
            refine c_VI (As := [.int (kFi 3)]) (st := []) hJ (ct_X3_tell l g a aK aL aT kf ct 3 (by decide)) cls_frX mv_X3_tell ml_X3_56 0 rfl rfl rfl (kRm_ok (by decide) (by decide)) rfl rfl (Nat.le_of_ble_eq_true rfl) dX3_jury_75 ?_
            have hF : vJ1 (vFinders m px) px py (2 ^ m 0) = none := by rw [← show S = 2 ^ m 0 by omega]; exact hn
            have hsp : sp_jury (m, k, kf, tp, tl, sb, sz, nu, ct) (nI px) (nI py) = (kFi 3, (m, k, kf, tp, tl, sb, sz, nu, kTe ct 3)) := by simp [sp_jury, sp_opt, sp_tell, c8, c18, nI_clamp (show px < 2 ^ 31 by omega), nI_clamp (show py < 2 ^ 31 by omega), hF]
            exact k_eqw (ws2 := clsA g a aK aL aT (sp_jury (m, k, kf, tp, tl, sb, sz, nu, ct) (nI px) (nI py)).2 (jk, lk, lm, t, lt, nx, tk, sr, va)) (by rw [hsp]; rfl) (hR _ _ _ (jk, lk, lm, t, lt, nx, tk, sr, va) dX3_jury_78 (by rw [hsp]))
          · refine k_iload hJ dX3_jury_52 4 rfl ?_
            refine k_iload_n hJ dX3_jury_54 1 rfl ?_
            refine k_iload_n hJ dX3_jury_55 2 rfl ?_
            refine k_iload_n hJ dX3_jury_56 3 rfl ?_
            refine c_SI (As := [.int (nI S), .int (nI px), .int (nI py), .int (nI (vFinders m px))]) (st := []) hJ (ct_X3_isJuryAgainst l g S px py (vFinders m px) (by omega) (by omega) (by omega)) Fr.none ms_X3_isJuryAgainst ml_X3_170 (kRm_ok (by decide) (by decide)) rfl rfl (Nat.le_of_ble_eq_true rfl) dX3_jury_57 ?_
            refine b_if_eq (tgt := 66) hJ dX3_jury_60 (by decide) (fun c60 => ?_) (fun c60 => ?_)
            · refine n_iinc (b := 1) (lv1 := [(0, .ref (a 0)), (1, .int (nI px)), (2, .int (nI py)), (3, .int (nI (vFinders m px))), (4, .int (nI (S + 1)))]) hJ dX3_jury_66 4 rfl (by decide) (by decide) [1, 2, 3, 4, 0] rfl ?_
              refine k_goto (tgt := 40) hJ dX3_jury_69 (by decide) ?_
              exact ih (S + 1) (by omega) (by omega) (by omega) (by rw [(vJ1_no c60).1]; exact hn)
            · refine k_iload hJ dX3_jury_63 4 rfl ?_
              have hF : vJ1 (vFinders m px) px py (2 ^ m 0) = some S := by rw [show 2 ^ m 0 = (S + 1) + (2 ^ m 0 - (S + 1)) by omega]; exact vJ1_stay (by rw [(vJ1_yes h1S c60).1, if_pos ((vJ_0 _ _ _ _).mpr hn)]) _
              have hsp : sp_jury (m, k, kf, tp, tl, sb, sz, nu, ct) (nI px) (nI py) = (nI S, (m, k, kf, tp, tl, sb, sz, nu, ct)) := by simp [sp_jury, sp_opt, sp_tell, c8, c18, nI_clamp (show px < 2 ^ 31 by omega), nI_clamp (show py < 2 ^ 31 by omega), hF]
              exact k_eqw (ws2 := clsA g a aK aL aT (sp_jury (m, k, kf, tp, tl, sb, sz, nu, ct) (nI px) (nI py)).2 (jk, lk, lm, t, lt, nx, tk, sr, va)) (by rw [hsp]; rfl) (hR _ _ _ (jk, lk, lm, t, lt, nx, tk, sr, va) dX3_jury_65 (by rw [hsp]))
      exact L40 (2 ^ m 0) 1 (by omega) (by omega) (by omega) (vJ1_1 _ _ _)
    · refine k_aload_n hJ dX3_jury_21 0 rfl ?_
      refine k_ldc hJ dX3_jury_22 cw_X3_55 ?_
      refine k_eqs (st2 := [.int (kFi 0), .ref (a 0)]) (by rw [kFi_c0]) ?_
      refine c_VI (As := [.int (kFi 0)]) (st := []) hJ (ct_X3_tell l g a aK aL aT kf ct 0 (by decide)) cls_frX mv_X3_tell ml_X3_56 0 rfl rfl rfl (kRm_ok (by decide) (by decide)) rfl rfl (Nat.le_of_ble_eq_true rfl) dX3_jury_24 ?_
      have hsp : sp_jury (m, k, kf, tp, tl, sb, sz, nu, ct) (nI px) y = (kFi 0, (m, k, kf, tp, tl, sb, sz, nu, kTe ct 0)) := by simp [-Nat.add_zero, sp_jury, sp_tell, nI_l0, nI_l1, nI_l2, nI_l3, nI_l4, tN_l0, tN_l1, tN_l2, tN_l3, tN_l4, c8, c18, nI_clamp (show px < 2 ^ 31 by omega)] <;> (repeat' (first | intro _ | refine ⟨?_, ?_⟩ | split)) <;> first | rfl | omega | (exfalso; omega)
      exact k_eqw (ws2 := clsA g a aK aL aT (sp_jury (m, k, kf, tp, tl, sb, sz, nu, ct) (nI px) y).2 (jk, lk, lm, t, lt, nx, tk, sr, va)) (by rw [hsp]; rfl) (hR _ _ _ (jk, lk, lm, t, lt, nx, tk, sr, va) dX3_jury_27 (by rw [hsp]))
set_option maxHeartbeats 4000000 in
set_option maxRecDepth 100000 in
theorem cp_juries (l : Launch) (g : KG) (a aK aL aT : Nat → Nat) (j : CJ) (s : KS) (hs : kOk s) (x : Int32) (y : Int32) : CT l yX3_juries cX3_juries 6 (some .int) (rmK 5) g [.ref (a 0), .int x, .int y] (clsA g a aK aL aT s j) (S := CJ) oI (fun r _ => r = (sp_juries s x y).1) (fun j => clsA g a aK aL aT (sp_juries s x y).2 j) := by
  obtain ⟨m, k, kf, tp, tl, sb, sz, nu, ct⟩ := s
  obtain ⟨jk, lk, lm, t, lt, nx, tk, sr, va⟩ := j
  obtain ⟨hm, hk, htl, htp, hsh⟩ := hs
  have h0 : m 0 ≤ 8 := hm.1
  have h1 : m 1 ≤ 9999 := hm.2.1
  have h2 : m 2 ≤ 4 := hm.2.2.1
  have h3 : m 3 ≤ 99 := hm.2.2.2.2.1
  have hB : 9999 < 2 ^ 30 := by decide
  refine k_bodyI (by decide) (Nat.le_of_ble_eq_true rfl) (fun _ _ _ => rfl) (fun J hJ hR => ?_)
  have hpw : 2 ^ m 0 ≤ 256 := Nat.pow_le_pow_right (by decide) h0
  have hp1 : 1 ≤ 2 ^ m 0 := Nat.one_le_two_pow
  show J (clsW g a aK aL aT kf ct (if kf then k else jk) lk m lm t lt tp tl nx tk sr va sb sz nu) [(0, .ref (a 0)), (1, .int x), (2, .int y)] 0 []
  refine k_aload_n hJ dX3_juries_0 0 rfl ?_
  refine gf_X3_10 (v := .ref (aL 0)) hJ 0 rfl rfl dX3_juries_1 ?_
  refine k_iload_n hJ dX3_juries_4 1 rfl ?_
  refine c_VI (As := [.int x]) (st := []) hJ (ct_X0_has l g aL m lm x ) cls_frL mv_X0_has ml_X3_75 15 rfl rfl rfl (kRm_ok (by decide) (by decide)) rfl rfl (Nat.le_of_ble_eq_true rfl) dX3_juries_5 ?_
  refine b_if_eq (tgt := 21) hJ dX3_juries_8 (by decide) (fun c8 => ?_) (fun c8 => ?_)
  · refine k_aload_n hJ dX3_juries_21 0 rfl ?_
    refine k_ldc hJ dX3_juries_22 cw_X3_55 ?_
    refine k_eqs (st2 := [.int (kFi 0), .ref (a 0)]) (by rw [kFi_c0]) ?_
    refine c_VI (As := [.int (kFi 0)]) (st := []) hJ (ct_X3_tell l g a aK aL aT kf ct 0 (by decide)) cls_frX mv_X3_tell ml_X3_56 0 rfl rfl rfl (kRm_ok (by decide) (by decide)) rfl rfl (Nat.le_of_ble_eq_true rfl) dX3_juries_24 ?_
    have hsp : sp_juries (m, k, kf, tp, tl, sb, sz, nu, ct) x y = (kFi 0, (m, k, kf, tp, tl, sb, sz, nu, kTe ct 0)) := by simp [-Nat.add_zero, sp_juries, sp_tell, nI_l0, nI_l1, nI_l2, nI_l3, nI_l4, tN_l0, tN_l1, tN_l2, tN_l3, tN_l4, c8] <;> (repeat' (first | intro _ | refine ⟨?_, ?_⟩ | split)) <;> first | rfl | omega | (exfalso; omega)
    exact k_eqw (ws2 := clsA g a aK aL aT (sp_juries (m, k, kf, tp, tl, sb, sz, nu, ct) x y).2 (jk, lk, lm, t, lt, nx, tk, sr, va)) (by rw [hsp]; rfl) (hR _ _ _ (jk, lk, lm, t, lt, nx, tk, sr, va) dX3_juries_27 (by rw [hsp]))
  · obtain ⟨px, hpx, rfl⟩ := vIn_of (by omega) c8
    refine k_iload_n hJ dX3_juries_11 2 rfl ?_
    refine k_iconst (v := nI 1) hJ dX3_juries_12 (by decide) ?_
    refine k_bipush (v := nI 7) hJ dX3_juries_13 (by decide) ?_
    refine c_SI (As := [.int y, .int (nI 1), .int (nI 7)]) (st := []) hJ (ct_X3_within l g y 1 7) Fr.none ms_X3_within ml_X3_44 (kRm_ok (by decide) (by decide)) rfl rfl (Nat.le_of_ble_eq_true rfl) dX3_juries_15 ?_
    refine b_if_ne (tgt := 28) hJ dX3_juries_18 (by decide) (fun c18 => ?_) (fun c18 => ?_)
    · obtain ⟨py, hly, hpy, rfl⟩ := vBt_of (by omega) (by first | omega | (have := Nat.pow_le_pow_right (show 0 < 2 by decide) h0; omega)) c18
      refine k_aload_n hJ dX3_juries_28 0 rfl ?_
      refine gf_X3_10 (v := .ref (aL 0)) hJ 0 rfl rfl dX3_juries_29 ?_
      refine k_iload_n hJ dX3_juries_32 1 rfl ?_
      refine c_VI (As := [.int (nI px)]) (st := []) hJ (ct_X0_finders l g aL m lm px hB hm (by omega)) cls_frL mv_X0_finders ml_X3_131 15 rfl rfl rfl (kRm_ok (by decide) (by decide)) rfl rfl (Nat.le_of_ble_eq_true rfl) dX3_juries_33 ?_
      have hff33 : vFinders m px < 256 := vBits_le8 _ (hm).1
      refine k_istore_n (lv1 := [(0, .ref (a 0)), (1, .int (nI px)), (2, .int (nI py)), (3, .int (nI (vFinders m px)))]) hJ dX3_juries_36 (by decide) [1, 2, 3, 0] rfl ?_
      refine k_iconst (v := nI 0) hJ dX3_juries_37 (by decide) ?_
      refine k_istore (lv1 := [(0, .ref (a 0)), (1, .int (nI px)), (2, .int (nI py)), (3, .int (nI (vFinders m px))), (4, .int (nI 0))]) hJ dX3_juries_38 (by decide) [1, 2, 3, 4, 0] rfl ?_
      refine k_iconst (v := nI 1) hJ dX3_juries_40 (by decide) ?_
      refine k_istore (lv1 := [(0, .ref (a 0)), (1, .int (nI px)), (2, .int (nI py)), (3, .int (nI (vFinders m px))), (4, .int (nI 0)), (5, .int (nI 1))]) hJ dX3_juries_41 (by decide) [1, 2, 3, 4, 5, 0] rfl ?_
      have L43 : ∀ (fu : Nat) (S : Nat), (1 ≤ S) → (S ≤ 2 ^ m 0) → (2 ^ m 0 + 1 ≤ S + fu) → J (clsW g a aK aL aT kf ct (if kf then k else jk) lk m lm t lt tp tl nx tk sr va sb sz nu) [(0, .ref (a 0)), (1, .int (nI px)), (2, .int (nI py)), (3, .int (nI (vFinders m px))), (4, .int (nI (vJn (vFinders m px) px py S))), (5, .int (nI S))] 43 [] := by
        intro fu
        induction fu with
        | zero => intro S h1S hS hf; exfalso; omega
        | succ fu ih =>
          intro S h1S hS hf
          have hJl := vJn_le (vFinders m px) px py S
          refine k_iload hJ dX3_juries_43 5 rfl ?_
          refine k_aload_n hJ dX3_juries_45 0 rfl ?_
          refine gf_X3_10 (v := .ref (aL 0)) hJ 0 rfl rfl dX3_juries_46 ?_
          refine c_VI (As := []) (st := [.int (nI S)]) hJ (ct_X0_everybody l g aL m lm  hB hm ) cls_frL mv_X0_everybody ml_X3_134 15 rfl rfl rfl (kRm_ok (by decide) (by decide)) rfl rfl (Nat.le_of_ble_eq_true rfl) dX3_juries_49 ?_
          refine n_icmp_gt (tgt := 75) hJ dX3_juries_52 (by decide) (by omega) (by omega) (fun c52 => ?_) (fun c52 => ?_)
          · refine k_iload hJ dX3_juries_75 4 rfl ?_
            have hS6 : S = 2 ^ m 0 := by omega
            subst hS6
            have hsp : sp_juries (m, k, kf, tp, tl, sb, sz, nu, ct) (nI px) (nI py) = (nI (vJn (vFinders m px) px py (2 ^ m 0)), (m, k, kf, tp, tl, sb, sz, nu, ct)) := by simp [-Nat.add_zero, sp_juries, sp_tell, nI_l0, nI_l1, nI_l2, nI_l3, nI_l4, tN_l0, tN_l1, tN_l2, tN_l3, tN_l4, c8, c18, nI_clamp (show px < 2 ^ 31 by omega), nI_clamp (show py < 2 ^ 31 by omega)] <;> (repeat' (first | intro _ | refine ⟨?_, ?_⟩ | split)) <;> first | rfl | omega | (exfalso; omega)
            exact k_eqw (ws2 := clsA g a aK aL aT (sp_juries (m, k, kf, tp, tl, sb, sz, nu, ct) (nI px) (nI py)).2 (jk, lk, lm, t, lt, nx, tk, sr, va)) (by rw [hsp]; rfl) (hR _ _ _ (jk, lk, lm, t, lt, nx, tk, sr, va) dX3_juries_77 (by rw [hsp]))
          · refine k_iload hJ dX3_juries_55 5 rfl ?_
            refine k_iload_n hJ dX3_juries_57 1 rfl ?_
            refine k_iload_n hJ dX3_juries_58 2 rfl ?_
            refine k_iload_n hJ dX3_juries_59 3 rfl ?_
            refine c_SI (As := [.int (nI S), .int (nI px), .int (nI py), .int (nI (vFinders m px))]) (st := []) hJ (ct_X3_isJuryAgainst l g S px py (vFinders m px) (by omega) (by omega) (by omega)) Fr.none ms_X3_isJuryAgainst ml_X3_170 (kRm_ok (by decide) (by decide)) rfl rfl (Nat.le_of_ble_eq_true rfl) dX3_juries_60 ?_
            refine b_if_eq (tgt := 69) hJ dX3_juries_63 (by decide) (fun c63 => ?_) (fun c63 => ?_)
            · refine n_iinc (b := 1) (lv1 := [(0, .ref (a 0)), (1, .int (nI px)), (2, .int (nI py)), (3, .int (nI (vFinders m px))), (4, .int (nI (vJn (vFinders m px) px py S))), (5, .int (nI (S + 1)))]) hJ dX3_juries_69 5 rfl (by decide) (by decide) [1, 2, 3, 4, 5, 0] rfl ?_
              refine k_goto (tgt := 43) hJ dX3_juries_72 (by decide) ?_
              refine k_eql (lv1 := [(0, .ref (a 0)), (1, .int (nI px)), (2, .int (nI py)), (3, .int (nI (vFinders m px))), (4, .int (nI (vJn (vFinders m px) px py (S + 1)))), (5, .int (nI (S + 1)))]) (by rw [(vJ1_no c63).2]) ?_
              exact ih (S + 1) (by omega) (by omega) (by omega)
            · refine n_iinc (b := 1) (lv1 := [(0, .ref (a 0)), (1, .int (nI px)), (2, .int (nI py)), (3, .int (nI (vFinders m px))), (4, .int (nI ((vJn (vFinders m px) px py S) + 1))), (5, .int (nI S))]) hJ dX3_juries_66 4 rfl (by decide) (by decide) [1, 2, 3, 4, 0, 5] rfl ?_
              refine n_iinc (b := 1) (lv1 := [(0, .ref (a 0)), (1, .int (nI px)), (2, .int (nI py)), (3, .int (nI (vFinders m px))), (4, .int (nI ((vJn (vFinders m px) px py S) + 1))), (5, .int (nI (S + 1)))]) hJ dX3_juries_69 5 rfl (by decide) (by decide) [1, 2, 3, 4, 5, 0] rfl ?_
              refine k_goto (tgt := 43) hJ dX3_juries_72 (by decide) ?_
              refine k_eql (lv1 := [(0, .ref (a 0)), (1, .int (nI px)), (2, .int (nI py)), (3, .int (nI (vFinders m px))), (4, .int (nI (vJn (vFinders m px) px py (S + 1)))), (5, .int (nI (S + 1)))]) (by rw [(vJ1_yes h1S c63).2]) ?_
              exact ih (S + 1) (by omega) (by omega) (by omega)
      refine k_eql (lv1 := [(0, .ref (a 0)), (1, .int (nI px)), (2, .int (nI py)), (3, .int (nI (vFinders m px))), (4, .int (nI (vJn (vFinders m px) px py 1))), (5, .int (nI 1))]) (by rw [vJn_1]) ?_
      exact L43 (2 ^ m 0) 1 (by omega) (by omega) (by omega)
    · refine k_aload_n hJ dX3_juries_21 0 rfl ?_
      refine k_ldc hJ dX3_juries_22 cw_X3_55 ?_
      refine k_eqs (st2 := [.int (kFi 0), .ref (a 0)]) (by rw [kFi_c0]) ?_
      refine c_VI (As := [.int (kFi 0)]) (st := []) hJ (ct_X3_tell l g a aK aL aT kf ct 0 (by decide)) cls_frX mv_X3_tell ml_X3_56 0 rfl rfl rfl (kRm_ok (by decide) (by decide)) rfl rfl (Nat.le_of_ble_eq_true rfl) dX3_juries_24 ?_
      have hsp : sp_juries (m, k, kf, tp, tl, sb, sz, nu, ct) (nI px) y = (kFi 0, (m, k, kf, tp, tl, sb, sz, nu, kTe ct 0)) := by simp [-Nat.add_zero, sp_juries, sp_tell, nI_l0, nI_l1, nI_l2, nI_l3, nI_l4, tN_l0, tN_l1, tN_l2, tN_l3, tN_l4, c8, c18, nI_clamp (show px < 2 ^ 31 by omega)] <;> (repeat' (first | intro _ | refine ⟨?_, ?_⟩ | split)) <;> first | rfl | omega | (exfalso; omega)
      exact k_eqw (ws2 := clsA g a aK aL aT (sp_juries (m, k, kf, tp, tl, sb, sz, nu, ct) (nI px) y).2 (jk, lk, lm, t, lt, nx, tk, sr, va)) (by rw [hsp]; rfl) (hR _ _ _ (jk, lk, lm, t, lt, nx, tk, sr, va) dX3_juries_27 (by rw [hsp]))
set_option maxHeartbeats 4000000 in
set_option maxRecDepth 100000 in
theorem cp_from (l : Launch) (g : KG) (a aK aL aT : Nat → Nat) (j : CJ) (s : KS) (hs : kOk s) (x : Int32) (y : Int32) : CT l yX3_from cX3_from 5 (some .int) (rmK 2) g [.ref (a 0), .int x, .int y] (clsA g a aK aL aT s j) (S := CJ) oI (fun r _ => r = (sp_from s x y).1) (fun j => clsA g a aK aL aT (sp_from s x y).2 j) := by
  obtain ⟨m, k, kf, tp, tl, sb, sz, nu, ct⟩ := s
  obtain ⟨jk, lk, lm, t, lt, nx, tk, sr, va⟩ := j
  obtain ⟨hm, hk, htl, htp, hsh⟩ := hs
  have h0 : m 0 ≤ 8 := hm.1
  have h1 : m 1 ≤ 9999 := hm.2.1
  have h2 : m 2 ≤ 4 := hm.2.2.1
  have h3 : m 3 ≤ 99 := hm.2.2.2.2.1
  have hB : 9999 < 2 ^ 30 := by decide
  refine k_bodyI (by decide) (Nat.le_of_ble_eq_true rfl) (fun _ _ _ => rfl) (fun J hJ hR => ?_)
  show J (clsW g a aK aL aT kf ct (if kf then k else jk) lk m lm t lt tp tl nx tk sr va sb sz nu) [(0, .ref (a 0)), (1, .int x), (2, .int y)] 0 []
  refine k_aload_n hJ dX3_from_0 0 rfl ?_
  refine gf_X3_10 (v := .ref (aL 0)) hJ 0 rfl rfl dX3_from_1 ?_
  refine k_iload_n hJ dX3_from_4 1 rfl ?_
  refine c_VI (As := [.int x]) (st := []) hJ (ct_X0_has l g aL m lm x ) cls_frL mv_X0_has ml_X3_75 15 rfl rfl rfl (kRm_ok (by decide) (by decide)) rfl rfl (Nat.le_of_ble_eq_true rfl) dX3_from_5 ?_
  refine b_if_eq (tgt := 18) hJ dX3_from_8 (by decide) (fun c8 => ?_) (fun c8 => ?_)
  · refine k_aload_n hJ dX3_from_18 0 rfl ?_
    refine k_ldc hJ dX3_from_19 cw_X3_55 ?_
    refine k_eqs (st2 := [.int (kFi 0), .ref (a 0)]) (by rw [kFi_c0]) ?_
    refine c_VI (As := [.int (kFi 0)]) (st := []) hJ (ct_X3_tell l g a aK aL aT kf ct 0 (by decide)) cls_frX mv_X3_tell ml_X3_56 0 rfl rfl rfl (kRm_ok (by decide) (by decide)) rfl rfl (Nat.le_of_ble_eq_true rfl) dX3_from_21 ?_
    have hsp : sp_from (m, k, kf, tp, tl, sb, sz, nu, ct) x y = (kFi 0, (m, k, kf, tp, tl, sb, sz, nu, kTe ct 0)) := by simp [-Nat.add_zero, sp_from, sp_tell, nI_l0, nI_l1, nI_l2, nI_l3, nI_l4, tN_l0, tN_l1, tN_l2, tN_l3, tN_l4, c8] <;> (repeat' (first | intro _ | refine ⟨?_, ?_⟩ | split)) <;> first | rfl | omega | (exfalso; omega)
    exact k_eqw (ws2 := clsA g a aK aL aT (sp_from (m, k, kf, tp, tl, sb, sz, nu, ct) x y).2 (jk, lk, lm, t, lt, nx, tk, sr, va)) (by rw [hsp]; rfl) (hR _ _ _ (jk, lk, lm, t, lt, nx, tk, sr, va) dX3_from_24 (by rw [hsp]))
  · obtain ⟨px, hpx, rfl⟩ := vIn_of (by omega) c8
    refine k_iload_n hJ dX3_from_11 2 rfl ?_
    refine c_SI (As := [.int y]) (st := []) hJ (ct_X3_isDeed l g y) Fr.none ms_X3_isDeed ml_X3_100 (kRm_ok (by decide) (by decide)) rfl rfl (Nat.le_of_ble_eq_true rfl) dX3_from_12 ?_
    refine b_if_ne (tgt := 25) hJ dX3_from_15 (by decide) (fun c15 => ?_) (fun c15 => ?_)
    · obtain ⟨py, hpy, rfl⟩ := vIn_of (by omega) c15
      refine k_aload_n hJ dX3_from_25 0 rfl ?_
      refine gf_X3_10 (v := .ref (aL 0)) hJ 0 rfl rfl dX3_from_26 ?_
      refine k_iload_n hJ dX3_from_29 1 rfl ?_
      refine k_iload_n hJ dX3_from_30 2 rfl ?_
      refine c_VI (As := [.int (nI px), .int (nI py)]) (st := []) hJ (ct_X0_strongestBeside l g aL m lm px py hB hm (by omega) (by omega)) cls_frL mv_X0_strongestBeside ml_X3_174 15 rfl rfl rfl (kRm_ok (by decide) (by decide)) rfl rfl (Nat.le_of_ble_eq_true rfl) dX3_from_31 ?_
      refine k_istore_n (lv1 := [(0, .ref (a 0)), (1, .int (nI px)), (2, .int (nI py)), (3, .int (kOpt (vStrong m px py (m 0))))]) hJ dX3_from_34 (by decide) [1, 2, 3, 0] rfl ?_
      rcases hO : vStrong m px py (m 0) with _ | bb
      · show J (clsW g a aK aL aT kf ct (if kf then k else jk) lk m lm t lt tp tl nx tk sr va sb sz nu) [(0, .ref (a 0)), (1, .int (nI px)), (2, .int (nI py)), (3, .int (-1))] 35 []
        refine k_iload_n hJ dX3_from_35 3 rfl ?_
        refine k_if_ge (tgt := 46) hJ dX3_from_36 (by decide) (fun c36 => ?_) (fun c36 => ?_)
        · exact absurd c36 (by decide)
        · refine k_aload_n hJ dX3_from_39 0 rfl ?_
          refine k_ldc hJ dX3_from_40 cw_X3_130 ?_
          refine k_eqs (st2 := [.int (kFi 3), .ref (a 0)]) (by rw [kFi_c3]) ?_
          refine c_VI (As := [.int (kFi 3)]) (st := []) hJ (ct_X3_tell l g a aK aL aT kf ct 3 (by decide)) cls_frX mv_X3_tell ml_X3_56 0 rfl rfl rfl (kRm_ok (by decide) (by decide)) rfl rfl (Nat.le_of_ble_eq_true rfl) dX3_from_42 ?_
          have hsp : sp_from (m, k, kf, tp, tl, sb, sz, nu, ct) (nI px) (nI py) = (kFi 3, (m, k, kf, tp, tl, sb, sz, nu, kTe ct 3)) := by simp only [sp_from]; rw [if_pos ⟨c8, c15⟩, tN_nI (show px < 2 ^ 31 by omega), tN_nI (show py < 2 ^ 31 by omega), hO]; simp only []; rfl
          exact k_eqw (ws2 := clsA g a aK aL aT (sp_from (m, k, kf, tp, tl, sb, sz, nu, ct) (nI px) (nI py)).2 (jk, lk, lm, t, lt, nx, tk, sr, va)) (by rw [hsp]; rfl) (hR _ _ _ (jk, lk, lm, t, lt, nx, tk, sr, va) dX3_from_45 (by rw [hsp]))
      · show J (clsW g a aK aL aT kf ct (if kf then k else jk) lk m lm t lt tp tl nx tk sr va sb sz nu) [(0, .ref (a 0)), (1, .int (nI px)), (2, .int (nI py)), (3, .int (nI bb))] 35 []
        have hbb := vStrong_lt hO
        refine k_iload_n hJ dX3_from_35 3 rfl ?_
        refine n_if_ge (tgt := 46) hJ dX3_from_36 (by decide) (by omega) (fun c36 => ?_) (fun c36 => ?_)
        · refine k_aload_n hJ dX3_from_46 0 rfl ?_
          refine gf_X3_10 (v := .ref (aL 0)) hJ 0 rfl rfl dX3_from_47 ?_
          refine gf_X3_103 (v := .ref (aL 5)) hJ 15 rfl rfl dX3_from_50 ?_
          refine k_iload_n hJ dX3_from_53 2 rfl ?_
          refine k_aald (f := fun i => some (aL (7 + i))) (b := aL (7 + py)) hJ 20 rfl py (by omega) (by decide) rfl dX3_from_54 ?_
          refine k_astore (lv1 := [(0, .ref (a 0)), (1, .int (nI px)), (2, .int (nI py)), (3, .int (nI bb)), (4, .ref (aL (7 + py)))]) hJ dX3_from_55 (by decide) [1, 2, 3, 4, 0] rfl ?_
          refine k_aload hJ dX3_from_57 4 rfl ?_
          refine k_iload_n hJ dX3_from_59 3 rfl ?_
          refine k_iald hJ (22 + py) (cls_rowL (by omega)) bb (by omega) (by decide) rfl dX3_from_60 ?_
          have hb60 : m (4 + 10 * bb + (4 + py)) ≤ 99 := hm.sc (show bb < 8 by omega) (show py < 6 by omega)
          refine k_iconst (v := nI 4) hJ dX3_from_61 (by decide) ?_
          refine n_idiv hJ dX3_from_62 (by omega) (by omega) (by omega) ?_
          refine k_iload_n hJ dX3_from_63 2 rfl ?_
          refine k_aload hJ dX3_from_64 4 rfl ?_
          refine k_iload_n hJ dX3_from_66 1 rfl ?_
          refine k_iald hJ (22 + py) (cls_rowL (by omega)) px (by omega) (by decide) rfl dX3_from_67 ?_
          have hb67 : m (4 + 10 * px + (4 + py)) ≤ 99 := hm.sc (show px < 8 by omega) (show py < 6 by omega)
          refine c_SI (As := [.int (nI py), .int (nI (m (4 + 10 * px + (4 + py))))]) (st := [.int (nI ((m (4 + 10 * bb + (4 + py))) / 4))]) hJ (ct_X3_faded l g py (m (4 + 10 * px + (4 + py))) (by omega) (by omega)) Fr.none ms_X3_faded ml_X3_177 (kRm_ok (by decide) (by decide)) rfl rfl (Nat.le_of_ble_eq_true rfl) dX3_from_68 ?_
          refine n_icmp_le (tgt := 78) hJ dX3_from_71 (by decide) (by omega) (by have := vFade_le (d := py) (v := m (4 + 10 * px + (4 + py))); omega) (fun c71 => ?_) (fun c71 => ?_)
          · refine k_aload_n hJ dX3_from_78 0 rfl ?_
            refine k_ldc hJ dX3_from_79 cw_X3_130 ?_
            refine k_eqs (st2 := [.int (kFi 3), .ref (a 0)]) (by rw [kFi_c3]) ?_
            refine c_VI (As := [.int (kFi 3)]) (st := []) hJ (ct_X3_tell l g a aK aL aT kf ct 3 (by decide)) cls_frX mv_X3_tell ml_X3_56 0 rfl rfl rfl (kRm_ok (by decide) (by decide)) rfl rfl (Nat.le_of_ble_eq_true rfl) dX3_from_81 ?_
            have hsp : sp_from (m, k, kf, tp, tl, sb, sz, nu, ct) (nI px) (nI py) = (kFi 3, (m, k, kf, tp, tl, sb, sz, nu, kTe ct 3)) := by simp only [sp_from]; rw [if_pos ⟨c8, c15⟩, tN_nI (show px < 2 ^ 31 by omega), tN_nI (show py < 2 ^ 31 by omega), hO]; simp only []; rw [if_neg (Nat.not_lt.mpr c71)]; rfl
            exact k_eqw (ws2 := clsA g a aK aL aT (sp_from (m, k, kf, tp, tl, sb, sz, nu, ct) (nI px) (nI py)).2 (jk, lk, lm, t, lt, nx, tk, sr, va)) (by rw [hsp]; rfl) (hR _ _ _ (jk, lk, lm, t, lt, nx, tk, sr, va) dX3_from_84 (by rw [hsp]))
          · refine k_iload_n hJ dX3_from_74 3 rfl ?_
            refine k_goto (tgt := 84) hJ dX3_from_75 (by decide) ?_
            have hsp : sp_from (m, k, kf, tp, tl, sb, sz, nu, ct) (nI px) (nI py) = (nI bb, (m, k, kf, tp, tl, sb, sz, nu, ct)) := by simp only [sp_from]; rw [if_pos ⟨c8, c15⟩, tN_nI (show px < 2 ^ 31 by omega), tN_nI (show py < 2 ^ 31 by omega), hO]; simp only []; rw [if_pos c71]; rfl
            exact k_eqw (ws2 := clsA g a aK aL aT (sp_from (m, k, kf, tp, tl, sb, sz, nu, ct) (nI px) (nI py)).2 (jk, lk, lm, t, lt, nx, tk, sr, va)) (by rw [hsp]; rfl) (hR _ _ _ (jk, lk, lm, t, lt, nx, tk, sr, va) dX3_from_84 (by rw [hsp]))
        · exact absurd c36 (by omega)
    · refine k_aload_n hJ dX3_from_18 0 rfl ?_
      refine k_ldc hJ dX3_from_19 cw_X3_55 ?_
      refine k_eqs (st2 := [.int (kFi 0), .ref (a 0)]) (by rw [kFi_c0]) ?_
      refine c_VI (As := [.int (kFi 0)]) (st := []) hJ (ct_X3_tell l g a aK aL aT kf ct 0 (by decide)) cls_frX mv_X3_tell ml_X3_56 0 rfl rfl rfl (kRm_ok (by decide) (by decide)) rfl rfl (Nat.le_of_ble_eq_true rfl) dX3_from_21 ?_
      have hsp : sp_from (m, k, kf, tp, tl, sb, sz, nu, ct) (nI px) y = (kFi 0, (m, k, kf, tp, tl, sb, sz, nu, kTe ct 0)) := by simp [-Nat.add_zero, sp_from, sp_tell, nI_l0, nI_l1, nI_l2, nI_l3, nI_l4, tN_l0, tN_l1, tN_l2, tN_l3, tN_l4, c8, c15, nI_clamp (show px < 2 ^ 31 by omega)] <;> (repeat' (first | intro _ | refine ⟨?_, ?_⟩ | split)) <;> first | rfl | omega | (exfalso; omega)
      exact k_eqw (ws2 := clsA g a aK aL aT (sp_from (m, k, kf, tp, tl, sb, sz, nu, ct) (nI px) y).2 (jk, lk, lm, t, lt, nx, tk, sr, va)) (by rw [hsp]; rfl) (hR _ _ _ (jk, lk, lm, t, lt, nx, tk, sr, va) dX3_from_24 (by rw [hsp]))
set_option maxHeartbeats 4000000 in
set_option maxRecDepth 100000 in
theorem cp_nose (l : Launch) (g : KG) (a aK aL aT : Nat → Nat) (j : CJ) (s : KS) (hs : kOk s) (x : Int32) (y : Int32) : CT l yX3_nose cX3_nose 4 (some .int) (rmK 4) g [.ref (a 0), .int x, .int y] (clsA g a aK aL aT s j) (S := CJ) oI (fun r _ => r = (sp_nose s x y).1) (fun j => clsA g a aK aL aT (sp_nose s x y).2 j) := by
  obtain ⟨m, k, kf, tp, tl, sb, sz, nu, ct⟩ := s
  obtain ⟨jk, lk, lm, t, lt, nx, tk, sr, va⟩ := j
  obtain ⟨hm, hk, htl, htp, hsh⟩ := hs
  have h0 : m 0 ≤ 8 := hm.1
  have h1 : m 1 ≤ 9999 := hm.2.1
  have h2 : m 2 ≤ 4 := hm.2.2.1
  have h3 : m 3 ≤ 99 := hm.2.2.2.2.1
  have hB : 9999 < 2 ^ 30 := by decide
  refine k_bodyI (by decide) (Nat.le_of_ble_eq_true rfl) (fun _ _ _ => rfl) (fun J hJ hR => ?_)
  show J (clsW g a aK aL aT kf ct (if kf then k else jk) lk m lm t lt tp tl nx tk sr va sb sz nu) [(0, .ref (a 0)), (1, .int x), (2, .int y)] 0 []
  refine k_aload_n hJ dX3_nose_0 0 rfl ?_
  refine gf_X3_10 (v := .ref (aL 0)) hJ 0 rfl rfl dX3_nose_1 ?_
  refine k_iload_n hJ dX3_nose_4 1 rfl ?_
  refine k_iload_n hJ dX3_nose_5 2 rfl ?_
  refine c_VI (As := [.int x, .int y]) (st := []) hJ (ct_X0_hasTwo l g aL m lm x y ) cls_frL mv_X0_hasTwo ml_X3_118 15 rfl rfl rfl (kRm_ok (by decide) (by decide)) rfl rfl (Nat.le_of_ble_eq_true rfl) dX3_nose_6 ?_
  refine b_if_ne (tgt := 19) hJ dX3_nose_9 (by decide) (fun c9 => ?_) (fun c9 => ?_)
  · obtain ⟨px, py, hpx, hpy, hnx, rfl, rfl⟩ := vTwo_of (by omega) c9
    refine k_aload_n hJ dX3_nose_19 0 rfl ?_
    refine gf_X3_19 (v := .ref (aT 0)) hJ 0 rfl rfl dX3_nose_20 ?_
    refine k_aload_n hJ dX3_nose_23 0 rfl ?_
    refine gf_X3_10 (v := .ref (aL 0)) hJ 0 rfl rfl dX3_nose_24 ?_
    refine c_VV (As := [.ref (aL 0)]) (st := []) hJ (CT_swap (ct_X0_become l g aT aL t m lt lm)) cls_frLT mv_X0_become ml_X3_154 28 rfl rfl rfl (kRm_ok (by decide) (by decide)) rfl rfl (Nat.le_of_ble_eq_true rfl) dX3_nose_27 ?_
    refine k_aload_n hJ dX3_nose_30 0 rfl ?_
    refine gf_X3_19 (v := .ref (aT 0)) hJ 0 rfl rfl dX3_nose_31 ?_
    refine gf_X3_87 (v := .ref (aT 4)) hJ 28 rfl rfl dX3_nose_34 ?_
    refine k_iload_n hJ dX3_nose_37 1 rfl ?_
    refine k_iconst (v := nI 0) hJ dX3_nose_38 (by decide) ?_
    refine k_iast (ws2 := clsW g a aK aL aT kf ct (if kf then k else jk) lk m lm (vUp m (4 + 10 * px + 3) 0) lt tp tl nx tk sr va sb sz nu) hJ 32 rfl px (by omega) (by decide) (cls_setT (i := 4) (by decide) (hs_colds g aT m lt px 0)) dX3_nose_39 ?_
    refine k_iconst (v := nI 0) hJ dX3_nose_40 (by decide) ?_
    refine k_istore_n (lv1 := [(0, .ref (a 0)), (1, .int (nI px)), (2, .int (nI py)), (3, .int (nI 0))]) hJ dX3_nose_41 (by decide) [1, 2, 3, 0] rfl ?_
    have L42 : ∀ (fu : Nat) (n : Nat) (M : Nat → Nat), (n ≤ 10) → (11 ≤ n + fu) → (∀ y, vUp M (4 + 10 * px + 2) y = vUp (vUp m (4 + 10 * px + 3) 0) (4 + 10 * px + 2) y) → (∀ i, i < n → (fun n => vFinds (vUp (vUp m (4 + 10 * px + 3) 0) (4 + 10 * px + 2) n) px py) i = false) → J (clsW g a aK aL aT kf ct (if kf then k else jk) lk m lm M lt tp tl nx tk sr va sb sz nu) [(0, .ref (a 0)), (1, .int (nI px)), (2, .int (nI py)), (3, .int (nI n))] 42 [] := by
      intro fu
      induction fu with
      | zero => intro n M h10 hf hM hn; exfalso; omega
      | succ fu ih =>
        intro n M h10 hf hM hn
        refine k_iload_n hJ dX3_nose_42 3 rfl ?_
        refine k_bipush (v := nI 9) hJ dX3_nose_43 (by decide) ?_
        refine n_icmp_gt (tgt := 78) hJ dX3_nose_45 (by decide) (by omega) (by omega) (fun c45 => ?_) (fun c45 => ?_)
        · refine k_aload_n hJ dX3_nose_78 0 rfl ?_
          refine k_ldc hJ dX3_nose_79 cw_X3_130 ?_
          refine k_eqs (st2 := [.int (kFi 3), .ref (a 0)]) (by rw [kFi_c3]) ?_
          refine c_VI (As := [.int (kFi 3)]) (st := []) hJ (ct_X3_tell l g a aK aL aT kf ct 3 (by decide)) cls_frX mv_X3_tell ml_X3_56 0 rfl rfl rfl (kRm_ok (by decide) (by decide)) rfl rfl (Nat.le_of_ble_eq_true rfl) dX3_nose_81 ?_
          have hF : vFst (fun n => vFinds (vUp (vUp m (4 + 10 * px + 3) 0) (4 + 10 * px + 2) n) px py) 10 = 10 := vFst_none (fun i hi => hn i (by omega))
          have hsp : sp_nose (m, k, kf, tp, tl, sb, sz, nu, ct) (nI px) (nI py) = (kFi 3, (m, k, kf, tp, tl, sb, sz, nu, kTe ct 3)) := by simp only [sp_nose]; rw [if_pos c9, tN_nI (show px < 2 ^ 31 by omega), tN_nI (show py < 2 ^ 31 by omega), hF]; unfold sp_fst; rw [if_neg (by omega)]; rfl
          exact k_eqw (ws2 := clsA g a aK aL aT (sp_nose (m, k, kf, tp, tl, sb, sz, nu, ct) (nI px) (nI py)).2 (jk, lk, lm, M, lt, nx, tk, sr, va)) (by rw [hsp]; rfl) (hR _ _ _ (jk, lk, lm, M, lt, nx, tk, sr, va) dX3_nose_84 (by rw [hsp]))
        · refine k_aload_n hJ dX3_nose_48 0 rfl ?_
          refine gf_X3_19 (v := .ref (aT 0)) hJ 0 rfl rfl dX3_nose_49 ?_
          refine gf_X3_84 (v := .ref (aT 3)) hJ 28 rfl rfl dX3_nose_52 ?_
          refine k_iload_n hJ dX3_nose_55 1 rfl ?_
          refine k_iload_n hJ dX3_nose_56 3 rfl ?_
          refine k_iast (ws2 := clsW g a aK aL aT kf ct (if kf then k else jk) lk m lm (vUp M (4 + 10 * px + 2) n) lt tp tl nx tk sr va sb sz nu) hJ 31 rfl px (by omega) (by decide) (cls_setT (i := 3) (by decide) (hs_noses g aT M lt px n)) dX3_nose_57 ?_
          refine k_eqw (ws2 := clsW g a aK aL aT kf ct (if kf then k else jk) lk m lm (vUp (vUp m (4 + 10 * px + 3) 0) (4 + 10 * px + 2) n) lt tp tl nx tk sr va sb sz nu) (by rw [hM]) ?_
          refine k_aload_n hJ dX3_nose_58 0 rfl ?_
          refine gf_X3_19 (v := .ref (aT 0)) hJ 0 rfl rfl dX3_nose_59 ?_
          refine k_iload_n hJ dX3_nose_62 1 rfl ?_
          refine k_iload_n hJ dX3_nose_63 2 rfl ?_
          refine c_VI (As := [.int (nI px), .int (nI py)]) (st := []) hJ (ct_X0_finds l g aT (vUp (vUp m (4 + 10 * px + 3) 0) (4 + 10 * px + 2) n) lt px py hB (vOk_ns (vOk_cd hm px (by omega)) px (by omega)) (by omega) (by omega)) cls_frT mv_X0_finds ml_X3_180 28 rfl rfl rfl (kRm_ok (by decide) (by decide)) rfl rfl (Nat.le_of_ble_eq_true rfl) dX3_nose_64 ?_
          refine b_if_eq (tgt := 72) hJ dX3_nose_67 (by decide) (fun c67 => ?_) (fun c67 => ?_)
          · refine n_iinc (b := 1) (lv1 := [(0, .ref (a 0)), (1, .int (nI px)), (2, .int (nI py)), (3, .int (nI (n + 1)))]) hJ dX3_nose_72 3 rfl (by decide) (by decide) [1, 2, 3, 0] rfl ?_
            refine k_goto (tgt := 42) hJ dX3_nose_75 (by decide) ?_
            exact ih (n + 1) _ (by omega) (by omega) (fun y => by rw [vUp_up]) (lt_s hn c67)
          · refine k_iload_n hJ dX3_nose_70 3 rfl ?_
            have hF : vFst (fun n => vFinds (vUp (vUp m (4 + 10 * px + 3) 0) (4 + 10 * px + 2) n) px py) 10 = n := vFst_at hn c67 (by omega)
            have hsp : sp_nose (m, k, kf, tp, tl, sb, sz, nu, ct) (nI px) (nI py) = (nI n, (m, k, kf, tp, tl, sb, sz, nu, ct)) := by simp only [sp_nose]; rw [if_pos c9, tN_nI (show px < 2 ^ 31 by omega), tN_nI (show py < 2 ^ 31 by omega), hF]; unfold sp_fst; rw [if_pos (by omega)]; rfl
            exact k_eqw (ws2 := clsA g a aK aL aT (sp_nose (m, k, kf, tp, tl, sb, sz, nu, ct) (nI px) (nI py)).2 (jk, lk, lm, vUp (vUp m (4 + 10 * px + 3) 0) (4 + 10 * px + 2) n, lt, nx, tk, sr, va)) (by rw [hsp]; rfl) (hR _ _ _ (jk, lk, lm, vUp (vUp m (4 + 10 * px + 3) 0) (4 + 10 * px + 2) n, lt, nx, tk, sr, va) dX3_nose_71 (by rw [hsp]))
    exact L42 11 0 _ (by omega) (by omega) (fun _ => rfl) lt_0
  · refine k_aload_n hJ dX3_nose_12 0 rfl ?_
    refine k_ldc hJ dX3_nose_13 cw_X3_55 ?_
    refine k_eqs (st2 := [.int (kFi 0), .ref (a 0)]) (by rw [kFi_c0]) ?_
    refine c_VI (As := [.int (kFi 0)]) (st := []) hJ (ct_X3_tell l g a aK aL aT kf ct 0 (by decide)) cls_frX mv_X3_tell ml_X3_56 0 rfl rfl rfl (kRm_ok (by decide) (by decide)) rfl rfl (Nat.le_of_ble_eq_true rfl) dX3_nose_15 ?_
    have hsp : sp_nose (m, k, kf, tp, tl, sb, sz, nu, ct) x y = (kFi 0, (m, k, kf, tp, tl, sb, sz, nu, kTe ct 0)) := by simp [-Nat.add_zero, sp_nose, sp_tell, nI_l0, nI_l1, nI_l2, nI_l3, nI_l4, tN_l0, tN_l1, tN_l2, tN_l3, tN_l4, c9] <;> (repeat' (first | intro _ | refine ⟨?_, ?_⟩ | split)) <;> first | rfl | omega | (exfalso; omega)
    exact k_eqw (ws2 := clsA g a aK aL aT (sp_nose (m, k, kf, tp, tl, sb, sz, nu, ct) x y).2 (jk, lk, lm, t, lt, nx, tk, sr, va)) (by rw [hsp]; rfl) (hR _ _ _ (jk, lk, lm, t, lt, nx, tk, sr, va) dX3_nose_18 (by rw [hsp]))
