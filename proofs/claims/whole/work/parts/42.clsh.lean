theorem hAl_b {tp : Nat → Nat} {tl : Nat} : ∀ (k n q : Nat) (m : Nat → Nat), q ≤ tl → (hAl tp tl k n q m).2.1 ≤ n + k ∧ (hAl tp tl k n q m).2.2.1 ≤ tl := by
  intro k
  induction k with
  | zero => intro n q m h; exact ⟨Nat.le_refl _, h⟩
  | succ k ih =>
    intro n q m h
    have hg := hIt_g (tp := tp) q m h
    rw [hAl]
    split
    · split
      · split
        · have := ih (n + 1) (tkN tp tl (hIt tp tl q m).2.1) (hIt tp tl q m).2.2 (tkN_le hg.2.1)
          exact ⟨by omega, this.2⟩
        · exact ⟨Nat.le_add_right _ _, hg.2.1⟩
      · exact ⟨Nat.le_add_right _ _, hg.2.1⟩
    · exact ⟨Nat.le_add_right _ _, hg.2.1⟩
theorem neg_q : ∀ q, q < 121 → (-1 - nI q : Int32) < 0 := by decide +kernel
set_option maxHeartbeats 4000000 in
set_option maxRecDepth 100000 in
theorem ct_X2_tellTo (l : Launch) (g : KG) (a aT : Nat → Nat) (t : Nat → Nat) (lt : Nat → Int32) (tp : Nat → Nat) (tl nx tk sr va : Nat)  (ht : tl ≤ 120) (htp : ∀ i, tp i < 256) (h0 : t 0 ≤ 8) : CT l yX2_tellTo cX2_tellTo 3 (some .int) (rmK 10) g [.ref (a 2), .ref (aT 0)] (hallW g aT t lt ++ tapW g a tp tl nx tk sr va) (S := (Nat → Nat) × Nat × Nat × Nat × Nat) oI (fun r u => r = (if (hAl tp tl 120 1 (tkS tp tl 0) t).1 then nI (hAl tp tl 120 1 (tkS tp tl 0) t).2.1 else -1 - nI (hAl tp tl 120 1 (tkS tp tl 0) t).2.2.1) ∧ ((hAl tp tl 120 1 (tkS tp tl 0) t).1 = true → u.1 = (hAl tp tl 120 1 (tkS tp tl 0) t).2.2.2)) (fun u => hallW g aT u.1 lt ++ tapW g a tp tl u.2.1 u.2.2.1 u.2.2.2.1 u.2.2.2.2) := by
  refine k_bodyI (by decide) (Nat.le_of_ble_eq_true rfl) (fun _ _ _ => rfl) (fun J hJ hR => ?_)
  show J (hallW g aT t lt ++ tapW g a tp tl nx tk sr va) [(0, .ref (a 2)), (1, .ref (aT 0))] 0 []
  refine k_aload_n hJ dX2_tellTo_0 0 rfl ?_
  refine k_iconst (v := nI 0) hJ dX2_tellTo_1 (by decide) ?_
  refine pf_X2_19 (ws2 := hallW g aT t lt ++ tapW g a tp tl 0 tk sr va) hJ 13 rfl rfl (Nat.le_of_ble_eq_true rfl) dX2_tellTo_2 ?_
  refine k_iconst (v := nI 1) hJ dX2_tellTo_5 (by decide) ?_
  refine k_istore_n (lv1 := [(0, .ref (a 2)), (1, .ref (aT 0)), (2, .int (nI 1))]) hJ dX2_tellTo_6 (by decide) [1, 2, 0] rfl ?_
  have L7 : ∀ (fu : Nat) (n : Nat) (nx : Nat) (tk : Nat) (sr : Nat) (va : Nat) (T : Nat → Nat), (nx ≤ tl) → (tkS tp tl nx ≤ tl) → (240 ≤ tkS tp tl nx + 2 * fu) → (n + fu = 121) → (T 0 ≤ 8) → (hAl tp tl fu n (tkS tp tl nx) T = hAl tp tl 120 1 (tkS tp tl 0) t) → J (hallW g aT T lt ++ tapW g a tp tl nx tk sr va) [(0, .ref (a 2)), (1, .ref (aT 0)), (2, .int (nI n))] 7 [] := by
    intro fu
    induction fu with
    | zero => intro n nx tk sr va T hnx hS hf hn h8 hE; exfalso; omega
    | succ fu ih =>
      intro n nx tk sr va T hnx hS hf hn h8 hE
      refine k_iload_n hJ dX2_tellTo_7 2 rfl ?_
      refine k_bipush (v := nI 120) hJ dX2_tellTo_8 (by decide) ?_
      refine n_icmp_gt (tgt := 62) hJ dX2_tellTo_10 (by decide) (by omega) (by omega) (fun c10 => ?_) (fun c10 => ?_)
      · exfalso; omega
      · refine k_aload_n hJ dX2_tellTo_13 0 rfl ?_
        refine c_VV (As := []) (st := []) hJ (ct_X2_step l g a tp tl nx tk sr va ht htp hnx) tt_frt mv_X2_step ml_X2_31 13 rfl rfl rfl (kRm_ok (by decide) (by decide)) rfl rfl (Nat.le_of_ble_eq_true rfl) dX2_tellTo_14 ?_
        refine k_aload_n hJ dX2_tellTo_17 0 rfl ?_
        refine k_aload_n hJ dX2_tellTo_18 1 rfl ?_
        have hg := hIt_g (tp := tp) (tkS tp tl nx) T hS
        refine k_callV (As := [.ref (aT 0)]) (st := []) hJ (ct_X2_takesItem l g a aT T lt tp tl (tkS tp tl nx) (vaN tp tl (tkS tp tl nx) va) ht htp hS h8) (fun _ => Fr.all tt_map) mv_X2_takesItem ml_X2_34 13 rfl rfl rfl (kRm_ok (by decide) (by decide)) rfl rfl (Nat.le_of_ble_eq_true rfl) dX2_tellTo_19 (fun r u hr => ?_)
        subst hr
        have hk4 := tkK_le tp tl (hIt tp tl (tkS tp tl nx) T).2.1
        show J (hallW g aT ((hIt tp tl (tkS tp tl nx) T).2.2) lt ++ tapW g a tp tl (tkE tp tl ((hIt tp tl (tkS tp tl nx) T).2.1)) (tkK tp tl ((hIt tp tl (tkS tp tl nx) T).2.1)) ((hIt tp tl (tkS tp tl nx) T).2.1) u) [(0, .ref (a 2)), (1, .ref (aT 0)), (2, .int (nI n))] 22 [.int (kb ((hIt tp tl (tkS tp tl nx) T).1))]
        refine b_if_ne (tgt := 32) hJ dX2_tellTo_22 (by decide) (fun c22 => ?_) (fun c22 => ?_)
        · refine k_aload_n hJ dX2_tellTo_32 0 rfl ?_
          refine gf_X2_22 (v := .int (nI (tkK tp tl ((hIt tp tl (tkS tp tl nx) T).2.1)))) hJ 13 rfl rfl dX2_tellTo_33 ?_
          refine n_if_ne (tgt := 41) hJ dX2_tellTo_36 (by decide) (by omega) (fun c36 => ?_) (fun c36 => ?_)
          · refine k_aload_n hJ dX2_tellTo_41 0 rfl ?_
            refine gf_X2_22 (v := .int (nI (tkK tp tl ((hIt tp tl (tkS tp tl nx) T).2.1)))) hJ 13 rfl rfl dX2_tellTo_42 ?_
            refine k_iconst (v := nI 3) hJ dX2_tellTo_45 (by decide) ?_
            refine n_icmp_eq (tgt := 56) hJ dX2_tellTo_46 (by decide) (by omega) (by omega) (fun c46 => ?_) (fun c46 => ?_)
            · refine n_iinc (b := 1) (lv1 := [(0, .ref (a 2)), (1, .ref (aT 0)), (2, .int (nI (n + 1)))]) hJ dX2_tellTo_56 2 rfl (by decide) (by decide) [1, 2, 0] rfl ?_
              refine k_goto (tgt := 7) hJ dX2_tellTo_59 (by decide) ?_
              exact ih (n + 1) (tkE tp tl (hIt tp tl (tkS tp tl nx) T).2.1) (tkK tp tl (hIt tp tl (tkS tp tl nx) T).2.1) (hIt tp tl (tkS tp tl nx) T).2.1 u (hIt tp tl (tkS tp tl nx) T).2.2 (tkE_le hg.2.1) (tkN_le (tp := tp) hg.2.1) (by have := tkN_gt (tp := tp) (tkK_3.mp c46).1; have := hg.2.2 c22; show 240 ≤ tkN tp tl (hIt tp tl (tkS tp tl nx) T).2.1 + 2 * fu; omega) (by omega) (hIt_8 h8 c22) (by rw [← hE, hAl, if_pos c22, if_pos (tkK_3.mp c46).1, if_pos (tkK_3.mp c46).2]; rfl)
            · refine k_iconst (v := (-1)) hJ dX2_tellTo_49 (by decide) ?_
              refine k_aload_n hJ dX2_tellTo_50 0 rfl ?_
              refine gf_X2_25 (v := .int (nI ((hIt tp tl (tkS tp tl nx) T).2.1))) hJ 13 rfl rfl dX2_tellTo_51 ?_
              refine k_isub hJ dX2_tellTo_54 ?_
              have hE1 : hAl tp tl 120 1 (tkS tp tl 0) t = (false, n, (hIt tp tl (tkS tp tl nx) T).2.1, T) := by rw [← hE, hAl, if_pos c22, if_pos (Decidable.not_not.mp (fun z => c36 (tkK_0.mpr z))), if_neg (fun z => c46 (tkK_3.mpr ⟨Decidable.not_not.mp (fun z => c36 (tkK_0.mpr z)), z⟩))]
              exact hR _ _ _ ((hIt tp tl (tkS tp tl nx) T).2.2, tkE tp tl (hIt tp tl (tkS tp tl nx) T).2.1, tkK tp tl (hIt tp tl (tkS tp tl nx) T).2.1, (hIt tp tl (tkS tp tl nx) T).2.1, u) dX2_tellTo_55 ⟨by rw [hE1]; first | done | rfl, fun z => by rw [hE1] at z; first | (rw [hE1]; done) | (rw [hE1]; rfl) | cases z⟩
          · refine k_iload_n hJ dX2_tellTo_39 2 rfl ?_
            have hE1 : hAl tp tl 120 1 (tkS tp tl 0) t = (true, n, (hIt tp tl (tkS tp tl nx) T).2.1, (hIt tp tl (tkS tp tl nx) T).2.2) := by rw [← hE, hAl, if_pos c22, if_neg (tkK_0.mp c36)]
            exact hR _ _ _ ((hIt tp tl (tkS tp tl nx) T).2.2, tkE tp tl (hIt tp tl (tkS tp tl nx) T).2.1, tkK tp tl (hIt tp tl (tkS tp tl nx) T).2.1, (hIt tp tl (tkS tp tl nx) T).2.1, u) dX2_tellTo_40 ⟨by rw [hE1]; first | done | rfl, fun z => by rw [hE1] at z; first | (rw [hE1]; done) | (rw [hE1]; rfl) | cases z⟩
        · refine k_iconst (v := (-1)) hJ dX2_tellTo_25 (by decide) ?_
          refine k_aload_n hJ dX2_tellTo_26 0 rfl ?_
          refine gf_X2_25 (v := .int (nI ((hIt tp tl (tkS tp tl nx) T).2.1))) hJ 13 rfl rfl dX2_tellTo_27 ?_
          refine k_isub hJ dX2_tellTo_30 ?_
          have hE1 : hAl tp tl 120 1 (tkS tp tl 0) t = (false, n, (hIt tp tl (tkS tp tl nx) T).2.1, T) := by rw [← hE, hAl, if_neg (by rw [c22]; decide)]
          exact hR _ _ _ ((hIt tp tl (tkS tp tl nx) T).2.2, tkE tp tl (hIt tp tl (tkS tp tl nx) T).2.1, tkK tp tl (hIt tp tl (tkS tp tl nx) T).2.1, (hIt tp tl (tkS tp tl nx) T).2.1, u) dX2_tellTo_31 ⟨by rw [hE1]; first | done | rfl, fun z => by rw [hE1] at z; first | (rw [hE1]; done) | (rw [hE1]; rfl) | cases z⟩
  exact L7 120 1 0 tk sr va t (Nat.zero_le _) (tkS_le (Nat.zero_le _)) (by omega) rfl h0 rfl
set_option maxHeartbeats 4000000 in
set_option maxRecDepth 100000 in
theorem cp_hall (l : Launch) (g : KG) (a aK aL aT : Nat → Nat) (j : CJ) (s : KS) (hs : kOk s)  : CT l yX3_hall cX3_hall 2 (some .int) (rmK 11) g [.ref (a 0)] (clsA g a aK aL aT s j) (S := CJ) oI (fun r _ => r = (sp_hall s ).1) (fun j => clsA g a aK aL aT (sp_hall s ).2 j) := by
  obtain ⟨m, k, kf, tp, tl, sb, sz, nu, ct⟩ := s
  obtain ⟨jk, lk, lm, t, lt, nx, tk, sr, va⟩ := j
  obtain ⟨hm, hk, htl, htp, hsh⟩ := hs
  have h0 : m 0 ≤ 8 := hm.1
  have h1 : m 1 ≤ 9999 := hm.2.1
  have h2 : m 2 ≤ 4 := hm.2.2.1
  have h3 : m 3 ≤ 99 := hm.2.2.2.2.1
  have hB : 9999 < 2 ^ 30 := by decide
  refine k_bodyI (by decide) (Nat.le_of_ble_eq_true rfl) (fun _ _ _ => rfl) (fun J hJ hR => ?_)
  show J (clsW g a aK aL aT kf ct (if kf then k else jk) lk m lm t lt tp tl nx tk sr va sb sz nu) [(0, .ref (a 0))] 0 []
  refine k_aload_n hJ dX3_hall_0 0 rfl ?_
  refine gf_X3_19 (v := .ref (aT 0)) hJ 0 rfl rfl dX3_hall_1 ?_
  refine k_aload_n hJ dX3_hall_4 0 rfl ?_
  refine gf_X3_10 (v := .ref (aL 0)) hJ 0 rfl rfl dX3_hall_5 ?_
  refine c_VV (As := [.ref (aL 0)]) (st := []) hJ (CT_swap (ct_X0_become l g aT aL t m lt lm)) cls_frLT mv_X0_become ml_X3_154 28 rfl rfl rfl (kRm_ok (by decide) (by decide)) rfl rfl (Nat.le_of_ble_eq_true rfl) dX3_hall_8 ?_
  refine k_aload_n hJ dX3_hall_11 0 rfl ?_
  refine gf_X3_25 (v := .ref (a 2)) hJ 0 rfl rfl dX3_hall_12 ?_
  refine k_aload_n hJ dX3_hall_15 0 rfl ?_
  refine gf_X3_19 (v := .ref (aT 0)) hJ 0 rfl rfl dX3_hall_16 ?_
  refine k_callV (As := [.ref (aT 0)]) (st := []) hJ (ct_X2_tellTo l g a aT m lt tp tl nx tk sr va htl htp h0) (fun _ => cls_frTt) mv_X2_tellTo ml_X3_189 41 rfl rfl rfl (kRm_ok (by decide) (by decide)) rfl rfl (Nat.le_of_ble_eq_true rfl) dX3_hall_19 (fun r u hr => ?_)
  refine k_istore_n (lv1 := [(0, .ref (a 0)), (1, .int r)]) hJ dX3_hall_22 (by decide) [1, 0] rfl ?_
  have hab := hAl_b (tp := tp) (tl := tl) 120 1 (tkS tp tl 0) m (tkS_le (Nat.zero_le _))
  rcases Bool.eq_false_or_eq_true (hAl tp tl 120 1 (tkS tp tl 0) m).1 with cA | cA
  · have hr1 : r = nI (hAl tp tl 120 1 (tkS tp tl 0) m).2.1 := by rw [hr.1, if_pos cA]
    refine k_eqw (ws2 := clsW g a aK aL aT kf ct (if kf then k else jk) lk m lm ((hAl tp tl 120 1 (tkS tp tl 0) m).2.2.2) lt tp tl u.2.1 u.2.2.1 u.2.2.2.1 u.2.2.2.2 sb sz nu) (by rw [hr.2 cA]) ?_
    subst hr1
    refine k_iload_n hJ dX3_hall_23 1 rfl ?_
    refine n_if_lt (tgt := 38) hJ dX3_hall_24 (by decide) (by omega) (fun c24 => ?_) (fun c24 => ?_)
    · exact absurd c24 (by omega)
    · refine k_aload_n hJ dX3_hall_27 0 rfl ?_
      refine gf_X3_10 (v := .ref (aL 0)) hJ 0 rfl rfl dX3_hall_28 ?_
      refine k_aload_n hJ dX3_hall_31 0 rfl ?_
      refine gf_X3_19 (v := .ref (aT 0)) hJ 0 rfl rfl dX3_hall_32 ?_
      refine c_VV (As := [.ref (aT 0)]) (st := []) hJ (ct_X0_become l g aL aT m ((hAl tp tl 120 1 (tkS tp tl 0) m).2.2.2) lm lt) cls_frLT mv_X0_become ml_X3_154 15 rfl rfl rfl (kRm_ok (by decide) (by decide)) rfl rfl (Nat.le_of_ble_eq_true rfl) dX3_hall_35 ?_
      refine k_aload_n hJ dX3_hall_38 0 rfl ?_
      refine gf_X3_25 (v := .ref (a 2)) hJ 0 rfl rfl dX3_hall_39 ?_
      refine k_iconst (v := nI 0) hJ dX3_hall_42 (by decide) ?_
      refine pf_X3_183 (ws2 := clsW g a aK aL aT kf ct (if kf then k else jk) lk ((hAl tp tl 120 1 (tkS tp tl 0) m).2.2.2) lm ((hAl tp tl 120 1 (tkS tp tl 0) m).2.2.2) lt tp 0 u.2.1 u.2.2.1 u.2.2.2.1 u.2.2.2.2 sb sz nu) hJ 41 rfl rfl (Nat.le_of_ble_eq_true rfl) dX3_hall_43 ?_
      refine k_iload_n hJ dX3_hall_46 1 rfl ?_
      have hsp : sp_hall (m, k, kf, tp, tl, sb, sz, nu, ct)  = (nI ((hAl tp tl 120 1 (tkS tp tl 0) m).2.1), ((hAl tp tl 120 1 (tkS tp tl 0) m).2.2.2, k, kf, tp, 0, sb, sz, nu, ct)) := by simp only [sp_hall]; rw [if_pos cA]
      exact k_eqw (ws2 := clsA g a aK aL aT (sp_hall (m, k, kf, tp, tl, sb, sz, nu, ct) ).2 (jk, lk, lm, (hAl tp tl 120 1 (tkS tp tl 0) m).2.2.2, lt, u.2.1, u.2.2.1, u.2.2.2.1, u.2.2.2.2)) (by rw [hsp]; rfl) (hR _ _ _ (jk, lk, lm, (hAl tp tl 120 1 (tkS tp tl 0) m).2.2.2, lt, u.2.1, u.2.2.1, u.2.2.2.1, u.2.2.2.2) dX3_hall_47 (by rw [hsp]))
  · have hr1 : r = -1 - nI (hAl tp tl 120 1 (tkS tp tl 0) m).2.2.1 := by rw [hr.1, if_neg (by rw [cA]; decide)]
    subst hr1
    refine k_iload_n hJ dX3_hall_23 1 rfl ?_
    refine k_if_lt (tgt := 38) hJ dX3_hall_24 (by decide) (fun c24 => ?_) (fun c24 => ?_)
    · refine k_aload_n hJ dX3_hall_38 0 rfl ?_
      refine gf_X3_25 (v := .ref (a 2)) hJ 0 rfl rfl dX3_hall_39 ?_
      refine k_iconst (v := nI 0) hJ dX3_hall_42 (by decide) ?_
      refine pf_X3_183 (ws2 := clsW g a aK aL aT kf ct (if kf then k else jk) lk m lm u.1 lt tp 0 u.2.1 u.2.2.1 u.2.2.2.1 u.2.2.2.2 sb sz nu) hJ 41 rfl rfl (Nat.le_of_ble_eq_true rfl) dX3_hall_43 ?_
      refine k_iload_n hJ dX3_hall_46 1 rfl ?_
      have hsp : sp_hall (m, k, kf, tp, tl, sb, sz, nu, ct)  = (-1 - nI (hAl tp tl 120 1 (tkS tp tl 0) m).2.2.1, (m, k, kf, tp, 0, sb, sz, nu, ct)) := by simp only [sp_hall]; rw [if_neg (by rw [cA]; decide)]
      exact k_eqw (ws2 := clsA g a aK aL aT (sp_hall (m, k, kf, tp, tl, sb, sz, nu, ct) ).2 (jk, lk, lm, u.1, lt, u.2.1, u.2.2.1, u.2.2.2.1, u.2.2.2.2)) (by rw [hsp]; rfl) (hR _ _ _ (jk, lk, lm, u.1, lt, u.2.1, u.2.2.1, u.2.2.2.1, u.2.2.2.2) dX3_hall_47 (by rw [hsp]))
    · exact absurd (neg_q _ (by omega)) c24
