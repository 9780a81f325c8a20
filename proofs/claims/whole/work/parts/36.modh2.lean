theorem hNo_8 {tp : Nat → Nat} {tl p q : Nat} {m : Nat → Nat} : (hNo tp tl p q m).2.2 0 = m 0 := by
  unfold hNo
  (repeat' split) <;> first | rfl | (show vUp m _ _ 0 = m 0; rw [vUp_ne (by omega)])
theorem hCo_8 {tp : Nat → Nat} {tl p q : Nat} {m : Nat → Nat} : (hCo tp tl p q m).2 0 = m 0 := by
  unfold hCo
  split <;> first | rfl | (show vUp m _ _ 0 = m 0; rw [vUp_ne (by omega)])
theorem hDi_8 {tp : Nat → Nat} {tl p q : Nat} {m : Nat → Nat} : (hDi tp tl p q m).2.2 0 = m 0 := by
  unfold hDi
  (repeat' split) <;> first | rfl | (show vUp m _ _ 0 = m 0; rw [vUp_ne (by omega)])
theorem hP2_8 {tp : Nat → Nat} {tl p q : Nat} {m : Nat → Nat} : (hP2 tp tl p q m).2.2 0 = m 0 := by
  unfold hP2
  split
  · rw [hDi_8, hCo_8, hNo_8]
  · rw [hNo_8]
theorem hIt_8 {tp : Nat → Nat} {tl q : Nat} {m : Nat → Nat} (h : m 0 ≤ 8) (c : (hIt tp tl q m).1 = true) : (hIt tp tl q m).2.2 0 ≤ 8 := by
  unfold hIt at c ⊢
  cases e : hKd tp tl q with
  | some kd =>
    rw [e] at c
    simp only [] at c ⊢
    unfold hPe at c ⊢
    by_cases h8 : m 0 < 8
    · rw [if_pos h8] at c ⊢
      by_cases c1 : hW tp tl wAt (tkN tp tl q) = true
      · rw [if_pos c1] at c ⊢
        by_cases c2 : hNum tp tl 0 47 (tkN tp tl (tkN tp tl q)) = true
        · rw [if_pos c2, hP2_8]
          show m 0 + 1 ≤ 8
          omega
        · rw [if_neg c2] at c; cases c
      · rw [if_neg c1] at c; cases c
    · rw [if_neg h8] at c; cases c
  | none =>
    simp only []
    (repeat' split) <;> first | exact h | (show vUp m _ _ 0 ≤ 8; rw [vUp_ne (by omega)]; exact h)
set_option maxHeartbeats 4000000 in
set_option maxRecDepth 100000 in
theorem mp_hall (l : Launch) (g : KG) (b : Nat → Nat) (j : MJ) (s : KS) (hs : kOk s)  : CT l yX4_hall cX4_hall 2 (some .int) (rmK 7) g [.ref (b 0)] (modA g b s j) (S := MJ) oI (fun r _ => r = (sp_hall s ).1) (fun j => modA g b (sp_hall s ).2 j) := by
  obtain ⟨m, k, kf, tp, tl, sb, sz, nu, ct⟩ := s
  obtain ⟨fj, mj, fr, to, va, iw, jk, th, ai, ot, mo⟩ := j
  obtain ⟨hm, hk, htl, htp, hsh⟩ := hs
  have h0 : m 0 ≤ 8 := hm.1
  have h1 : m 1 ≤ 9999 := hm.2.1
  have h2 : m 2 ≤ 4 := hm.2.2.1
  have h3 : m 3 ≤ 99 := hm.2.2.2.2.1
  have hB : 9999 < 2 ^ 30 := by decide
  refine k_bodyI (by decide) (Nat.le_of_ble_eq_true rfl) (fun _ _ _ => rfl) (fun J hJ hR => ?_)
  have ht := htl
  show J (modW g b (mE kf fj mj tl fr to va iw) m th ai ct (fun i => nI ((if kf then k else jk) i)) ot tp sb sz nu mo) [(0, .ref (b 0))] 0 []
  refine k_aload_n hJ dX4_hall_0 0 rfl ?_
  refine c_VV (As := []) (st := []) hJ (ct_X4_saves l g b (mE kf fj mj tl fr to va iw) m th ai ct (fun i => nI ((if kf then k else jk) i)) ot tp sb sz nu mo) (Fr.all mw_map) mv_X4_saves ml_X4_271 0 rfl rfl rfl (kRm_ok (by decide) (by decide)) rfl rfl (Nat.le_of_ble_eq_true rfl) dX4_hall_1 ?_
  refine k_aload_n hJ dX4_hall_4 0 rfl ?_
  refine k_iconst (v := nI 0) hJ dX4_hall_5 (by decide) ?_
  refine pf_X4_216 (ws2 := modW g b (mE kf fj mj tl fr to va false) m th ai ct (fun i => nI ((if kf then k else jk) i)) (fun i => nI (m i)) tp sb sz nu mo) hJ 0 rfl rfl (Nat.le_of_ble_eq_true rfl) rfl rfl dX4_hall_6 ?_
  refine k_aload_n hJ dX4_hall_9 0 rfl ?_
  refine k_iconst (v := nI 0) hJ dX4_hall_10 (by decide) ?_
  refine pf_X4_201 (ws2 := modW g b (mE kf fj mj tl fr 0 va false) m th ai ct (fun i => nI ((if kf then k else jk) i)) (fun i => nI (m i)) tp sb sz nu mo) hJ 0 rfl rfl (Nat.le_of_ble_eq_true rfl) dX4_hall_11 ?_
  refine k_aload_n hJ dX4_hall_14 0 rfl ?_
  refine c_VV (As := []) (st := []) hJ (ct_X4_token l g b kf fj mj tl fr 0 va false m th ai ct (fun i => nI ((if kf then k else jk) i)) (fun i => nI (m i)) tp sb sz nu mo ht (Nat.zero_le _) htp) (Fr.all mw_map) mv_X4_token ml_X4_220 0 rfl rfl rfl (kRm_ok (by decide) (by decide)) rfl rfl (Nat.le_of_ble_eq_true rfl) dX4_hall_15 ?_
  refine k_iconst (v := nI 1) hJ dX4_hall_18 (by decide) ?_
  refine k_istore_n (lv1 := [(0, .ref (b 0)), (1, .int (nI 1))]) hJ dX4_hall_19 (by decide) [1, 0] rfl ?_
  refine k_aload_n hJ dX4_hall_20 0 rfl ?_
  refine k_callV (As := []) (st := []) hJ (ct_X4_item l g b kf fj mj tl (tkS tp tl 0) va m th ai ct (fun i => nI ((if kf then k else jk) i)) (fun i => nI (m i)) tp sb sz nu mo ht htp (tkS_le (Nat.zero_le _)) h0) (fun _ => Fr.all mw_map) mv_X4_item ml_X4_274 0 rfl rfl rfl (kRm_ok (by decide) (by decide)) rfl rfl (Nat.le_of_ble_eq_true rfl) dX4_hall_21 (fun _ u hu => ?_)
  have L24 : ∀ (fu : Nat) (n : Nat) (q : Nat) (M : Nat → Nat) (U : Nat → Nat) (V : Nat), ((hIt tp tl q M).1 = true → U = (hIt tp tl q M).2.2) → (q ≤ tl) → (240 ≤ q + 2 * fu) → (M 0 ≤ 8) → (hAl tp tl fu n q M = hAl tp tl 120 1 (tkS tp tl 0) m) → J (modW g b (mE kf fj mj tl ((hIt tp tl q M).2.1) (tkE tp tl (hIt tp tl q M).2.1) V (!(hIt tp tl q M).1)) U th ai ct (fun i => nI ((if kf then k else jk) i)) (fun i => nI (m i)) tp sb sz nu mo) [(0, .ref (b 0)), (1, .int (nI n))] 24 [] := by
    intro fu
    induction fu with
    | zero => intro n q M U V hU hql hf hM0 hE; exfalso; omega
    | succ fu ih =>
      intro n q M U V hU hql hf hM0 hE
      have hg := hIt_g (tp := tp) q M hql
      have hq := hg.2.1
      rcases Bool.eq_false_or_eq_true (hIt tp tl q M).1 with cI | cI
      · refine k_eqw (ws2 := modW g b (mE kf fj mj tl ((hIt tp tl q M).2.1) (tkE tp tl (hIt tp tl q M).2.1) V false) ((hIt tp tl q M).2.2) th ai ct (fun i => nI ((if kf then k else jk) i)) (fun i => nI (m i)) tp sb sz nu mo) (by rw [cI, hU cI]; first | done | rfl) ?_
        refine k_aload_n hJ dX4_hall_24 0 rfl ?_
        refine gf_X4_216 (v := .int (kb false)) hJ 0 rfl rfl dX4_hall_25 ?_
        refine b_if_ne (tgt := 59) hJ dX4_hall_28 (by decide) (fun c28 => ?_) (fun c28 => ?_)
        · exact absurd c28 (by decide)
        · refine k_aload_n hJ dX4_hall_31 0 rfl ?_
          refine k_aload_n hJ dX4_hall_32 0 rfl ?_
          refine gf_X4_204 (v := .int (nI ((hIt tp tl q M).2.1))) hJ 0 rfl rfl dX4_hall_33 ?_
          refine c_VI (As := [.int (nI ((hIt tp tl q M).2.1))]) (st := []) hJ (ct_X4_byteAt l g b kf fj mj tl ((hIt tp tl q M).2.1) (tkE tp tl (hIt tp tl q M).2.1) V false ((hIt tp tl q M).2.2) th ai ct (fun i => nI ((if kf then k else jk) i)) (fun i => nI (m i)) tp sb sz nu mo ((hIt tp tl q M).2.1) ht (by omega)) (Fr.all mw_map) mv_X4_byteAt ml_X4_207 0 rfl rfl rfl (kRm_ok (by decide) (by decide)) rfl rfl (Nat.le_of_ble_eq_true rfl) dX4_hall_36 ?_
          refine k_bipush (v := nI 59) hJ dX4_hall_39 (by decide) ?_
          refine k_icmp_ne (tgt := 59) hJ dX4_hall_41 (by decide) (fun (c41 : ¬ kBy tp tl ((hIt tp tl q M).2.1) = (59 : Int32)) => ?_) (fun (c41 : kBy tp tl ((hIt tp tl q M).2.1) = (59 : Int32)) => ?_)
          · have c41 : ¬ ((hIt tp tl q M).2.1 < tl ∧ tp (hIt tp tl q M).2.1 = 59) := fun z => c41 ((kBy_c (htp _) (by decide)).mpr z)
            refine k_aload_n hJ dX4_hall_59 0 rfl ?_
            refine k_aload_n hJ dX4_hall_60 0 rfl ?_
            refine gf_X4_216 (v := .int (kb false)) hJ 0 rfl rfl dX4_hall_61 ?_
            refine b_if_ne (tgt := 78) hJ dX4_hall_64 (by decide) (fun c64 => ?_) (fun c64 => ?_)
            · exact absurd c64 (by decide)
            · refine k_aload_n hJ dX4_hall_67 0 rfl ?_
              refine gf_X4_204 (v := .int (nI ((hIt tp tl q M).2.1))) hJ 0 rfl rfl dX4_hall_68 ?_
              refine k_aload_n hJ dX4_hall_71 0 rfl ?_
              refine gf_X4_190 (v := .int (nI tl)) hJ 0 rfl rfl dX4_hall_72 ?_
              refine n_icmp_ge (tgt := 82) hJ dX4_hall_75 (by decide) (by omega) (by omega) (fun c75 => ?_) (fun c75 => ?_)
              · refine k_iconst (v := nI 0) hJ dX4_hall_82 (by decide) ?_
                refine pf_X4_216 (ws2 := modW g b (mE kf fj mj tl ((hIt tp tl q M).2.1) (tkE tp tl (hIt tp tl q M).2.1) V false) ((hIt tp tl q M).2.2) th ai ct (fun i => nI ((if kf then k else jk) i)) (fun i => nI (m i)) tp sb sz nu mo) hJ 0 rfl rfl (Nat.le_of_ble_eq_true rfl) rfl rfl dX4_hall_83 ?_
                refine k_aload_n hJ dX4_hall_86 0 rfl ?_
                refine gf_X4_216 (v := .int (kb false)) hJ 0 rfl rfl dX4_hall_87 ?_
                refine b_if_eq (tgt := 97) hJ dX4_hall_90 (by decide) (fun c90 => ?_) (fun c90 => ?_)
                · refine k_aload_n hJ dX4_hall_97 0 rfl ?_
                  refine k_iconst (v := nI 0) hJ dX4_hall_98 (by decide) ?_
                  refine pf_X4_190 (ws2 := modW g b (mE kf fj mj 0 ((hIt tp tl q M).2.1) (tkE tp tl (hIt tp tl q M).2.1) V false) ((hIt tp tl q M).2.2) th ai ct (fun i => nI ((if kf then k else jk) i)) (fun i => nI (m i)) tp sb sz nu mo) hJ 0 rfl rfl (Nat.le_of_ble_eq_true rfl) dX4_hall_99 ?_
                  refine k_aload_n hJ dX4_hall_102 0 rfl ?_
                  refine gf_X4_216 (v := .int (kb false)) hJ 0 rfl rfl dX4_hall_103 ?_
                  refine b_if_eq (tgt := 118) hJ dX4_hall_106 (by decide) (fun c106 => ?_) (fun c106 => ?_)
                  · refine k_iload_n hJ dX4_hall_118 1 rfl ?_
                    have hE1 : hAl tp tl 120 1 (tkS tp tl 0) m = (true, n, (hIt tp tl q M).2.1, (hIt tp tl q M).2.2) := by rw [← hE, hAl, if_pos cI, if_neg (by omega)]
                    have hsp : sp_hall (m, k, kf, tp, tl, sb, sz, nu, ct)  = (nI n, ((hIt tp tl q M).2.2, k, kf, tp, 0, sb, sz, nu, ct)) := by simp only [sp_hall]; rw [hE1]; rfl
                    exact k_eqw (ws2 := modA g b (sp_hall (m, k, kf, tp, tl, sb, sz, nu, ct) ).2 (fj, mj, (hIt tp tl q M).2.1, tkE tp tl (hIt tp tl q M).2.1, V, false, jk, th, ai, fun i => nI (m i), mo)) (by rw [hsp]; rfl) (hR _ _ _ (fj, mj, (hIt tp tl q M).2.1, tkE tp tl (hIt tp tl q M).2.1, V, false, jk, th, ai, fun i => nI (m i), mo) dX4_hall_119 (by rw [hsp]))
                  · exact absurd c106 (by decide)
                · exact absurd c90 (by decide)
              · refine k_iconst (v := nI 1) hJ dX4_hall_78 (by decide) ?_
                refine k_goto (tgt := 83) hJ dX4_hall_79 (by decide) ?_
                refine pf_X4_216 (ws2 := modW g b (mE kf fj mj tl ((hIt tp tl q M).2.1) (tkE tp tl (hIt tp tl q M).2.1) V true) ((hIt tp tl q M).2.2) th ai ct (fun i => nI ((if kf then k else jk) i)) (fun i => nI (m i)) tp sb sz nu mo) hJ 0 rfl rfl (Nat.le_of_ble_eq_true rfl) rfl rfl dX4_hall_83 ?_
                refine k_aload_n hJ dX4_hall_86 0 rfl ?_
                refine gf_X4_216 (v := .int (kb true)) hJ 0 rfl rfl dX4_hall_87 ?_
                refine b_if_eq (tgt := 97) hJ dX4_hall_90 (by decide) (fun c90 => ?_) (fun c90 => ?_)
                · exact absurd c90 (by decide)
                · refine k_aload_n hJ dX4_hall_93 0 rfl ?_
                  refine c_VV (As := []) (st := []) hJ (ct_X4_putsBack l g b (mE kf fj mj tl ((hIt tp tl q M).2.1) (tkE tp tl (hIt tp tl q M).2.1) V true) ((hIt tp tl q M).2.2) th ai ct (fun i => nI ((if kf then k else jk) i)) (fun i => nI (m i)) tp sb sz nu mo m) (Fr.all mw_map) mv_X4_putsBack ml_X4_277 0 rfl rfl rfl (kRm_ok (by decide) (by decide)) rfl rfl (Nat.le_of_ble_eq_true rfl) dX4_hall_94 ?_
                  refine k_aload_n hJ dX4_hall_97 0 rfl ?_
                  refine k_iconst (v := nI 0) hJ dX4_hall_98 (by decide) ?_
                  refine pf_X4_190 (ws2 := modW g b (mE kf fj mj 0 ((hIt tp tl q M).2.1) (tkE tp tl (hIt tp tl q M).2.1) V true) m th ai ct (fun i => nI ((if kf then k else jk) i)) (fun i => nI (m i)) tp sb sz nu mo) hJ 0 rfl rfl (Nat.le_of_ble_eq_true rfl) dX4_hall_99 ?_
                  refine k_aload_n hJ dX4_hall_102 0 rfl ?_
                  refine gf_X4_216 (v := .int (kb true)) hJ 0 rfl rfl dX4_hall_103 ?_
                  refine b_if_eq (tgt := 118) hJ dX4_hall_106 (by decide) (fun c106 => ?_) (fun c106 => ?_)
                  · exact absurd c106 (by decide)
                  · refine k_iconst (v := (-1)) hJ dX4_hall_109 (by decide) ?_
                    refine k_aload_n hJ dX4_hall_110 0 rfl ?_
                    refine gf_X4_204 (v := .int (nI ((hIt tp tl q M).2.1))) hJ 0 rfl rfl dX4_hall_111 ?_
                    refine k_isub hJ dX4_hall_114 ?_
                    refine k_goto (tgt := 119) hJ dX4_hall_115 (by decide) ?_
                    have hE1 : hAl tp tl 120 1 (tkS tp tl 0) m = (false, n, (hIt tp tl q M).2.1, M) := by rw [← hE, hAl, if_pos cI, if_pos (by omega), if_neg (fun z => c41 ⟨by omega, z⟩)]
                    have hsp : sp_hall (m, k, kf, tp, tl, sb, sz, nu, ct)  = ((-1) - (nI ((hIt tp tl q M).2.1)), (m, k, kf, tp, 0, sb, sz, nu, ct)) := by simp only [sp_hall]; rw [hE1]; rfl
                    exact k_eqw (ws2 := modA g b (sp_hall (m, k, kf, tp, tl, sb, sz, nu, ct) ).2 (fj, mj, (hIt tp tl q M).2.1, tkE tp tl (hIt tp tl q M).2.1, V, true, jk, th, ai, fun i => nI (m i), mo)) (by rw [hsp]; rfl) (hR _ _ _ (fj, mj, (hIt tp tl q M).2.1, tkE tp tl (hIt tp tl q M).2.1, V, true, jk, th, ai, fun i => nI (m i), mo) dX4_hall_119 (by rw [hsp]))
          · have c41 := (kBy_c (c := 59) (htp _) (by decide)).mp c41
            refine k_aload_n hJ dX4_hall_44 0 rfl ?_
            refine k_iconst (v := nI 1) hJ dX4_hall_45 (by decide) ?_
            refine c_VV (As := [.int (nI 1)]) (st := []) hJ (ct_X4_must_t l g b kf fj mj tl ((hIt tp tl q M).2.1) V false ((hIt tp tl q M).2.2) th ai ct (fun i => nI ((if kf then k else jk) i)) (fun i => nI (m i)) tp sb sz nu mo ht htp hq) (Fr.all mw_map) mv_X4_must ml_X4_230 0 rfl rfl rfl (kRm_ok (by decide) (by decide)) rfl rfl (Nat.le_of_ble_eq_true rfl) dX4_hall_46 ?_
            refine k_aload_n hJ dX4_hall_49 0 rfl ?_
            refine k_callV (As := []) (st := []) hJ (ct_X4_item l g b kf fj mj tl (tkN tp tl ((hIt tp tl q M).2.1)) V ((hIt tp tl q M).2.2) th ai ct (fun i => nI ((if kf then k else jk) i)) (fun i => nI (m i)) tp sb sz nu mo ht htp (tkN_le hq) (hIt_8 hM0 cI)) (fun _ => Fr.all mw_map) mv_X4_item ml_X4_274 0 rfl rfl rfl (kRm_ok (by decide) (by decide)) rfl rfl (Nat.le_of_ble_eq_true rfl) dX4_hall_50 (fun _ u hu => ?_)
            refine n_iinc (b := 1) (lv1 := [(0, .ref (b 0)), (1, .int (nI (n + 1)))]) hJ dX4_hall_53 1 rfl (by decide) (by decide) [1, 0] rfl ?_
            refine k_goto (tgt := 24) hJ dX4_hall_56 (by decide) ?_
            exact ih (n + 1) (tkN tp tl (hIt tp tl q M).2.1) (hIt tp tl q M).2.2 u.1 u.2 hu (tkN_le hq) (by have := tkN_gt (tp := tp) c41.1; have := hg.2.2 cI; omega) (hIt_8 hM0 cI) (by rw [← hE, hAl, if_pos cI, if_pos c41.1, if_pos c41.2])
      · refine k_eqw (ws2 := modW g b (mE kf fj mj tl ((hIt tp tl q M).2.1) (tkE tp tl (hIt tp tl q M).2.1) V true) U th ai ct (fun i => nI ((if kf then k else jk) i)) (fun i => nI (m i)) tp sb sz nu mo) (by rw [cI]; first | done | rfl) ?_
        refine k_aload_n hJ dX4_hall_24 0 rfl ?_
        refine gf_X4_216 (v := .int (kb true)) hJ 0 rfl rfl dX4_hall_25 ?_
        refine b_if_ne (tgt := 59) hJ dX4_hall_28 (by decide) (fun c28 => ?_) (fun c28 => ?_)
        · refine k_aload_n hJ dX4_hall_59 0 rfl ?_
          refine k_aload_n hJ dX4_hall_60 0 rfl ?_
          refine gf_X4_216 (v := .int (kb true)) hJ 0 rfl rfl dX4_hall_61 ?_
          refine b_if_ne (tgt := 78) hJ dX4_hall_64 (by decide) (fun c64 => ?_) (fun c64 => ?_)
          · refine k_iconst (v := nI 1) hJ dX4_hall_78 (by decide) ?_
            refine k_goto (tgt := 83) hJ dX4_hall_79 (by decide) ?_
            refine pf_X4_216 (ws2 := modW g b (mE kf fj mj tl ((hIt tp tl q M).2.1) (tkE tp tl (hIt tp tl q M).2.1) V true) U th ai ct (fun i => nI ((if kf then k else jk) i)) (fun i => nI (m i)) tp sb sz nu mo) hJ 0 rfl rfl (Nat.le_of_ble_eq_true rfl) rfl rfl dX4_hall_83 ?_
            refine k_aload_n hJ dX4_hall_86 0 rfl ?_
            refine gf_X4_216 (v := .int (kb true)) hJ 0 rfl rfl dX4_hall_87 ?_
            refine b_if_eq (tgt := 97) hJ dX4_hall_90 (by decide) (fun c90 => ?_) (fun c90 => ?_)
            · exact absurd c90 (by decide)
            · refine k_aload_n hJ dX4_hall_93 0 rfl ?_
              refine c_VV (As := []) (st := []) hJ (ct_X4_putsBack l g b (mE kf fj mj tl ((hIt tp tl q M).2.1) (tkE tp tl (hIt tp tl q M).2.1) V true) U th ai ct (fun i => nI ((if kf then k else jk) i)) (fun i => nI (m i)) tp sb sz nu mo m) (Fr.all mw_map) mv_X4_putsBack ml_X4_277 0 rfl rfl rfl (kRm_ok (by decide) (by decide)) rfl rfl (Nat.le_of_ble_eq_true rfl) dX4_hall_94 ?_
              refine k_aload_n hJ dX4_hall_97 0 rfl ?_
              refine k_iconst (v := nI 0) hJ dX4_hall_98 (by decide) ?_
              refine pf_X4_190 (ws2 := modW g b (mE kf fj mj 0 ((hIt tp tl q M).2.1) (tkE tp tl (hIt tp tl q M).2.1) V true) m th ai ct (fun i => nI ((if kf then k else jk) i)) (fun i => nI (m i)) tp sb sz nu mo) hJ 0 rfl rfl (Nat.le_of_ble_eq_true rfl) dX4_hall_99 ?_
              refine k_aload_n hJ dX4_hall_102 0 rfl ?_
              refine gf_X4_216 (v := .int (kb true)) hJ 0 rfl rfl dX4_hall_103 ?_
              refine b_if_eq (tgt := 118) hJ dX4_hall_106 (by decide) (fun c106 => ?_) (fun c106 => ?_)
              · exact absurd c106 (by decide)
              · refine k_iconst (v := (-1)) hJ dX4_hall_109 (by decide) ?_
                refine k_aload_n hJ dX4_hall_110 0 rfl ?_
                refine gf_X4_204 (v := .int (nI ((hIt tp tl q M).2.1))) hJ 0 rfl rfl dX4_hall_111 ?_
                refine k_isub hJ dX4_hall_114 ?_
                refine k_goto (tgt := 119) hJ dX4_hall_115 (by decide) ?_
                have hE1 : hAl tp tl 120 1 (tkS tp tl 0) m = (false, n, (hIt tp tl q M).2.1, M) := by rw [← hE, hAl, if_neg (by rw [cI]; decide)]
                have hsp : sp_hall (m, k, kf, tp, tl, sb, sz, nu, ct)  = ((-1) - (nI ((hIt tp tl q M).2.1)), (m, k, kf, tp, 0, sb, sz, nu, ct)) := by simp only [sp_hall]; rw [hE1]; rfl
                exact k_eqw (ws2 := modA g b (sp_hall (m, k, kf, tp, tl, sb, sz, nu, ct) ).2 (fj, mj, (hIt tp tl q M).2.1, tkE tp tl (hIt tp tl q M).2.1, V, true, jk, th, ai, fun i => nI (m i), mo)) (by rw [hsp]; rfl) (hR _ _ _ (fj, mj, (hIt tp tl q M).2.1, tkE tp tl (hIt tp tl q M).2.1, V, true, jk, th, ai, fun i => nI (m i), mo) dX4_hall_119 (by rw [hsp]))
          · exact absurd c64 (by decide)
        · exact absurd c28 (by decide)
  exact L24 120 1 (tkS tp tl 0) m u.1 u.2 hu (tkS_le (Nat.zero_le _)) (by omega) h0 rfl
