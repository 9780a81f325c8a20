set_option maxHeartbeats 4000000 in
set_option maxRecDepth 100000 in
theorem ct_X2_takesPerson (l : Launch) (g : KG) (a aT : Nat → Nat) (t : Nat → Nat) (lt : Nat → Int32) (tp : Nat → Nat) (tl q va : Nat)  (ht : tl ≤ 120) (htp : ∀ i, tp i < 256) (hq : q ≤ tl) (h0 : t 0 ≤ 8) : CT l yX2_takesPerson cX2_takesPerson 4 (some .boolean) (rmK 8) g [.ref (a 2), .ref (aT 0)] (hallW g aT t lt ++ tapW g a tp tl (tkE tp tl q) (tkK tp tl q) q va) (S := Nat) oI (fun r _ => r = kb (hPx tp tl q t).1) (fun u => hallW g aT ((hPx tp tl q t).2.2) lt ++ tapW g a tp tl (tkE tp tl ((hPx tp tl q t).2.1)) (tkK tp tl ((hPx tp tl q t).2.1)) ((hPx tp tl q t).2.1) u) := by
  refine k_bodyI (by decide) (Nat.le_of_ble_eq_true rfl) (fun _ _ h => by rw [h]; exact kb_nar _) (fun J hJ hR => ?_)
  show J (hallW g aT t lt ++ tapW g a tp tl (tkE tp tl q) (tkK tp tl q) q va) [(0, .ref (a 2)), (1, .ref (aT 0))] 0 []
  refine k_aload_n hJ dX2_takesPerson_0 0 rfl ?_
  refine c_VI (As := []) (st := []) hJ (ct_X2_kindNamed l g a tp tl q va ht htp hq) tt_frt mv_X2_kindNamed ml_X2_59 13 rfl rfl rfl (kRm_ok (by decide) (by decide)) rfl rfl (Nat.le_of_ble_eq_true rfl) dX2_takesPerson_1 ?_
  refine k_istore_n (lv1 := [(0, .ref (a 2)), (1, .ref (aT 0)), (2, .int (kOpt (hKd tp tl q)))]) hJ dX2_takesPerson_4 (by decide) [1, 2, 0] rfl ?_
  rcases hO : hKd tp tl q with _ | kd
  · show J (hallW g aT t lt ++ tapW g a tp tl (tkE tp tl q) (tkK tp tl q) q va) [(0, .ref (a 2)), (1, .ref (aT 0)), (2, .int (-1))] 5 []
    refine k_iload_n hJ dX2_takesPerson_5 2 rfl ?_
    refine k_if_lt (tgt := 18) hJ dX2_takesPerson_6 (by decide) (fun c6 => ?_) (fun c6 => ?_)
    · refine k_iconst (v := nI 0) hJ dX2_takesPerson_18 (by decide) ?_
      have e : hPx tp tl q t = _ := hPx_n hO
      exact k_eqw (ws2 := hallW g aT ((hPx tp tl q t).2.2) lt ++ tapW g a tp tl (tkE tp tl ((hPx tp tl q t).2.1)) (tkK tp tl ((hPx tp tl q t).2.1)) ((hPx tp tl q t).2.1) va) (by rw [e]; first | done | rfl) (hR _ _ _ va dX2_takesPerson_19 (by rw [e]; first | done | rfl))
    · exact absurd (by decide) c6
  · show J (hallW g aT t lt ++ tapW g a tp tl (tkE tp tl q) (tkK tp tl q) q va) [(0, .ref (a 2)), (1, .ref (aT 0)), (2, .int (nI kd))] 5 []
    have hkd := (hKd_at hO).2
    refine k_iload_n hJ dX2_takesPerson_5 2 rfl ?_
    refine n_if_lt (tgt := 18) hJ dX2_takesPerson_6 (by decide) (by omega) (fun c6 => ?_) (fun c6 => ?_)
    · exact absurd c6 (by omega)
    · refine k_aload_n hJ dX2_takesPerson_9 1 rfl ?_
      refine gf_X2_63 (v := .int (nI (t 0))) hJ 0 rfl rfl dX2_takesPerson_10 ?_
      refine k_bipush (v := nI 8) hJ dX2_takesPerson_13 (by decide) ?_
      refine n_icmp_lt (tgt := 20) hJ dX2_takesPerson_15 (by decide) (by omega) (by omega) (fun c15 => ?_) (fun c15 => ?_)
      · refine k_aload_n hJ dX2_takesPerson_20 0 rfl ?_
        refine c_VV (As := []) (st := []) hJ (ct_X2_step l g a tp tl (tkE tp tl q) (tkK tp tl q) q va ht htp (tkE_le hq)) tt_frt mv_X2_step ml_X2_31 13 rfl rfl rfl (kRm_ok (by decide) (by decide)) rfl rfl (Nat.le_of_ble_eq_true rfl) dX2_takesPerson_21 ?_
        refine k_aload_n hJ dX2_takesPerson_24 0 rfl ?_
        refine k_ldcS hJ 2 rfl dX2_takesPerson_25 ?_
        refine c_VI (As := [.ref (g.2.2.1 2)]) (st := []) hJ (ct_X2_isWord l g a tp tl (tkN tp tl q) (vaN tp tl (tkN tp tl q) va) 2 ht htp (tkN_le hq) (by decide)) tt_frt mv_X2_isWord ml_X2_40 13 rfl rfl rfl (kRm_ok (by decide) (by decide)) rfl rfl (Nat.le_of_ble_eq_true rfl) dX2_takesPerson_27 ?_
        show J (hallW g aT t lt ++ tapW g a tp tl (tkE tp tl (tkN tp tl q)) (tkK tp tl (tkN tp tl q)) (tkN tp tl q) (vaN tp tl (tkN tp tl q) va)) [(0, .ref (a 2)), (1, .ref (aT 0)), (2, .int (nI kd))] 30 [.int (kb (hW tp tl wAt (tkN tp tl q)))]
        refine b_if_eq (tgt := 43) hJ dX2_takesPerson_30 (by decide) (fun c30 => ?_) (fun c30 => ?_)
        · refine k_iconst (v := nI 0) hJ dX2_takesPerson_43 (by decide) ?_
          have e : hPx tp tl q t = _ := hPx_s hO (hPe_a (show t 0 < 8 by omega) (Bool.eq_false_iff.mp c30))
          exact k_eqw (ws2 := hallW g aT ((hPx tp tl q t).2.2) lt ++ tapW g a tp tl (tkE tp tl ((hPx tp tl q t).2.1)) (tkK tp tl ((hPx tp tl q t).2.1)) ((hPx tp tl q t).2.1) (vaN tp tl (tkN tp tl q) va)) (by rw [e]; first | done | rfl) (hR _ _ _ (vaN tp tl (tkN tp tl q) va) dX2_takesPerson_44 (by rw [e]; first | done | rfl))
        · refine k_aload_n hJ dX2_takesPerson_33 0 rfl ?_
          refine k_iconst (v := nI 0) hJ dX2_takesPerson_34 (by decide) ?_
          refine k_bipush (v := nI 47) hJ dX2_takesPerson_35 (by decide) ?_
          refine c_VI (As := [.int (nI 0), .int (nI 47)]) (st := []) hJ (ct_X2_takesNumber l g a tp tl (tkN tp tl q) (vaN tp tl (tkN tp tl q) va) 0 47 ht htp (tkN_le hq) (by decide) (by decide)) tt_frt mv_X2_takesNumber ml_X2_44 13 rfl rfl rfl (kRm_ok (by decide) (by decide)) rfl rfl (Nat.le_of_ble_eq_true rfl) dX2_takesPerson_37 ?_
          refine b_if_ne (tgt := 45) hJ dX2_takesPerson_40 (by decide) (fun c40 => ?_) (fun c40 => ?_)
          · refine k_aload_n hJ dX2_takesPerson_45 1 rfl ?_
            refine k_iload_n hJ dX2_takesPerson_46 2 rfl ?_
            refine k_aload_n hJ dX2_takesPerson_47 0 rfl ?_
            refine gf_X2_28 (v := .int (nI (vaN tp tl (tkN tp tl (tkN tp tl q)) (vaN tp tl (tkN tp tl q) va)))) hJ 13 rfl rfl dX2_takesPerson_48 ?_
            refine k_eqs (st2 := [.int (nI (hVal tp tl (tkN tp tl (tkN tp tl q)))), .int (nI kd), .ref (aT 0)]) (by rw [vaN_t c40 (by decide)]) ?_
            refine c_VI (As := [.int (nI kd), .int (nI (hVal tp tl (tkN tp tl (tkN tp tl q))))]) (st := []) hJ (ct_X0_join l g aT t lt kd (hVal tp tl (tkN tp tl (tkN tp tl q))) (by omega)) tt_frH mv_X0_join ml_X2_68 0 rfl rfl rfl (kRm_ok (by decide) (by decide)) rfl rfl (Nat.le_of_ble_eq_true rfl) dX2_takesPerson_51 ?_
            refine k_istore_n (lv1 := [(0, .ref (a 2)), (1, .ref (aT 0)), (2, .int (nI kd)), (3, .int (nI (t 0)))]) hJ dX2_takesPerson_54 (by decide) [1, 2, 3, 0] rfl ?_
            refine k_aload_n hJ dX2_takesPerson_55 0 rfl ?_
            refine c_VV (As := []) (st := []) hJ (ct_X2_step l g a tp tl (tkE tp tl (tkN tp tl (tkN tp tl q))) (tkK tp tl (tkN tp tl (tkN tp tl q))) (tkN tp tl (tkN tp tl q)) (vaN tp tl (tkN tp tl (tkN tp tl q)) (vaN tp tl (tkN tp tl q) va)) ht htp (tkE_le (tkN_le (tkN_le hq)))) tt_frt mv_X2_step ml_X2_31 13 rfl rfl rfl (kRm_ok (by decide) (by decide)) rfl rfl (Nat.le_of_ble_eq_true rfl) dX2_takesPerson_56 ?_
            refine k_aload_n hJ dX2_takesPerson_59 0 rfl ?_
            refine k_ldcS hJ 3 rfl dX2_takesPerson_60 ?_
            refine c_VI (As := [.ref (g.2.2.1 3)]) (st := []) hJ (ct_X2_isWord l g a tp tl (tkN tp tl (tkN tp tl (tkN tp tl q))) (vaN tp tl (tkN tp tl (tkN tp tl (tkN tp tl q))) (vaN tp tl (tkN tp tl (tkN tp tl q)) (vaN tp tl (tkN tp tl q) va))) 3 ht htp (tkN_le (tkN_le (tkN_le hq))) (by decide)) tt_frt mv_X2_isWord ml_X2_40 13 rfl rfl rfl (kRm_ok (by decide) (by decide)) rfl rfl (Nat.le_of_ble_eq_true rfl) dX2_takesPerson_62 ?_
            show J (hallW g aT (vJoin t kd (hVal tp tl (tkN tp tl (tkN tp tl q)))) lt ++ tapW g a tp tl (tkE tp tl (tkN tp tl (tkN tp tl (tkN tp tl q)))) (tkK tp tl (tkN tp tl (tkN tp tl (tkN tp tl q)))) (tkN tp tl (tkN tp tl (tkN tp tl q))) (vaN tp tl (tkN tp tl (tkN tp tl (tkN tp tl q))) (vaN tp tl (tkN tp tl (tkN tp tl q)) (vaN tp tl (tkN tp tl q) va)))) [(0, .ref (a 2)), (1, .ref (aT 0)), (2, .int (nI kd)), (3, .int (nI (t 0)))] 65 [.int (kb (hW tp tl wNo (tkN tp tl (tkN tp tl (tkN tp tl q)))))]
            refine b_if_eq (tgt := 94) hJ dX2_takesPerson_65 (by decide) (fun c65 => ?_) (fun c65 => ?_)
            · refine k_aload_n hJ dX2_takesPerson_94 0 rfl ?_
              refine k_ldcS hJ 4 rfl dX2_takesPerson_95 ?_
              refine c_VI (As := [.ref (g.2.2.1 4)]) (st := []) hJ (ct_X2_isWord l g a tp tl (tkN tp tl (tkN tp tl (tkN tp tl q))) (vaN tp tl (tkN tp tl (tkN tp tl (tkN tp tl q))) (vaN tp tl (tkN tp tl (tkN tp tl q)) (vaN tp tl (tkN tp tl q) va))) 4 ht htp (tkN_le (tkN_le (tkN_le hq))) (by decide)) tt_frt mv_X2_isWord ml_X2_40 13 rfl rfl rfl (kRm_ok (by decide) (by decide)) rfl rfl (Nat.le_of_ble_eq_true rfl) dX2_takesPerson_97 ?_
              show J (hallW g aT (vJoin t kd (hVal tp tl (tkN tp tl (tkN tp tl q)))) lt ++ tapW g a tp tl (tkE tp tl (tkN tp tl (tkN tp tl (tkN tp tl q)))) (tkK tp tl (tkN tp tl (tkN tp tl (tkN tp tl q)))) (tkN tp tl (tkN tp tl (tkN tp tl q))) (vaN tp tl (tkN tp tl (tkN tp tl (tkN tp tl q))) (vaN tp tl (tkN tp tl (tkN tp tl q)) (vaN tp tl (tkN tp tl q) va)))) [(0, .ref (a 2)), (1, .ref (aT 0)), (2, .int (nI kd)), (3, .int (nI (t 0)))] 100 [.int (kb (hW tp tl wCd (tkN tp tl (tkN tp tl (tkN tp tl q)))))]
              refine b_if_eq (tgt := 114) hJ dX2_takesPerson_100 (by decide) (fun c100 => ?_) (fun c100 => ?_)
              · refine k_aload_n hJ dX2_takesPerson_114 0 rfl ?_
                refine k_ldcS hJ 5 rfl dX2_takesPerson_115 ?_
                refine c_VI (As := [.ref (g.2.2.1 5)]) (st := []) hJ (ct_X2_isWord l g a tp tl (tkN tp tl (tkN tp tl (tkN tp tl q))) (vaN tp tl (tkN tp tl (tkN tp tl (tkN tp tl q))) (vaN tp tl (tkN tp tl (tkN tp tl q)) (vaN tp tl (tkN tp tl q) va))) 5 ht htp (tkN_le (tkN_le (tkN_le hq))) (by decide)) tt_frt mv_X2_isWord ml_X2_40 13 rfl rfl rfl (kRm_ok (by decide) (by decide)) rfl rfl (Nat.le_of_ble_eq_true rfl) dX2_takesPerson_117 ?_
                show J (hallW g aT (vJoin t kd (hVal tp tl (tkN tp tl (tkN tp tl q)))) lt ++ tapW g a tp tl (tkE tp tl (tkN tp tl (tkN tp tl (tkN tp tl q)))) (tkK tp tl (tkN tp tl (tkN tp tl (tkN tp tl q)))) (tkN tp tl (tkN tp tl (tkN tp tl q))) (vaN tp tl (tkN tp tl (tkN tp tl (tkN tp tl q))) (vaN tp tl (tkN tp tl (tkN tp tl q)) (vaN tp tl (tkN tp tl q) va)))) [(0, .ref (a 2)), (1, .ref (aT 0)), (2, .int (nI kd)), (3, .int (nI (t 0)))] 120 [.int (kb (hW tp tl wDi (tkN tp tl (tkN tp tl (tkN tp tl q)))))]
                refine b_if_eq (tgt := 132) hJ dX2_takesPerson_120 (by decide) (fun c120 => ?_) (fun c120 => ?_)
                · refine k_iconst (v := nI 1) hJ dX2_takesPerson_132 (by decide) ?_
                  refine k_goto (tgt := 137) hJ dX2_takesPerson_133 (by decide) ?_
                  have e : hPx tp tl q t = _ := hPx_s hO (hPe_ok (show t 0 < 8 by omega) c30 c40 (hP2_t (hNo_n (Bool.eq_false_iff.mp c65)) (hCo_n (Bool.eq_false_iff.mp c100)) (hDi_n (Bool.eq_false_iff.mp c120))))
                  exact k_eqw (ws2 := hallW g aT ((hPx tp tl q t).2.2) lt ++ tapW g a tp tl (tkE tp tl ((hPx tp tl q t).2.1)) (tkK tp tl ((hPx tp tl q t).2.1)) ((hPx tp tl q t).2.1) (vaN tp tl (tkN tp tl (tkN tp tl (tkN tp tl q))) (vaN tp tl (tkN tp tl (tkN tp tl q)) (vaN tp tl (tkN tp tl q) va)))) (by rw [e]; first | done | rfl) (hR _ _ _ (vaN tp tl (tkN tp tl (tkN tp tl (tkN tp tl q))) (vaN tp tl (tkN tp tl (tkN tp tl q)) (vaN tp tl (tkN tp tl q) va))) dX2_takesPerson_137 (by rw [e]; first | done | rfl))
                · refine k_aload_n hJ dX2_takesPerson_123 0 rfl ?_
                  refine k_aload_n hJ dX2_takesPerson_124 1 rfl ?_
                  refine k_iload_n hJ dX2_takesPerson_125 3 rfl ?_
                  refine k_callV (As := [.ref (aT 0), .int (nI (t 0))]) (st := []) hJ (ct_X2_takesDeed l g a aT (vJoin t kd (hVal tp tl (tkN tp tl (tkN tp tl q)))) lt tp tl (tkN tp tl (tkN tp tl (tkN tp tl q))) (vaN tp tl (tkN tp tl (tkN tp tl (tkN tp tl q))) (vaN tp tl (tkN tp tl (tkN tp tl q)) (vaN tp tl (tkN tp tl q) va))) (t 0) ht htp (tkN_le (tkN_le (tkN_le hq))) (by omega) c120) (fun _ => Fr.all tt_map) mv_X2_takesDeed ml_X2_84 13 rfl rfl rfl (kRm_ok (by decide) (by decide)) rfl rfl (Nat.le_of_ble_eq_true rfl) dX2_takesPerson_126 (fun r u hr => ?_)
                  subst hr
                  show J (hallW g aT ((hDi tp tl (t 0) (tkN tp tl (tkN tp tl (tkN tp tl q))) (vJoin t kd (hVal tp tl (tkN tp tl (tkN tp tl q))))).2.2) lt ++ tapW g a tp tl (tkE tp tl ((hDi tp tl (t 0) (tkN tp tl (tkN tp tl (tkN tp tl q))) (vJoin t kd (hVal tp tl (tkN tp tl (tkN tp tl q))))).2.1)) (tkK tp tl ((hDi tp tl (t 0) (tkN tp tl (tkN tp tl (tkN tp tl q))) (vJoin t kd (hVal tp tl (tkN tp tl (tkN tp tl q))))).2.1)) ((hDi tp tl (t 0) (tkN tp tl (tkN tp tl (tkN tp tl q))) (vJoin t kd (hVal tp tl (tkN tp tl (tkN tp tl q))))).2.1) u) [(0, .ref (a 2)), (1, .ref (aT 0)), (2, .int (nI kd)), (3, .int (nI (t 0)))] 129 [.int (kb ((hDi tp tl (t 0) (tkN tp tl (tkN tp tl (tkN tp tl q))) (vJoin t kd (hVal tp tl (tkN tp tl (tkN tp tl q))))).1))]
                  refine b_if_eq (tgt := 136) hJ dX2_takesPerson_129 (by decide) (fun c129 => ?_) (fun c129 => ?_)
                  · refine k_iconst (v := nI 0) hJ dX2_takesPerson_136 (by decide) ?_
                    have e : hPx tp tl q t = _ := hPx_s hO (hPe_ok (show t 0 < 8 by omega) c30 c40 (hP2_t (hNo_n (Bool.eq_false_iff.mp c65)) (hCo_n (Bool.eq_false_iff.mp c100)) rfl))
                    exact k_eqw (ws2 := hallW g aT ((hPx tp tl q t).2.2) lt ++ tapW g a tp tl (tkE tp tl ((hPx tp tl q t).2.1)) (tkK tp tl ((hPx tp tl q t).2.1)) ((hPx tp tl q t).2.1) u) (by rw [e]; first | done | rfl) (hR _ _ _ u dX2_takesPerson_137 (by rw [e, c129]; first | done | rfl))
                  · refine k_iconst (v := nI 1) hJ dX2_takesPerson_132 (by decide) ?_
                    refine k_goto (tgt := 137) hJ dX2_takesPerson_133 (by decide) ?_
                    have e : hPx tp tl q t = _ := hPx_s hO (hPe_ok (show t 0 < 8 by omega) c30 c40 (hP2_t (hNo_n (Bool.eq_false_iff.mp c65)) (hCo_n (Bool.eq_false_iff.mp c100)) rfl))
                    exact k_eqw (ws2 := hallW g aT ((hPx tp tl q t).2.2) lt ++ tapW g a tp tl (tkE tp tl ((hPx tp tl q t).2.1)) (tkK tp tl ((hPx tp tl q t).2.1)) ((hPx tp tl q t).2.1) u) (by rw [e]; first | done | rfl) (hR _ _ _ u dX2_takesPerson_137 (by rw [e, c129]; first | done | rfl))
              · refine k_aload_n hJ dX2_takesPerson_103 1 rfl ?_
                refine gf_X2_79 (v := .ref (aT 4)) hJ 0 rfl rfl dX2_takesPerson_104 ?_
                refine k_iload_n hJ dX2_takesPerson_107 3 rfl ?_
                refine k_iconst (v := nI 1) hJ dX2_takesPerson_108 (by decide) ?_
                refine k_iast (ws2 := hallW g aT (vUp (vJoin t kd (hVal tp tl (tkN tp tl (tkN tp tl q)))) (4 + 10 * (t 0) + 3) 1) lt ++ tapW g a tp tl (tkE tp tl (tkN tp tl (tkN tp tl (tkN tp tl q)))) (tkK tp tl (tkN tp tl (tkN tp tl (tkN tp tl q)))) (tkN tp tl (tkN tp tl (tkN tp tl q))) (vaN tp tl (tkN tp tl (tkN tp tl (tkN tp tl q))) (vaN tp tl (tkN tp tl (tkN tp tl q)) (vaN tp tl (tkN tp tl q) va)))) hJ 4 rfl (t 0) (by omega) (by decide) (tt_set (i := 4) (by decide) (hs_colds g aT (vJoin t kd (hVal tp tl (tkN tp tl (tkN tp tl q)))) lt (t 0) 1)) dX2_takesPerson_109 ?_
                refine k_aload_n hJ dX2_takesPerson_110 0 rfl ?_
                refine c_VV (As := []) (st := []) hJ (ct_X2_step l g a tp tl (tkE tp tl (tkN tp tl (tkN tp tl (tkN tp tl q)))) (tkK tp tl (tkN tp tl (tkN tp tl (tkN tp tl q)))) (tkN tp tl (tkN tp tl (tkN tp tl q))) (vaN tp tl (tkN tp tl (tkN tp tl (tkN tp tl q))) (vaN tp tl (tkN tp tl (tkN tp tl q)) (vaN tp tl (tkN tp tl q) va))) ht htp (tkE_le (tkN_le (tkN_le (tkN_le hq))))) tt_frt mv_X2_step ml_X2_31 13 rfl rfl rfl (kRm_ok (by decide) (by decide)) rfl rfl (Nat.le_of_ble_eq_true rfl) dX2_takesPerson_111 ?_
                refine k_aload_n hJ dX2_takesPerson_114 0 rfl ?_
                refine k_ldcS hJ 5 rfl dX2_takesPerson_115 ?_
                refine c_VI (As := [.ref (g.2.2.1 5)]) (st := []) hJ (ct_X2_isWord l g a tp tl (tkN tp tl (tkN tp tl (tkN tp tl (tkN tp tl q)))) (vaN tp tl (tkN tp tl (tkN tp tl (tkN tp tl (tkN tp tl q)))) (vaN tp tl (tkN tp tl (tkN tp tl (tkN tp tl q))) (vaN tp tl (tkN tp tl (tkN tp tl q)) (vaN tp tl (tkN tp tl q) va)))) 5 ht htp (tkN_le (tkN_le (tkN_le (tkN_le hq)))) (by decide)) tt_frt mv_X2_isWord ml_X2_40 13 rfl rfl rfl (kRm_ok (by decide) (by decide)) rfl rfl (Nat.le_of_ble_eq_true rfl) dX2_takesPerson_117 ?_
                show J (hallW g aT (vUp (vJoin t kd (hVal tp tl (tkN tp tl (tkN tp tl q)))) (4 + 10 * (t 0) + 3) 1) lt ++ tapW g a tp tl (tkE tp tl (tkN tp tl (tkN tp tl (tkN tp tl (tkN tp tl q))))) (tkK tp tl (tkN tp tl (tkN tp tl (tkN tp tl (tkN tp tl q))))) (tkN tp tl (tkN tp tl (tkN tp tl (tkN tp tl q)))) (vaN tp tl (tkN tp tl (tkN tp tl (tkN tp tl (tkN tp tl q)))) (vaN tp tl (tkN tp tl (tkN tp tl (tkN tp tl q))) (vaN tp tl (tkN tp tl (tkN tp tl q)) (vaN tp tl (tkN tp tl q) va))))) [(0, .ref (a 2)), (1, .ref (aT 0)), (2, .int (nI kd)), (3, .int (nI (t 0)))] 120 [.int (kb (hW tp tl wDi (tkN tp tl (tkN tp tl (tkN tp tl (tkN tp tl q))))))]
                refine b_if_eq (tgt := 132) hJ dX2_takesPerson_120 (by decide) (fun c120 => ?_) (fun c120 => ?_)
                · refine k_iconst (v := nI 1) hJ dX2_takesPerson_132 (by decide) ?_
                  refine k_goto (tgt := 137) hJ dX2_takesPerson_133 (by decide) ?_
                  have e : hPx tp tl q t = _ := hPx_s hO (hPe_ok (show t 0 < 8 by omega) c30 c40 (hP2_t (hNo_n (Bool.eq_false_iff.mp c65)) (hCo_t c100) (hDi_n (Bool.eq_false_iff.mp c120))))
                  exact k_eqw (ws2 := hallW g aT ((hPx tp tl q t).2.2) lt ++ tapW g a tp tl (tkE tp tl ((hPx tp tl q t).2.1)) (tkK tp tl ((hPx tp tl q t).2.1)) ((hPx tp tl q t).2.1) (vaN tp tl (tkN tp tl (tkN tp tl (tkN tp tl (tkN tp tl q)))) (vaN tp tl (tkN tp tl (tkN tp tl (tkN tp tl q))) (vaN tp tl (tkN tp tl (tkN tp tl q)) (vaN tp tl (tkN tp tl q) va))))) (by rw [e]; first | done | rfl) (hR _ _ _ (vaN tp tl (tkN tp tl (tkN tp tl (tkN tp tl (tkN tp tl q)))) (vaN tp tl (tkN tp tl (tkN tp tl (tkN tp tl q))) (vaN tp tl (tkN tp tl (tkN tp tl q)) (vaN tp tl (tkN tp tl q) va)))) dX2_takesPerson_137 (by rw [e]; first | done | rfl))
                · refine k_aload_n hJ dX2_takesPerson_123 0 rfl ?_
                  refine k_aload_n hJ dX2_takesPerson_124 1 rfl ?_
                  refine k_iload_n hJ dX2_takesPerson_125 3 rfl ?_
                  refine k_callV (As := [.ref (aT 0), .int (nI (t 0))]) (st := []) hJ (ct_X2_takesDeed l g a aT (vUp (vJoin t kd (hVal tp tl (tkN tp tl (tkN tp tl q)))) (4 + 10 * (t 0) + 3) 1) lt tp tl (tkN tp tl (tkN tp tl (tkN tp tl (tkN tp tl q)))) (vaN tp tl (tkN tp tl (tkN tp tl (tkN tp tl (tkN tp tl q)))) (vaN tp tl (tkN tp tl (tkN tp tl (tkN tp tl q))) (vaN tp tl (tkN tp tl (tkN tp tl q)) (vaN tp tl (tkN tp tl q) va)))) (t 0) ht htp (tkN_le (tkN_le (tkN_le (tkN_le hq)))) (by omega) c120) (fun _ => Fr.all tt_map) mv_X2_takesDeed ml_X2_84 13 rfl rfl rfl (kRm_ok (by decide) (by decide)) rfl rfl (Nat.le_of_ble_eq_true rfl) dX2_takesPerson_126 (fun r u hr => ?_)
                  subst hr
                  show J (hallW g aT ((hDi tp tl (t 0) (tkN tp tl (tkN tp tl (tkN tp tl (tkN tp tl q)))) (vUp (vJoin t kd (hVal tp tl (tkN tp tl (tkN tp tl q)))) (4 + 10 * (t 0) + 3) 1)).2.2) lt ++ tapW g a tp tl (tkE tp tl ((hDi tp tl (t 0) (tkN tp tl (tkN tp tl (tkN tp tl (tkN tp tl q)))) (vUp (vJoin t kd (hVal tp tl (tkN tp tl (tkN tp tl q)))) (4 + 10 * (t 0) + 3) 1)).2.1)) (tkK tp tl ((hDi tp tl (t 0) (tkN tp tl (tkN tp tl (tkN tp tl (tkN tp tl q)))) (vUp (vJoin t kd (hVal tp tl (tkN tp tl (tkN tp tl q)))) (4 + 10 * (t 0) + 3) 1)).2.1)) ((hDi tp tl (t 0) (tkN tp tl (tkN tp tl (tkN tp tl (tkN tp tl q)))) (vUp (vJoin t kd (hVal tp tl (tkN tp tl (tkN tp tl q)))) (4 + 10 * (t 0) + 3) 1)).2.1) u) [(0, .ref (a 2)), (1, .ref (aT 0)), (2, .int (nI kd)), (3, .int (nI (t 0)))] 129 [.int (kb ((hDi tp tl (t 0) (tkN tp tl (tkN tp tl (tkN tp tl (tkN tp tl q)))) (vUp (vJoin t kd (hVal tp tl (tkN tp tl (tkN tp tl q)))) (4 + 10 * (t 0) + 3) 1)).1))]
                  refine b_if_eq (tgt := 136) hJ dX2_takesPerson_129 (by decide) (fun c129 => ?_) (fun c129 => ?_)
                  · refine k_iconst (v := nI 0) hJ dX2_takesPerson_136 (by decide) ?_
                    have e : hPx tp tl q t = _ := hPx_s hO (hPe_ok (show t 0 < 8 by omega) c30 c40 (hP2_t (hNo_n (Bool.eq_false_iff.mp c65)) (hCo_t c100) rfl))
                    exact k_eqw (ws2 := hallW g aT ((hPx tp tl q t).2.2) lt ++ tapW g a tp tl (tkE tp tl ((hPx tp tl q t).2.1)) (tkK tp tl ((hPx tp tl q t).2.1)) ((hPx tp tl q t).2.1) u) (by rw [e]; first | done | rfl) (hR _ _ _ u dX2_takesPerson_137 (by rw [e, c129]; first | done | rfl))
                  · refine k_iconst (v := nI 1) hJ dX2_takesPerson_132 (by decide) ?_
                    refine k_goto (tgt := 137) hJ dX2_takesPerson_133 (by decide) ?_
                    have e : hPx tp tl q t = _ := hPx_s hO (hPe_ok (show t 0 < 8 by omega) c30 c40 (hP2_t (hNo_n (Bool.eq_false_iff.mp c65)) (hCo_t c100) rfl))
                    exact k_eqw (ws2 := hallW g aT ((hPx tp tl q t).2.2) lt ++ tapW g a tp tl (tkE tp tl ((hPx tp tl q t).2.1)) (tkK tp tl ((hPx tp tl q t).2.1)) ((hPx tp tl q t).2.1) u) (by rw [e]; first | done | rfl) (hR _ _ _ u dX2_takesPerson_137 (by rw [e, c129]; first | done | rfl))
            · refine k_aload_n hJ dX2_takesPerson_68 0 rfl ?_
              refine k_iconst (v := nI 0) hJ dX2_takesPerson_69 (by decide) ?_
              refine k_bipush (v := nI 9) hJ dX2_takesPerson_70 (by decide) ?_
              refine c_VI (As := [.int (nI 0), .int (nI 9)]) (st := []) hJ (ct_X2_takesNumber l g a tp tl (tkN tp tl (tkN tp tl (tkN tp tl q))) (vaN tp tl (tkN tp tl (tkN tp tl (tkN tp tl q))) (vaN tp tl (tkN tp tl (tkN tp tl q)) (vaN tp tl (tkN tp tl q) va))) 0 9 ht htp (tkN_le (tkN_le (tkN_le hq))) (by decide) (by decide)) tt_frt mv_X2_takesNumber ml_X2_44 13 rfl rfl rfl (kRm_ok (by decide) (by decide)) rfl rfl (Nat.le_of_ble_eq_true rfl) dX2_takesPerson_72 ?_
              refine b_if_ne (tgt := 80) hJ dX2_takesPerson_75 (by decide) (fun c75 => ?_) (fun c75 => ?_)
              · refine k_aload_n hJ dX2_takesPerson_80 1 rfl ?_
                refine gf_X2_74 (v := .ref (aT 3)) hJ 0 rfl rfl dX2_takesPerson_81 ?_
                refine k_iload_n hJ dX2_takesPerson_84 3 rfl ?_
                refine k_aload_n hJ dX2_takesPerson_85 0 rfl ?_
                refine gf_X2_28 (v := .int (nI (vaN tp tl (tkN tp tl (tkN tp tl (tkN tp tl (tkN tp tl q)))) (vaN tp tl (tkN tp tl (tkN tp tl (tkN tp tl q))) (vaN tp tl (tkN tp tl (tkN tp tl q)) (vaN tp tl (tkN tp tl q) va)))))) hJ 13 rfl rfl dX2_takesPerson_86 ?_
                refine k_eqs (st2 := [.int (nI (hVal tp tl (tkN tp tl (tkN tp tl (tkN tp tl (tkN tp tl q)))))), .int (nI (t 0)), .ref (aT 3)]) (by rw [vaN_t c75 (by decide)]) ?_
                refine k_iast (ws2 := hallW g aT (vUp (vJoin t kd (hVal tp tl (tkN tp tl (tkN tp tl q)))) (4 + 10 * (t 0) + 2) (hVal tp tl (tkN tp tl (tkN tp tl (tkN tp tl (tkN tp tl q)))))) lt ++ tapW g a tp tl (tkE tp tl (tkN tp tl (tkN tp tl (tkN tp tl (tkN tp tl q))))) (tkK tp tl (tkN tp tl (tkN tp tl (tkN tp tl (tkN tp tl q))))) (tkN tp tl (tkN tp tl (tkN tp tl (tkN tp tl q)))) (vaN tp tl (tkN tp tl (tkN tp tl (tkN tp tl (tkN tp tl q)))) (vaN tp tl (tkN tp tl (tkN tp tl (tkN tp tl q))) (vaN tp tl (tkN tp tl (tkN tp tl q)) (vaN tp tl (tkN tp tl q) va))))) hJ 3 rfl (t 0) (by omega) (by decide) (tt_set (i := 3) (by decide) (hs_noses g aT (vJoin t kd (hVal tp tl (tkN tp tl (tkN tp tl q)))) lt (t 0) (hVal tp tl (tkN tp tl (tkN tp tl (tkN tp tl (tkN tp tl q))))))) dX2_takesPerson_89 ?_
                refine k_aload_n hJ dX2_takesPerson_90 0 rfl ?_
                refine c_VV (As := []) (st := []) hJ (ct_X2_step l g a tp tl (tkE tp tl (tkN tp tl (tkN tp tl (tkN tp tl (tkN tp tl q))))) (tkK tp tl (tkN tp tl (tkN tp tl (tkN tp tl (tkN tp tl q))))) (tkN tp tl (tkN tp tl (tkN tp tl (tkN tp tl q)))) (vaN tp tl (tkN tp tl (tkN tp tl (tkN tp tl (tkN tp tl q)))) (vaN tp tl (tkN tp tl (tkN tp tl (tkN tp tl q))) (vaN tp tl (tkN tp tl (tkN tp tl q)) (vaN tp tl (tkN tp tl q) va)))) ht htp (tkE_le (tkN_le (tkN_le (tkN_le (tkN_le hq)))))) tt_frt mv_X2_step ml_X2_31 13 rfl rfl rfl (kRm_ok (by decide) (by decide)) rfl rfl (Nat.le_of_ble_eq_true rfl) dX2_takesPerson_91 ?_
                refine k_aload_n hJ dX2_takesPerson_94 0 rfl ?_
                refine k_ldcS hJ 4 rfl dX2_takesPerson_95 ?_
                refine c_VI (As := [.ref (g.2.2.1 4)]) (st := []) hJ (ct_X2_isWord l g a tp tl (tkN tp tl (tkN tp tl (tkN tp tl (tkN tp tl (tkN tp tl q))))) (vaN tp tl (tkN tp tl (tkN tp tl (tkN tp tl (tkN tp tl (tkN tp tl q))))) (vaN tp tl (tkN tp tl (tkN tp tl (tkN tp tl (tkN tp tl q)))) (vaN tp tl (tkN tp tl (tkN tp tl (tkN tp tl q))) (vaN tp tl (tkN tp tl (tkN tp tl q)) (vaN tp tl (tkN tp tl q) va))))) 4 ht htp (tkN_le (tkN_le (tkN_le (tkN_le (tkN_le hq))))) (by decide)) tt_frt mv_X2_isWord ml_X2_40 13 rfl rfl rfl (kRm_ok (by decide) (by decide)) rfl rfl (Nat.le_of_ble_eq_true rfl) dX2_takesPerson_97 ?_
                show J (hallW g aT (vUp (vJoin t kd (hVal tp tl (tkN tp tl (tkN tp tl q)))) (4 + 10 * (t 0) + 2) (hVal tp tl (tkN tp tl (tkN tp tl (tkN tp tl (tkN tp tl q)))))) lt ++ tapW g a tp tl (tkE tp tl (tkN tp tl (tkN tp tl (tkN tp tl (tkN tp tl (tkN tp tl q)))))) (tkK tp tl (tkN tp tl (tkN tp tl (tkN tp tl (tkN tp tl (tkN tp tl q)))))) (tkN tp tl (tkN tp tl (tkN tp tl (tkN tp tl (tkN tp tl q))))) (vaN tp tl (tkN tp tl (tkN tp tl (tkN tp tl (tkN tp tl (tkN tp tl q))))) (vaN tp tl (tkN tp tl (tkN tp tl (tkN tp tl (tkN tp tl q)))) (vaN tp tl (tkN tp tl (tkN tp tl (tkN tp tl q))) (vaN tp tl (tkN tp tl (tkN tp tl q)) (vaN tp tl (tkN tp tl q) va)))))) [(0, .ref (a 2)), (1, .ref (aT 0)), (2, .int (nI kd)), (3, .int (nI (t 0)))] 100 [.int (kb (hW tp tl wCd (tkN tp tl (tkN tp tl (tkN tp tl (tkN tp tl (tkN tp tl q)))))))]
                refine b_if_eq (tgt := 114) hJ dX2_takesPerson_100 (by decide) (fun c100 => ?_) (fun c100 => ?_)
                · refine k_aload_n hJ dX2_takesPerson_114 0 rfl ?_
                  refine k_ldcS hJ 5 rfl dX2_takesPerson_115 ?_
                  refine c_VI (As := [.ref (g.2.2.1 5)]) (st := []) hJ (ct_X2_isWord l g a tp tl (tkN tp tl (tkN tp tl (tkN tp tl (tkN tp tl (tkN tp tl q))))) (vaN tp tl (tkN tp tl (tkN tp tl (tkN tp tl (tkN tp tl (tkN tp tl q))))) (vaN tp tl (tkN tp tl (tkN tp tl (tkN tp tl (tkN tp tl q)))) (vaN tp tl (tkN tp tl (tkN tp tl (tkN tp tl q))) (vaN tp tl (tkN tp tl (tkN tp tl q)) (vaN tp tl (tkN tp tl q) va))))) 5 ht htp (tkN_le (tkN_le (tkN_le (tkN_le (tkN_le hq))))) (by decide)) tt_frt mv_X2_isWord ml_X2_40 13 rfl rfl rfl (kRm_ok (by decide) (by decide)) rfl rfl (Nat.le_of_ble_eq_true rfl) dX2_takesPerson_117 ?_
                  show J (hallW g aT (vUp (vJoin t kd (hVal tp tl (tkN tp tl (tkN tp tl q)))) (4 + 10 * (t 0) + 2) (hVal tp tl (tkN tp tl (tkN tp tl (tkN tp tl (tkN tp tl q)))))) lt ++ tapW g a tp tl (tkE tp tl (tkN tp tl (tkN tp tl (tkN tp tl (tkN tp tl (tkN tp tl q)))))) (tkK tp tl (tkN tp tl (tkN tp tl (tkN tp tl (tkN tp tl (tkN tp tl q)))))) (tkN tp tl (tkN tp tl (tkN tp tl (tkN tp tl (tkN tp tl q))))) (vaN tp tl (tkN tp tl (tkN tp tl (tkN tp tl (tkN tp tl (tkN tp tl q))))) (vaN tp tl (tkN tp tl (tkN tp tl (tkN tp tl (tkN tp tl q)))) (vaN tp tl (tkN tp tl (tkN tp tl (tkN tp tl q))) (vaN tp tl (tkN tp tl (tkN tp tl q)) (vaN tp tl (tkN tp tl q) va)))))) [(0, .ref (a 2)), (1, .ref (aT 0)), (2, .int (nI kd)), (3, .int (nI (t 0)))] 120 [.int (kb (hW tp tl wDi (tkN tp tl (tkN tp tl (tkN tp tl (tkN tp tl (tkN tp tl q)))))))]
                  refine b_if_eq (tgt := 132) hJ dX2_takesPerson_120 (by decide) (fun c120 => ?_) (fun c120 => ?_)
                  · refine k_iconst (v := nI 1) hJ dX2_takesPerson_132 (by decide) ?_
                    refine k_goto (tgt := 137) hJ dX2_takesPerson_133 (by decide) ?_
                    have e : hPx tp tl q t = _ := hPx_s hO (hPe_ok (show t 0 < 8 by omega) c30 c40 (hP2_t (hNo_t c65 c75) (hCo_n (Bool.eq_false_iff.mp c100)) (hDi_n (Bool.eq_false_iff.mp c120))))
                    exact k_eqw (ws2 := hallW g aT ((hPx tp tl q t).2.2) lt ++ tapW g a tp tl (tkE tp tl ((hPx tp tl q t).2.1)) (tkK tp tl ((hPx tp tl q t).2.1)) ((hPx tp tl q t).2.1) (vaN tp tl (tkN tp tl (tkN tp tl (tkN tp tl (tkN tp tl (tkN tp tl q))))) (vaN tp tl (tkN tp tl (tkN tp tl (tkN tp tl (tkN tp tl q)))) (vaN tp tl (tkN tp tl (tkN tp tl (tkN tp tl q))) (vaN tp tl (tkN tp tl (tkN tp tl q)) (vaN tp tl (tkN tp tl q) va)))))) (by rw [e]; first | done | rfl) (hR _ _ _ (vaN tp tl (tkN tp tl (tkN tp tl (tkN tp tl (tkN tp tl (tkN tp tl q))))) (vaN tp tl (tkN tp tl (tkN tp tl (tkN tp tl (tkN tp tl q)))) (vaN tp tl (tkN tp tl (tkN tp tl (tkN tp tl q))) (vaN tp tl (tkN tp tl (tkN tp tl q)) (vaN tp tl (tkN tp tl q) va))))) dX2_takesPerson_137 (by rw [e]; first | done | rfl))
                  · refine k_aload_n hJ dX2_takesPerson_123 0 rfl ?_
                    refine k_aload_n hJ dX2_takesPerson_124 1 rfl ?_
                    refine k_iload_n hJ dX2_takesPerson_125 3 rfl ?_
                    refine k_callV (As := [.ref (aT 0), .int (nI (t 0))]) (st := []) hJ (ct_X2_takesDeed l g a aT (vUp (vJoin t kd (hVal tp tl (tkN tp tl (tkN tp tl q)))) (4 + 10 * (t 0) + 2) (hVal tp tl (tkN tp tl (tkN tp tl (tkN tp tl (tkN tp tl q)))))) lt tp tl (tkN tp tl (tkN tp tl (tkN tp tl (tkN tp tl (tkN tp tl q))))) (vaN tp tl (tkN tp tl (tkN tp tl (tkN tp tl (tkN tp tl (tkN tp tl q))))) (vaN tp tl (tkN tp tl (tkN tp tl (tkN tp tl (tkN tp tl q)))) (vaN tp tl (tkN tp tl (tkN tp tl (tkN tp tl q))) (vaN tp tl (tkN tp tl (tkN tp tl q)) (vaN tp tl (tkN tp tl q) va))))) (t 0) ht htp (tkN_le (tkN_le (tkN_le (tkN_le (tkN_le hq))))) (by omega) c120) (fun _ => Fr.all tt_map) mv_X2_takesDeed ml_X2_84 13 rfl rfl rfl (kRm_ok (by decide) (by decide)) rfl rfl (Nat.le_of_ble_eq_true rfl) dX2_takesPerson_126 (fun r u hr => ?_)
                    subst hr
                    show J (hallW g aT ((hDi tp tl (t 0) (tkN tp tl (tkN tp tl (tkN tp tl (tkN tp tl (tkN tp tl q))))) (vUp (vJoin t kd (hVal tp tl (tkN tp tl (tkN tp tl q)))) (4 + 10 * (t 0) + 2) (hVal tp tl (tkN tp tl (tkN tp tl (tkN tp tl (tkN tp tl q))))))).2.2) lt ++ tapW g a tp tl (tkE tp tl ((hDi tp tl (t 0) (tkN tp tl (tkN tp tl (tkN tp tl (tkN tp tl (tkN tp tl q))))) (vUp (vJoin t kd (hVal tp tl (tkN tp tl (tkN tp tl q)))) (4 + 10 * (t 0) + 2) (hVal tp tl (tkN tp tl (tkN tp tl (tkN tp tl (tkN tp tl q))))))).2.1)) (tkK tp tl ((hDi tp tl (t 0) (tkN tp tl (tkN tp tl (tkN tp tl (tkN tp tl (tkN tp tl q))))) (vUp (vJoin t kd (hVal tp tl (tkN tp tl (tkN tp tl q)))) (4 + 10 * (t 0) + 2) (hVal tp tl (tkN tp tl (tkN tp tl (tkN tp tl (tkN tp tl q))))))).2.1)) ((hDi tp tl (t 0) (tkN tp tl (tkN tp tl (tkN tp tl (tkN tp tl (tkN tp tl q))))) (vUp (vJoin t kd (hVal tp tl (tkN tp tl (tkN tp tl q)))) (4 + 10 * (t 0) + 2) (hVal tp tl (tkN tp tl (tkN tp tl (tkN tp tl (tkN tp tl q))))))).2.1) u) [(0, .ref (a 2)), (1, .ref (aT 0)), (2, .int (nI kd)), (3, .int (nI (t 0)))] 129 [.int (kb ((hDi tp tl (t 0) (tkN tp tl (tkN tp tl (tkN tp tl (tkN tp tl (tkN tp tl q))))) (vUp (vJoin t kd (hVal tp tl (tkN tp tl (tkN tp tl q)))) (4 + 10 * (t 0) + 2) (hVal tp tl (tkN tp tl (tkN tp tl (tkN tp tl (tkN tp tl q))))))).1))]
                    refine b_if_eq (tgt := 136) hJ dX2_takesPerson_129 (by decide) (fun c129 => ?_) (fun c129 => ?_)
                    · refine k_iconst (v := nI 0) hJ dX2_takesPerson_136 (by decide) ?_
                      have e : hPx tp tl q t = _ := hPx_s hO (hPe_ok (show t 0 < 8 by omega) c30 c40 (hP2_t (hNo_t c65 c75) (hCo_n (Bool.eq_false_iff.mp c100)) rfl))
                      exact k_eqw (ws2 := hallW g aT ((hPx tp tl q t).2.2) lt ++ tapW g a tp tl (tkE tp tl ((hPx tp tl q t).2.1)) (tkK tp tl ((hPx tp tl q t).2.1)) ((hPx tp tl q t).2.1) u) (by rw [e]; first | done | rfl) (hR _ _ _ u dX2_takesPerson_137 (by rw [e, c129]; first | done | rfl))
                    · refine k_iconst (v := nI 1) hJ dX2_takesPerson_132 (by decide) ?_
                      refine k_goto (tgt := 137) hJ dX2_takesPerson_133 (by decide) ?_
                      have e : hPx tp tl q t = _ := hPx_s hO (hPe_ok (show t 0 < 8 by omega) c30 c40 (hP2_t (hNo_t c65 c75) (hCo_n (Bool.eq_false_iff.mp c100)) rfl))
                      exact k_eqw (ws2 := hallW g aT ((hPx tp tl q t).2.2) lt ++ tapW g a tp tl (tkE tp tl ((hPx tp tl q t).2.1)) (tkK tp tl ((hPx tp tl q t).2.1)) ((hPx tp tl q t).2.1) u) (by rw [e]; first | done | rfl) (hR _ _ _ u dX2_takesPerson_137 (by rw [e, c129]; first | done | rfl))
                · refine k_aload_n hJ dX2_takesPerson_103 1 rfl ?_
                  refine gf_X2_79 (v := .ref (aT 4)) hJ 0 rfl rfl dX2_takesPerson_104 ?_
                  refine k_iload_n hJ dX2_takesPerson_107 3 rfl ?_
                  refine k_iconst (v := nI 1) hJ dX2_takesPerson_108 (by decide) ?_
                  refine k_iast (ws2 := hallW g aT (vUp (vUp (vJoin t kd (hVal tp tl (tkN tp tl (tkN tp tl q)))) (4 + 10 * (t 0) + 2) (hVal tp tl (tkN tp tl (tkN tp tl (tkN tp tl (tkN tp tl q)))))) (4 + 10 * (t 0) + 3) 1) lt ++ tapW g a tp tl (tkE tp tl (tkN tp tl (tkN tp tl (tkN tp tl (tkN tp tl (tkN tp tl q)))))) (tkK tp tl (tkN tp tl (tkN tp tl (tkN tp tl (tkN tp tl (tkN tp tl q)))))) (tkN tp tl (tkN tp tl (tkN tp tl (tkN tp tl (tkN tp tl q))))) (vaN tp tl (tkN tp tl (tkN tp tl (tkN tp tl (tkN tp tl (tkN tp tl q))))) (vaN tp tl (tkN tp tl (tkN tp tl (tkN tp tl (tkN tp tl q)))) (vaN tp tl (tkN tp tl (tkN tp tl (tkN tp tl q))) (vaN tp tl (tkN tp tl (tkN tp tl q)) (vaN tp tl (tkN tp tl q) va)))))) hJ 4 rfl (t 0) (by omega) (by decide) (tt_set (i := 4) (by decide) (hs_colds g aT (vUp (vJoin t kd (hVal tp tl (tkN tp tl (tkN tp tl q)))) (4 + 10 * (t 0) + 2) (hVal tp tl (tkN tp tl (tkN tp tl (tkN tp tl (tkN tp tl q)))))) lt (t 0) 1)) dX2_takesPerson_109 ?_
                  refine k_aload_n hJ dX2_takesPerson_110 0 rfl ?_
                  refine c_VV (As := []) (st := []) hJ (ct_X2_step l g a tp tl (tkE tp tl (tkN tp tl (tkN tp tl (tkN tp tl (tkN tp tl (tkN tp tl q)))))) (tkK tp tl (tkN tp tl (tkN tp tl (tkN tp tl (tkN tp tl (tkN tp tl q)))))) (tkN tp tl (tkN tp tl (tkN tp tl (tkN tp tl (tkN tp tl q))))) (vaN tp tl (tkN tp tl (tkN tp tl (tkN tp tl (tkN tp tl (tkN tp tl q))))) (vaN tp tl (tkN tp tl (tkN tp tl (tkN tp tl (tkN tp tl q)))) (vaN tp tl (tkN tp tl (tkN tp tl (tkN tp tl q))) (vaN tp tl (tkN tp tl (tkN tp tl q)) (vaN tp tl (tkN tp tl q) va))))) ht htp (tkE_le (tkN_le (tkN_le (tkN_le (tkN_le (tkN_le hq))))))) tt_frt mv_X2_step ml_X2_31 13 rfl rfl rfl (kRm_ok (by decide) (by decide)) rfl rfl (Nat.le_of_ble_eq_true rfl) dX2_takesPerson_111 ?_
                  refine k_aload_n hJ dX2_takesPerson_114 0 rfl ?_
                  refine k_ldcS hJ 5 rfl dX2_takesPerson_115 ?_
                  refine c_VI (As := [.ref (g.2.2.1 5)]) (st := []) hJ (ct_X2_isWord l g a tp tl (tkN tp tl (tkN tp tl (tkN tp tl (tkN tp tl (tkN tp tl (tkN tp tl q)))))) (vaN tp tl (tkN tp tl (tkN tp tl (tkN tp tl (tkN tp tl (tkN tp tl (tkN tp tl q)))))) (vaN tp tl (tkN tp tl (tkN tp tl (tkN tp tl (tkN tp tl (tkN tp tl q))))) (vaN tp tl (tkN tp tl (tkN tp tl (tkN tp tl (tkN tp tl q)))) (vaN tp tl (tkN tp tl (tkN tp tl (tkN tp tl q))) (vaN tp tl (tkN tp tl (tkN tp tl q)) (vaN tp tl (tkN tp tl q) va)))))) 5 ht htp (tkN_le (tkN_le (tkN_le (tkN_le (tkN_le (tkN_le hq)))))) (by decide)) tt_frt mv_X2_isWord ml_X2_40 13 rfl rfl rfl (kRm_ok (by decide) (by decide)) rfl rfl (Nat.le_of_ble_eq_true rfl) dX2_takesPerson_117 ?_
                  show J (hallW g aT (vUp (vUp (vJoin t kd (hVal tp tl (tkN tp tl (tkN tp tl q)))) (4 + 10 * (t 0) + 2) (hVal tp tl (tkN tp tl (tkN tp tl (tkN tp tl (tkN tp tl q)))))) (4 + 10 * (t 0) + 3) 1) lt ++ tapW g a tp tl (tkE tp tl (tkN tp tl (tkN tp tl (tkN tp tl (tkN tp tl (tkN tp tl (tkN tp tl q))))))) (tkK tp tl (tkN tp tl (tkN tp tl (tkN tp tl (tkN tp tl (tkN tp tl (tkN tp tl q))))))) (tkN tp tl (tkN tp tl (tkN tp tl (tkN tp tl (tkN tp tl (tkN tp tl q)))))) (vaN tp tl (tkN tp tl (tkN tp tl (tkN tp tl (tkN tp tl (tkN tp tl (tkN tp tl q)))))) (vaN tp tl (tkN tp tl (tkN tp tl (tkN tp tl (tkN tp tl (tkN tp tl q))))) (vaN tp tl (tkN tp tl (tkN tp tl (tkN tp tl (tkN tp tl q)))) (vaN tp tl (tkN tp tl (tkN tp tl (tkN tp tl q))) (vaN tp tl (tkN tp tl (tkN tp tl q)) (vaN tp tl (tkN tp tl q) va))))))) [(0, .ref (a 2)), (1, .ref (aT 0)), (2, .int (nI kd)), (3, .int (nI (t 0)))] 120 [.int (kb (hW tp tl wDi (tkN tp tl (tkN tp tl (tkN tp tl (tkN tp tl (tkN tp tl (tkN tp tl q))))))))]
                  refine b_if_eq (tgt := 132) hJ dX2_takesPerson_120 (by decide) (fun c120 => ?_) (fun c120 => ?_)
                  · refine k_iconst (v := nI 1) hJ dX2_takesPerson_132 (by decide) ?_
                    refine k_goto (tgt := 137) hJ dX2_takesPerson_133 (by decide) ?_
                    have e : hPx tp tl q t = _ := hPx_s hO (hPe_ok (show t 0 < 8 by omega) c30 c40 (hP2_t (hNo_t c65 c75) (hCo_t c100) (hDi_n (Bool.eq_false_iff.mp c120))))
                    exact k_eqw (ws2 := hallW g aT ((hPx tp tl q t).2.2) lt ++ tapW g a tp tl (tkE tp tl ((hPx tp tl q t).2.1)) (tkK tp tl ((hPx tp tl q t).2.1)) ((hPx tp tl q t).2.1) (vaN tp tl (tkN tp tl (tkN tp tl (tkN tp tl (tkN tp tl (tkN tp tl (tkN tp tl q)))))) (vaN tp tl (tkN tp tl (tkN tp tl (tkN tp tl (tkN tp tl (tkN tp tl q))))) (vaN tp tl (tkN tp tl (tkN tp tl (tkN tp tl (tkN tp tl q)))) (vaN tp tl (tkN tp tl (tkN tp tl (tkN tp tl q))) (vaN tp tl (tkN tp tl (tkN tp tl q)) (vaN tp tl (tkN tp tl q) va))))))) (by rw [e]; first | done | rfl) (hR _ _ _ (vaN tp tl (tkN tp tl (tkN tp tl (tkN tp tl (tkN tp tl (tkN tp tl (tkN tp tl q)))))) (vaN tp tl (tkN tp tl (tkN tp tl (tkN tp tl (tkN tp tl (tkN tp tl q))))) (vaN tp tl (tkN tp tl (tkN tp tl (tkN tp tl (tkN tp tl q)))) (vaN tp tl (tkN tp tl (tkN tp tl (tkN tp tl q))) (vaN tp tl (tkN tp tl (tkN tp tl q)) (vaN tp tl (tkN tp tl q) va)))))) dX2_takesPerson_137 (by rw [e]; first | done | rfl))
                  · refine k_aload_n hJ dX2_takesPerson_123 0 rfl ?_
                    refine k_aload_n hJ dX2_takesPerson_124 1 rfl ?_
                    refine k_iload_n hJ dX2_takesPerson_125 3 rfl ?_
                    refine k_callV (As := [.ref (aT 0), .int (nI (t 0))]) (st := []) hJ (ct_X2_takesDeed l g a aT (vUp (vUp (vJoin t kd (hVal tp tl (tkN tp tl (tkN tp tl q)))) (4 + 10 * (t 0) + 2) (hVal tp tl (tkN tp tl (tkN tp tl (tkN tp tl (tkN tp tl q)))))) (4 + 10 * (t 0) + 3) 1) lt tp tl (tkN tp tl (tkN tp tl (tkN tp tl (tkN tp tl (tkN tp tl (tkN tp tl q)))))) (vaN tp tl (tkN tp tl (tkN tp tl (tkN tp tl (tkN tp tl (tkN tp tl (tkN tp tl q)))))) (vaN tp tl (tkN tp tl (tkN tp tl (tkN tp tl (tkN tp tl (tkN tp tl q))))) (vaN tp tl (tkN tp tl (tkN tp tl (tkN tp tl (tkN tp tl q)))) (vaN tp tl (tkN tp tl (tkN tp tl (tkN tp tl q))) (vaN tp tl (tkN tp tl (tkN tp tl q)) (vaN tp tl (tkN tp tl q) va)))))) (t 0) ht htp (tkN_le (tkN_le (tkN_le (tkN_le (tkN_le (tkN_le hq)))))) (by omega) c120) (fun _ => Fr.all tt_map) mv_X2_takesDeed ml_X2_84 13 rfl rfl rfl (kRm_ok (by decide) (by decide)) rfl rfl (Nat.le_of_ble_eq_true rfl) dX2_takesPerson_126 (fun r u hr => ?_)
                    subst hr
                    show J (hallW g aT ((hDi tp tl (t 0) (tkN tp tl (tkN tp tl (tkN tp tl (tkN tp tl (tkN tp tl (tkN tp tl q)))))) (vUp (vUp (vJoin t kd (hVal tp tl (tkN tp tl (tkN tp tl q)))) (4 + 10 * (t 0) + 2) (hVal tp tl (tkN tp tl (tkN tp tl (tkN tp tl (tkN tp tl q)))))) (4 + 10 * (t 0) + 3) 1)).2.2) lt ++ tapW g a tp tl (tkE tp tl ((hDi tp tl (t 0) (tkN tp tl (tkN tp tl (tkN tp tl (tkN tp tl (tkN tp tl (tkN tp tl q)))))) (vUp (vUp (vJoin t kd (hVal tp tl (tkN tp tl (tkN tp tl q)))) (4 + 10 * (t 0) + 2) (hVal tp tl (tkN tp tl (tkN tp tl (tkN tp tl (tkN tp tl q)))))) (4 + 10 * (t 0) + 3) 1)).2.1)) (tkK tp tl ((hDi tp tl (t 0) (tkN tp tl (tkN tp tl (tkN tp tl (tkN tp tl (tkN tp tl (tkN tp tl q)))))) (vUp (vUp (vJoin t kd (hVal tp tl (tkN tp tl (tkN tp tl q)))) (4 + 10 * (t 0) + 2) (hVal tp tl (tkN tp tl (tkN tp tl (tkN tp tl (tkN tp tl q)))))) (4 + 10 * (t 0) + 3) 1)).2.1)) ((hDi tp tl (t 0) (tkN tp tl (tkN tp tl (tkN tp tl (tkN tp tl (tkN tp tl (tkN tp tl q)))))) (vUp (vUp (vJoin t kd (hVal tp tl (tkN tp tl (tkN tp tl q)))) (4 + 10 * (t 0) + 2) (hVal tp tl (tkN tp tl (tkN tp tl (tkN tp tl (tkN tp tl q)))))) (4 + 10 * (t 0) + 3) 1)).2.1) u) [(0, .ref (a 2)), (1, .ref (aT 0)), (2, .int (nI kd)), (3, .int (nI (t 0)))] 129 [.int (kb ((hDi tp tl (t 0) (tkN tp tl (tkN tp tl (tkN tp tl (tkN tp tl (tkN tp tl (tkN tp tl q)))))) (vUp (vUp (vJoin t kd (hVal tp tl (tkN tp tl (tkN tp tl q)))) (4 + 10 * (t 0) + 2) (hVal tp tl (tkN tp tl (tkN tp tl (tkN tp tl (tkN tp tl q)))))) (4 + 10 * (t 0) + 3) 1)).1))]
                    refine b_if_eq (tgt := 136) hJ dX2_takesPerson_129 (by decide) (fun c129 => ?_) (fun c129 => ?_)
                    · refine k_iconst (v := nI 0) hJ dX2_takesPerson_136 (by decide) ?_
                      have e : hPx tp tl q t = _ := hPx_s hO (hPe_ok (show t 0 < 8 by omega) c30 c40 (hP2_t (hNo_t c65 c75) (hCo_t c100) rfl))
                      exact k_eqw (ws2 := hallW g aT ((hPx tp tl q t).2.2) lt ++ tapW g a tp tl (tkE tp tl ((hPx tp tl q t).2.1)) (tkK tp tl ((hPx tp tl q t).2.1)) ((hPx tp tl q t).2.1) u) (by rw [e]; first | done | rfl) (hR _ _ _ u dX2_takesPerson_137 (by rw [e, c129]; first | done | rfl))
                    · refine k_iconst (v := nI 1) hJ dX2_takesPerson_132 (by decide) ?_
                      refine k_goto (tgt := 137) hJ dX2_takesPerson_133 (by decide) ?_
                      have e : hPx tp tl q t = _ := hPx_s hO (hPe_ok (show t 0 < 8 by omega) c30 c40 (hP2_t (hNo_t c65 c75) (hCo_t c100) rfl))
                      exact k_eqw (ws2 := hallW g aT ((hPx tp tl q t).2.2) lt ++ tapW g a tp tl (tkE tp tl ((hPx tp tl q t).2.1)) (tkK tp tl ((hPx tp tl q t).2.1)) ((hPx tp tl q t).2.1) u) (by rw [e]; first | done | rfl) (hR _ _ _ u dX2_takesPerson_137 (by rw [e, c129]; first | done | rfl))
              · refine k_iconst (v := nI 0) hJ dX2_takesPerson_78 (by decide) ?_
                have e : hPx tp tl q t = _ := hPx_s hO (hPe_ok (show t 0 < 8 by omega) c30 c40 (hP2_f (hNo_f c65 c75)))
                exact k_eqw (ws2 := hallW g aT ((hPx tp tl q t).2.2) lt ++ tapW g a tp tl (tkE tp tl ((hPx tp tl q t).2.1)) (tkK tp tl ((hPx tp tl q t).2.1)) ((hPx tp tl q t).2.1) (vaN tp tl (tkN tp tl (tkN tp tl (tkN tp tl (tkN tp tl q)))) (vaN tp tl (tkN tp tl (tkN tp tl (tkN tp tl q))) (vaN tp tl (tkN tp tl (tkN tp tl q)) (vaN tp tl (tkN tp tl q) va))))) (by rw [e]; first | done | rfl) (hR _ _ _ (vaN tp tl (tkN tp tl (tkN tp tl (tkN tp tl (tkN tp tl q)))) (vaN tp tl (tkN tp tl (tkN tp tl (tkN tp tl q))) (vaN tp tl (tkN tp tl (tkN tp tl q)) (vaN tp tl (tkN tp tl q) va)))) dX2_takesPerson_79 (by rw [e]; first | done | rfl))
          · refine k_iconst (v := nI 0) hJ dX2_takesPerson_43 (by decide) ?_
            have e : hPx tp tl q t = _ := hPx_s hO (hPe_p (show t 0 < 8 by omega) c30 c40)
            exact k_eqw (ws2 := hallW g aT ((hPx tp tl q t).2.2) lt ++ tapW g a tp tl (tkE tp tl ((hPx tp tl q t).2.1)) (tkK tp tl ((hPx tp tl q t).2.1)) ((hPx tp tl q t).2.1) (vaN tp tl (tkN tp tl (tkN tp tl q)) (vaN tp tl (tkN tp tl q) va))) (by rw [e]; first | done | rfl) (hR _ _ _ (vaN tp tl (tkN tp tl (tkN tp tl q)) (vaN tp tl (tkN tp tl q) va)) dX2_takesPerson_44 (by rw [e]; first | done | rfl))
      · refine k_iconst (v := nI 0) hJ dX2_takesPerson_18 (by decide) ?_
        have e : hPx tp tl q t = _ := hPx_s hO (hPe_8 (by omega))
        exact k_eqw (ws2 := hallW g aT ((hPx tp tl q t).2.2) lt ++ tapW g a tp tl (tkE tp tl ((hPx tp tl q t).2.1)) (tkK tp tl ((hPx tp tl q t).2.1)) ((hPx tp tl q t).2.1) va) (by rw [e]; first | done | rfl) (hR _ _ _ va dX2_takesPerson_19 (by rw [e]; first | done | rfl))
theorem hKd_w {tp : Nat → Nat} {tl q : Nat} (h : hW tp tl wWi q = true) : hKd tp tl q = none := by
  unfold hKd
  rw [hW_ne (v := wPe) h (Or.inl (by decide)), hW_ne (v := wCo) h (Or.inr ⟨0, by decide, by decide⟩), hW_ne (v := wBa) h (Or.inl (by decide)), hW_ne (v := wDo) h (Or.inl (by decide)), hW_ne (v := wPf) h (Or.inl (by decide)), hW_ne (v := wHo) h (Or.inl (by decide))]
  rfl
theorem hKd_d {tp : Nat → Nat} {tl q : Nat} (h : hW tp tl wDu q = true) : hKd tp tl q = none := by
  unfold hKd
  rw [hW_ne (v := wPe) h (Or.inl (by decide)), hW_ne (v := wCo) h (Or.inl (by decide)), hW_ne (v := wBa) h (Or.inl (by decide)), hW_ne (v := wDo) h (Or.inr ⟨1, by decide, by decide⟩), hW_ne (v := wPf) h (Or.inl (by decide)), hW_ne (v := wHo) h (Or.inl (by decide))]
  rfl
theorem hIt_x {tp : Nat → Nat} {tl q : Nat} {m : Nat → Nat} (h1 : ¬ hW tp tl wWi q = true) (h2 : ¬ hW tp tl wDu q = true) : hIt tp tl q m = hPx tp tl q m := by
  unfold hPx
  cases e : hKd tp tl q with
  | none => exact hIt_no e h1 h2
  | some kd => unfold hIt; rw [e]
set_option maxHeartbeats 4000000 in
set_option maxRecDepth 100000 in
theorem ct_X2_takesItem (l : Launch) (g : KG) (a aT : Nat → Nat) (t : Nat → Nat) (lt : Nat → Int32) (tp : Nat → Nat) (tl q va : Nat)  (ht : tl ≤ 120) (htp : ∀ i, tp i < 256) (hq : q ≤ tl) (h0 : t 0 ≤ 8) : CT l yX2_takesItem cX2_takesItem 2 (some .boolean) (rmK 9) g [.ref (a 2), .ref (aT 0)] (hallW g aT t lt ++ tapW g a tp tl (tkE tp tl q) (tkK tp tl q) q va) (S := Nat) oI (fun r _ => r = kb (hIt tp tl q t).1) (fun u => hallW g aT ((hIt tp tl q t).2.2) lt ++ tapW g a tp tl (tkE tp tl ((hIt tp tl q t).2.1)) (tkK tp tl ((hIt tp tl q t).2.1)) ((hIt tp tl q t).2.1) u) := by
  refine k_bodyI (by decide) (Nat.le_of_ble_eq_true rfl) (fun _ _ h => by rw [h]; exact kb_nar _) (fun J hJ hR => ?_)
  show J (hallW g aT t lt ++ tapW g a tp tl (tkE tp tl q) (tkK tp tl q) q va) [(0, .ref (a 2)), (1, .ref (aT 0))] 0 []
  refine k_aload_n hJ dX2_takesItem_0 0 rfl ?_
  refine k_ldcS hJ 0 rfl dX2_takesItem_1 ?_
  refine c_VI (As := [.ref (g.2.2.1 0)]) (st := []) hJ (ct_X2_isWord l g a tp tl q va 0 ht htp hq (by decide)) tt_frt mv_X2_isWord ml_X2_40 13 rfl rfl rfl (kRm_ok (by decide) (by decide)) rfl rfl (Nat.le_of_ble_eq_true rfl) dX2_takesItem_3 ?_
  show J (hallW g aT t lt ++ tapW g a tp tl (tkE tp tl q) (tkK tp tl q) q va) [(0, .ref (a 2)), (1, .ref (aT 0))] 6 [.int (kb (hW tp tl wWi q))]
  refine b_if_eq (tgt := 34) hJ dX2_takesItem_6 (by decide) (fun c6 => ?_) (fun c6 => ?_)
  · refine k_aload_n hJ dX2_takesItem_34 0 rfl ?_
    refine k_ldcS hJ 1 rfl dX2_takesItem_35 ?_
    refine c_VI (As := [.ref (g.2.2.1 1)]) (st := []) hJ (ct_X2_isWord l g a tp tl q va 1 ht htp hq (by decide)) tt_frt mv_X2_isWord ml_X2_40 13 rfl rfl rfl (kRm_ok (by decide) (by decide)) rfl rfl (Nat.le_of_ble_eq_true rfl) dX2_takesItem_37 ?_
    show J (hallW g aT t lt ++ tapW g a tp tl (tkE tp tl q) (tkK tp tl q) q va) [(0, .ref (a 2)), (1, .ref (aT 0))] 40 [.int (kb (hW tp tl wDu q))]
    refine b_if_eq (tgt := 69) hJ dX2_takesItem_40 (by decide) (fun c40 => ?_) (fun c40 => ?_)
    · refine k_aload_n hJ dX2_takesItem_69 0 rfl ?_
      refine k_aload_n hJ dX2_takesItem_70 1 rfl ?_
      refine k_callV (As := [.ref (aT 0)]) (st := []) hJ (ct_X2_takesPerson l g a aT t lt tp tl q va ht htp hq h0) (fun _ => Fr.all tt_map) mv_X2_takesPerson ml_X2_56 13 rfl rfl rfl (kRm_ok (by decide) (by decide)) rfl rfl (Nat.le_of_ble_eq_true rfl) dX2_takesItem_71 (fun r u hr => ?_)
      subst hr
      show J (hallW g aT ((hPx tp tl q t).2.2) lt ++ tapW g a tp tl (tkE tp tl ((hPx tp tl q t).2.1)) (tkK tp tl ((hPx tp tl q t).2.1)) ((hPx tp tl q t).2.1) u) [(0, .ref (a 2)), (1, .ref (aT 0))] 74 [.int (kb ((hPx tp tl q t).1))]
      have e : hIt tp tl q t = _ := hIt_x (Bool.eq_false_iff.mp c6) (Bool.eq_false_iff.mp c40)
      exact k_eqw (ws2 := hallW g aT ((hIt tp tl q t).2.2) lt ++ tapW g a tp tl (tkE tp tl ((hIt tp tl q t).2.1)) (tkK tp tl ((hIt tp tl q t).2.1)) ((hIt tp tl q t).2.1) u) (by rw [e]; first | done | rfl) (hR _ _ _ u dX2_takesItem_74 (by rw [e]; first | done | rfl))
    · refine k_aload_n hJ dX2_takesItem_43 0 rfl ?_
      refine k_iconst (v := nI 1) hJ dX2_takesItem_44 (by decide) ?_
      refine k_bipush (v := nI 99) hJ dX2_takesItem_45 (by decide) ?_
      refine c_VI (As := [.int (nI 1), .int (nI 99)]) (st := []) hJ (ct_X2_takesNumber l g a tp tl q va 1 99 ht htp hq (by decide) (by decide)) tt_frt mv_X2_takesNumber ml_X2_44 13 rfl rfl rfl (kRm_ok (by decide) (by decide)) rfl rfl (Nat.le_of_ble_eq_true rfl) dX2_takesItem_47 ?_
      refine b_if_ne (tgt := 55) hJ dX2_takesItem_50 (by decide) (fun c50 => ?_) (fun c50 => ?_)
      · refine k_aload_n hJ dX2_takesItem_55 1 rfl ?_
        refine k_aload_n hJ dX2_takesItem_56 0 rfl ?_
        refine gf_X2_28 (v := .int (nI (vaN tp tl (tkN tp tl q) va))) hJ 13 rfl rfl dX2_takesItem_57 ?_
        refine k_eqs (st2 := [.int (nI (hVal tp tl (tkN tp tl q))), .ref (aT 0)]) (by rw [vaN_t c50 (by decide)]) ?_
        refine pf_X2_54 (ws2 := hallW g aT (vUp t 3 (hVal tp tl (tkN tp tl q))) lt ++ tapW g a tp tl (tkE tp tl (tkN tp tl q)) (tkK tp tl (tkN tp tl q)) (tkN tp tl q) (vaN tp tl (tkN tp tl q) va)) hJ 0 rfl (tt_set (i := 0) (by decide) (hs_due g aT t lt (hVal tp tl (tkN tp tl q)))) (Nat.le_of_ble_eq_true rfl) dX2_takesItem_60 ?_
        refine k_aload_n hJ dX2_takesItem_63 0 rfl ?_
        refine c_VV (As := []) (st := []) hJ (ct_X2_step l g a tp tl (tkE tp tl (tkN tp tl q)) (tkK tp tl (tkN tp tl q)) (tkN tp tl q) (vaN tp tl (tkN tp tl q) va) ht htp (tkE_le (tkN_le hq))) tt_frt mv_X2_step ml_X2_31 13 rfl rfl rfl (kRm_ok (by decide) (by decide)) rfl rfl (Nat.le_of_ble_eq_true rfl) dX2_takesItem_64 ?_
        refine k_iconst (v := nI 1) hJ dX2_takesItem_67 (by decide) ?_
        have e : hIt tp tl q t = _ := hIt_dt (hKd_d c40) (Bool.eq_false_iff.mp c6) c40 c50
        exact k_eqw (ws2 := hallW g aT ((hIt tp tl q t).2.2) lt ++ tapW g a tp tl (tkE tp tl ((hIt tp tl q t).2.1)) (tkK tp tl ((hIt tp tl q t).2.1)) ((hIt tp tl q t).2.1) (vaN tp tl (tkN tp tl (tkN tp tl q)) (vaN tp tl (tkN tp tl q) va))) (by rw [e]; first | done | rfl) (hR _ _ _ (vaN tp tl (tkN tp tl (tkN tp tl q)) (vaN tp tl (tkN tp tl q) va)) dX2_takesItem_68 (by rw [e]; first | done | rfl))
      · refine k_iconst (v := nI 0) hJ dX2_takesItem_53 (by decide) ?_
        have e : hIt tp tl q t = _ := hIt_df (hKd_d c40) (Bool.eq_false_iff.mp c6) c40 c50
        exact k_eqw (ws2 := hallW g aT ((hIt tp tl q t).2.2) lt ++ tapW g a tp tl (tkE tp tl ((hIt tp tl q t).2.1)) (tkK tp tl ((hIt tp tl q t).2.1)) ((hIt tp tl q t).2.1) (vaN tp tl (tkN tp tl q) va)) (by rw [e]; first | done | rfl) (hR _ _ _ (vaN tp tl (tkN tp tl q) va) dX2_takesItem_54 (by rw [e]; first | done | rfl))
  · refine k_aload_n hJ dX2_takesItem_9 0 rfl ?_
    refine k_iconst (v := nI 0) hJ dX2_takesItem_10 (by decide) ?_
    refine k_iconst (v := nI 4) hJ dX2_takesItem_11 (by decide) ?_
    refine c_VI (As := [.int (nI 0), .int (nI 4)]) (st := []) hJ (ct_X2_takesNumber l g a tp tl q va 0 4 ht htp hq (by decide) (by decide)) tt_frt mv_X2_takesNumber ml_X2_44 13 rfl rfl rfl (kRm_ok (by decide) (by decide)) rfl rfl (Nat.le_of_ble_eq_true rfl) dX2_takesItem_12 ?_
    refine b_if_ne (tgt := 20) hJ dX2_takesItem_15 (by decide) (fun c15 => ?_) (fun c15 => ?_)
    · refine k_aload_n hJ dX2_takesItem_20 1 rfl ?_
      refine k_aload_n hJ dX2_takesItem_21 0 rfl ?_
      refine gf_X2_28 (v := .int (nI (vaN tp tl (tkN tp tl q) va))) hJ 13 rfl rfl dX2_takesItem_22 ?_
      refine k_eqs (st2 := [.int (nI (hVal tp tl (tkN tp tl q))), .ref (aT 0)]) (by rw [vaN_t c15 (by decide)]) ?_
      refine pf_X2_48 (ws2 := hallW g aT (vUp t 2 (hVal tp tl (tkN tp tl q))) lt ++ tapW g a tp tl (tkE tp tl (tkN tp tl q)) (tkK tp tl (tkN tp tl q)) (tkN tp tl q) (vaN tp tl (tkN tp tl q) va)) hJ 0 rfl (tt_set (i := 0) (by decide) (hs_wind g aT t lt (hVal tp tl (tkN tp tl q)))) (Nat.le_of_ble_eq_true rfl) dX2_takesItem_25 ?_
      refine k_aload_n hJ dX2_takesItem_28 0 rfl ?_
      refine c_VV (As := []) (st := []) hJ (ct_X2_step l g a tp tl (tkE tp tl (tkN tp tl q)) (tkK tp tl (tkN tp tl q)) (tkN tp tl q) (vaN tp tl (tkN tp tl q) va) ht htp (tkE_le (tkN_le hq))) tt_frt mv_X2_step ml_X2_31 13 rfl rfl rfl (kRm_ok (by decide) (by decide)) rfl rfl (Nat.le_of_ble_eq_true rfl) dX2_takesItem_29 ?_
      refine k_iconst (v := nI 1) hJ dX2_takesItem_32 (by decide) ?_
      have e : hIt tp tl q t = _ := hIt_wt (hKd_w c6) c6 c15
      exact k_eqw (ws2 := hallW g aT ((hIt tp tl q t).2.2) lt ++ tapW g a tp tl (tkE tp tl ((hIt tp tl q t).2.1)) (tkK tp tl ((hIt tp tl q t).2.1)) ((hIt tp tl q t).2.1) (vaN tp tl (tkN tp tl (tkN tp tl q)) (vaN tp tl (tkN tp tl q) va))) (by rw [e]; first | done | rfl) (hR _ _ _ (vaN tp tl (tkN tp tl (tkN tp tl q)) (vaN tp tl (tkN tp tl q) va)) dX2_takesItem_33 (by rw [e]; first | done | rfl))
    · refine k_iconst (v := nI 0) hJ dX2_takesItem_18 (by decide) ?_
      have e : hIt tp tl q t = _ := hIt_wf (hKd_w c6) c6 c15
      exact k_eqw (ws2 := hallW g aT ((hIt tp tl q t).2.2) lt ++ tapW g a tp tl (tkE tp tl ((hIt tp tl q t).2.1)) (tkK tp tl ((hIt tp tl q t).2.1)) ((hIt tp tl q t).2.1) (vaN tp tl (tkN tp tl q) va)) (by rw [e]; first | done | rfl) (hR _ _ _ (vaN tp tl (tkN tp tl q) va) dX2_takesItem_19 (by rw [e]; first | done | rfl))
