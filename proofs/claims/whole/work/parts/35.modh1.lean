theorem mw_map {g : KG} {b : Nat → Nat} {e e2 : Nat → Int32} {m m2 : Nat → Nat} {th ai ct ks ot th2 ai2 ct2 ks2 ot2 : Nat → Int32} {tp sb sz tp2 sb2 sz2 : Nat → Nat} {nu nu2 : Nat → Nat → Int64} {mo mo2 : Nat → Int64} : (modW g b e2 m2 th2 ai2 ct2 ks2 ot2 tp2 sb2 sz2 nu2 mo2).map Prod.fst = (modW g b e m th ai ct ks ot tp sb sz nu mo).map Prod.fst := rfl
theorem ms_map {g : KG} {b : Nat → Nat} {e e2 : Nat → Int32} {m m2 : Nat → Nat} : (modS g b e2 m2).map Prod.fst = (modS g b e m).map Prod.fst := rfl
section HL
variable {tp : Nat → Nat} {tl p q kd : Nat} {m : Nat → Nat}
theorem hNo_n (c : ¬ hW tp tl wNo q = true) : hNo tp tl p q m = (true, q, m) := if_neg c
theorem hNo_t (c : hW tp tl wNo q = true) (n : hNum tp tl 0 9 (tkN tp tl q) = true) : hNo tp tl p q m = (true, tkN tp tl (tkN tp tl q), vUp m (4 + 10 * p + 2) (hVal tp tl (tkN tp tl q))) := by unfold hNo; rw [if_pos c, if_pos n]
theorem hNo_f (c : hW tp tl wNo q = true) (n : hNum tp tl 0 9 (tkN tp tl q) = false) : hNo tp tl p q m = (false, tkN tp tl q, m) := by unfold hNo; rw [if_pos c, if_neg (by rw [n]; decide)]
theorem hCo_n (c : ¬ hW tp tl wCd q = true) : hCo tp tl p q m = (q, m) := if_neg c
theorem hCo_t (c : hW tp tl wCd q = true) : hCo tp tl p q m = (tkN tp tl q, vUp m (4 + 10 * p + 3) 1) := if_pos c
theorem hDi_n (c : ¬ hW tp tl wDi q = true) : hDi tp tl p q m = (true, q, m) := if_neg c
theorem hDi_f (c : hW tp tl wDi q = true) (n : hNum tp tl 0 5 (tkN tp tl q) = false) : hDi tp tl p q m = (false, tkN tp tl q, m) := by unfold hDi; rw [if_pos c, if_neg (by rw [n]; decide)]
theorem hDi_g2 (c : hW tp tl wDi q = true) (n : hNum tp tl 0 5 (tkN tp tl q) = true) (n2 : hNum tp tl 0 99 (tkN tp tl (tkN tp tl q)) = false) : hDi tp tl p q m = (false, tkN tp tl (tkN tp tl q), m) := by unfold hDi; rw [if_pos c, if_pos n, if_neg (by rw [n2]; decide)]
theorem hDi_t (c : hW tp tl wDi q = true) (n : hNum tp tl 0 5 (tkN tp tl q) = true) (n2 : hNum tp tl 0 99 (tkN tp tl (tkN tp tl q)) = true) : hDi tp tl p q m = (true, tkN tp tl (tkN tp tl (tkN tp tl q)), vUp m (4 + 10 * p + (4 + hVal tp tl (tkN tp tl q))) (hVal tp tl (tkN tp tl (tkN tp tl q)))) := by unfold hDi; rw [if_pos c, if_pos n, if_pos n2]
theorem hP2_f {q1 : Nat} {m1 : Nat → Nat} (h : hNo tp tl p q m = (false, q1, m1)) : hP2 tp tl p q m = (false, q1, m1) := by unfold hP2; rw [h]; rfl
theorem hP2_t {q1 q2 : Nat} {m1 m2 : Nat → Nat} {r : Bool × Nat × (Nat → Nat)} (h : hNo tp tl p q m = (true, q1, m1)) (h2 : hCo tp tl p q1 m1 = (q2, m2)) (h3 : hDi tp tl p q2 m2 = r) : hP2 tp tl p q m = r := by
  unfold hP2
  rw [h]
  show (if true = true then hDi tp tl p (hCo tp tl p q1 m1).1 (hCo tp tl p q1 m1).2 else _) = r
  rw [h2, if_pos rfl]
  exact h3
theorem hPe_8 (h : ¬ m 0 < 8) : hPe tp tl kd q m = (false, q, m) := if_neg h
theorem hPe_a (h : m 0 < 8) (c : ¬ hW tp tl wAt (tkN tp tl q) = true) : hPe tp tl kd q m = (false, tkN tp tl q, m) := by unfold hPe; rw [if_pos h, if_neg c]
theorem hPe_p (h : m 0 < 8) (c : hW tp tl wAt (tkN tp tl q) = true) (n : hNum tp tl 0 47 (tkN tp tl (tkN tp tl q)) = false) : hPe tp tl kd q m = (false, tkN tp tl (tkN tp tl q), m) := by unfold hPe; rw [if_pos h, if_pos c, if_neg (by rw [n]; decide)]
theorem hPe_ok {r : Bool × Nat × (Nat → Nat)} (h : m 0 < 8) (c : hW tp tl wAt (tkN tp tl q) = true) (n : hNum tp tl 0 47 (tkN tp tl (tkN tp tl q)) = true) (h2 : hP2 tp tl (m 0) (tkN tp tl (tkN tp tl (tkN tp tl q))) (vJoin m kd (hVal tp tl (tkN tp tl (tkN tp tl q)))) = r) : hPe tp tl kd q m = r := by
  unfold hPe
  rw [if_pos h, if_pos c, if_pos n]
  exact h2
theorem p3_1 {r : Bool × Nat × (Nat → Nat)} {a : Bool} {b : Nat} {c : Nat → Nat} (h : r = (a, b, c)) : r.1 = a ∧ r.2.1 = b ∧ r.2.2 = c := by rw [h]; exact ⟨rfl, rfl, rfl⟩
theorem hIt_wf (h : hKd tp tl q = none) (c : hW tp tl wWi q = true) (n : hNum tp tl 0 4 (tkN tp tl q) = false) : hIt tp tl q m = (false, tkN tp tl q, m) := by unfold hIt; rw [h]; simp only []; rw [if_pos c, if_neg (by rw [n]; decide)]
theorem hIt_wt (h : hKd tp tl q = none) (c : hW tp tl wWi q = true) (n : hNum tp tl 0 4 (tkN tp tl q) = true) : hIt tp tl q m = (true, tkN tp tl (tkN tp tl q), vUp m 2 (hVal tp tl (tkN tp tl q))) := by unfold hIt; rw [h]; simp only []; rw [if_pos c, if_pos n]
theorem hIt_df (h : hKd tp tl q = none) (c : ¬ hW tp tl wWi q = true) (c2 : hW tp tl wDu q = true) (n : hNum tp tl 1 99 (tkN tp tl q) = false) : hIt tp tl q m = (false, tkN tp tl q, m) := by unfold hIt; rw [h]; simp only []; rw [if_neg c, if_pos c2, if_neg (by rw [n]; decide)]
theorem hIt_dt (h : hKd tp tl q = none) (c : ¬ hW tp tl wWi q = true) (c2 : hW tp tl wDu q = true) (n : hNum tp tl 1 99 (tkN tp tl q) = true) : hIt tp tl q m = (true, tkN tp tl (tkN tp tl q), vUp m 3 (hVal tp tl (tkN tp tl q))) := by unfold hIt; rw [h]; simp only []; rw [if_neg c, if_pos c2, if_pos n]
theorem hIt_no (h : hKd tp tl q = none) (c : ¬ hW tp tl wWi q = true) (c2 : ¬ hW tp tl wDu q = true) : hIt tp tl q m = (false, q, m) := by unfold hIt; rw [h]; simp only []; rw [if_neg c, if_neg c2]
end HL
set_option maxHeartbeats 4000000 in
set_option maxRecDepth 100000 in
theorem ct_X4_personItem (l : Launch) (g : KG) (b : Nat → Nat) (kf : Bool) (fj : Int32) (mj tl fr va : Nat) (m : Nat → Nat) (th ai ct ks ot : Nat → Int32) (tp sb sz : Nat → Nat) (nu : Nat → Nat → Int64) (mo : Nat → Int64) (kd : Nat)  (ht : tl ≤ 120) (htp : ∀ i, tp i < 256) (hq : fr ≤ tl) (hm0 : m 0 ≤ 8) : CT l yX4_personItem cX4_personItem 4 none (rmK 5) g [.ref (b 0), .int (nI kd)] (modW g b (mE kf fj mj tl fr (tkE tp tl fr) va false) m th ai ct ks ot tp sb sz nu mo) (S := (Nat → Nat) × Nat) oV (fun _ u => (hPe tp tl kd fr m).1 = true → u.1 = (hPe tp tl kd fr m).2.2) (fun u => modW g b (mE kf fj mj tl ((hPe tp tl kd fr m).2.1) (tkE tp tl (hPe tp tl kd fr m).2.1) u.2 (!(hPe tp tl kd fr m).1)) u.1 th ai ct ks ot tp sb sz nu mo) := by
  refine k_bodyV (by decide) (Nat.le_of_ble_eq_true rfl) (fun J hJ hR => ?_)
  show J (modW g b (mE kf fj mj tl fr (tkE tp tl fr) va false) m th ai ct ks ot tp sb sz nu mo) [(0, .ref (b 0)), (1, .int (nI kd))] 0 []
  refine k_aload_n hJ dX4_personItem_0 0 rfl ?_
  refine k_aload_n hJ dX4_personItem_1 0 rfl ?_
  refine gf_X4_7 (v := .ref (b 1)) hJ 0 rfl rfl dX4_personItem_2 ?_
  refine k_iconst (v := nI 0) hJ dX4_personItem_5 (by decide) ?_
  refine k_iald hJ 1 rfl 0 (by omega) (by decide) rfl dX4_personItem_6 ?_
  refine k_bipush (v := nI 8) hJ dX4_personItem_7 (by decide) ?_
  refine n_icmp_ge (tgt := 16) hJ dX4_personItem_9 (by decide) (by omega) (by omega) (fun c9 => ?_) (fun c9 => ?_)
  · refine k_iconst (v := nI 0) hJ dX4_personItem_16 (by decide) ?_
    refine c_VV (As := [.int (nI 0)]) (st := []) hJ (ct_X4_must_f l g b kf fj mj tl fr va false m th ai ct ks ot tp sb sz nu mo) (Fr.all mw_map) mv_X4_must ml_X4_230 0 rfl rfl rfl (kRm_ok (by decide) (by decide)) rfl rfl (Nat.le_of_ble_eq_true rfl) dX4_personItem_17 ?_
    refine k_aload_n hJ dX4_personItem_20 0 rfl ?_
    refine k_aload_n hJ dX4_personItem_21 0 rfl ?_
    refine c_VL (As := []) (st := [.ref (b 0)]) hJ (ct_X4_word l g b kf fj mj tl fr va true m th ai ct ks ot tp sb sz nu mo ht htp hq) (Fr.all mw_map) mv_X4_word ml_X4_234 0 rfl rfl rfl (kRm_ok (by decide) (by decide)) rfl rfl (Nat.le_of_ble_eq_true rfl) dX4_personItem_22 ?_
    show J (modW g b (mE kf fj mj tl fr (tkE tp tl fr) va true) m th ai ct ks ot tp sb sz nu mo) [(0, .ref (b 0)), (1, .int (nI kd))] 25 [.long 0, .ref (b 0)]
    refine k_ldc2 hJ dX4_personItem_25 cw_X4_250 ?_
    refine k_lcmp hJ dX4_personItem_28 ?_
    refine k_if_ne (tgt := 36) hJ dX4_personItem_29 (by decide) (fun c29 => ?_) (fun c29 => ?_)
    · refine k_iconst (v := nI 0) hJ dX4_personItem_36 (by decide) ?_
      refine c_VV (As := [.int (nI 0)]) (st := []) hJ (ct_X4_must_w l g b kf fj mj tl fr va true m th ai ct ks ot tp sb sz nu mo 0 (by decide)) (Fr.all mw_map) mv_X4_must ml_X4_230 0 rfl rfl rfl (kRm_ok (by decide) (by decide)) rfl rfl (Nat.le_of_ble_eq_true rfl) dX4_personItem_37 ?_
      refine k_aload_n hJ dX4_personItem_40 0 rfl ?_
      refine k_iconst (v := nI 0) hJ dX4_personItem_41 (by decide) ?_
      refine k_bipush (v := nI 47) hJ dX4_personItem_42 (by decide) ?_
      refine c_VV (As := [.int (nI 0), .int (nI 47)]) (st := []) hJ (ct_X4_number_w l g b kf fj mj tl fr va true m th ai ct ks ot tp sb sz nu mo 0 47) (Fr.all mw_map) mv_X4_number ml_X4_252 0 rfl rfl rfl (kRm_ok (by decide) (by decide)) rfl rfl (Nat.le_of_ble_eq_true rfl) dX4_personItem_44 ?_
      refine k_aload_n hJ dX4_personItem_47 0 rfl ?_
      refine gf_X4_216 (v := .int (kb true)) hJ 0 rfl rfl dX4_personItem_48 ?_
      refine b_if_eq (tgt := 55) hJ dX4_personItem_51 (by decide) (fun c51 => ?_) (fun c51 => ?_)
      · exact absurd c51 (by decide)
      · have e := p3_1 (hPe_8 (kd := kd) (q := fr) (tp := tp) (tl := tl) (show ¬ m 0 < 8 by omega))
        exact k_eqw (ws2 := modW g b (mE kf fj mj tl ((hPe tp tl kd fr m).2.1) (tkE tp tl (hPe tp tl kd fr m).2.1) va (!(hPe tp tl kd fr m).1)) m th ai ct ks ot tp sb sz nu mo) (by rw [e.1, e.2.1]; first | done | rfl) (hR _ _ () (m, va) dX4_personItem_54 (fun h => absurd (h.symm.trans e.1) (by decide)))
    · exact absurd c29 (by decide)
  · refine k_iconst (v := nI 1) hJ dX4_personItem_12 (by decide) ?_
    refine k_goto (tgt := 17) hJ dX4_personItem_13 (by decide) ?_
    refine c_VV (As := [.int (nI 1)]) (st := []) hJ (ct_X4_must_t l g b kf fj mj tl fr va false m th ai ct ks ot tp sb sz nu mo ht htp hq) (Fr.all mw_map) mv_X4_must ml_X4_230 0 rfl rfl rfl (kRm_ok (by decide) (by decide)) rfl rfl (Nat.le_of_ble_eq_true rfl) dX4_personItem_17 ?_
    refine k_aload_n hJ dX4_personItem_20 0 rfl ?_
    refine k_aload_n hJ dX4_personItem_21 0 rfl ?_
    refine c_VL (As := []) (st := [.ref (b 0)]) hJ (ct_X4_word l g b kf fj mj tl (tkN tp tl fr) va false m th ai ct ks ot tp sb sz nu mo ht htp (tkN_le hq)) (Fr.all mw_map) mv_X4_word ml_X4_234 0 rfl rfl rfl (kRm_ok (by decide) (by decide)) rfl rfl (Nat.le_of_ble_eq_true rfl) dX4_personItem_22 ?_
    show J (modW g b (mE kf fj mj tl (tkN tp tl fr) (tkE tp tl (tkN tp tl fr)) va false) m th ai ct ks ot tp sb sz nu mo) [(0, .ref (b 0)), (1, .int (nI kd))] 25 [.long (kWo tp tl (tkN tp tl fr)), .ref (b 0)]
    refine k_ldc2 hJ dX4_personItem_25 cw_X4_250 ?_
    refine k_lcmp hJ dX4_personItem_28 ?_
    refine k_if_ne (tgt := 36) hJ dX4_personItem_29 (by decide) (fun c29 => ?_) (fun c29 => ?_)
    · have c29 : ¬ hW tp tl wAt (tkN tp tl fr) = true := fun q => c29 (lg_eq.mpr ((kWo_wAt htp).mpr q))
      refine k_iconst (v := nI 0) hJ dX4_personItem_36 (by decide) ?_
      refine c_VV (As := [.int (nI 0)]) (st := []) hJ (ct_X4_must_f l g b kf fj mj tl (tkN tp tl fr) va false m th ai ct ks ot tp sb sz nu mo) (Fr.all mw_map) mv_X4_must ml_X4_230 0 rfl rfl rfl (kRm_ok (by decide) (by decide)) rfl rfl (Nat.le_of_ble_eq_true rfl) dX4_personItem_37 ?_
      refine k_aload_n hJ dX4_personItem_40 0 rfl ?_
      refine k_iconst (v := nI 0) hJ dX4_personItem_41 (by decide) ?_
      refine k_bipush (v := nI 47) hJ dX4_personItem_42 (by decide) ?_
      refine c_VV (As := [.int (nI 0), .int (nI 47)]) (st := []) hJ (ct_X4_number_w l g b kf fj mj tl (tkN tp tl fr) va true m th ai ct ks ot tp sb sz nu mo 0 47) (Fr.all mw_map) mv_X4_number ml_X4_252 0 rfl rfl rfl (kRm_ok (by decide) (by decide)) rfl rfl (Nat.le_of_ble_eq_true rfl) dX4_personItem_44 ?_
      refine k_aload_n hJ dX4_personItem_47 0 rfl ?_
      refine gf_X4_216 (v := .int (kb true)) hJ 0 rfl rfl dX4_personItem_48 ?_
      refine b_if_eq (tgt := 55) hJ dX4_personItem_51 (by decide) (fun c51 => ?_) (fun c51 => ?_)
      · exact absurd c51 (by decide)
      · have e := p3_1 (hPe_a (kd := kd) (show m 0 < 8 by omega) c29)
        exact k_eqw (ws2 := modW g b (mE kf fj mj tl ((hPe tp tl kd fr m).2.1) (tkE tp tl (hPe tp tl kd fr m).2.1) va (!(hPe tp tl kd fr m).1)) m th ai ct ks ot tp sb sz nu mo) (by rw [e.1, e.2.1]; first | done | rfl) (hR _ _ () (m, va) dX4_personItem_54 (fun h => absurd (h.symm.trans e.1) (by decide)))
    · have c29 : hW tp tl wAt (tkN tp tl fr) = true := (kWo_wAt htp).mp (lg_eq.mp c29)
      refine k_iconst (v := nI 1) hJ dX4_personItem_32 (by decide) ?_
      refine k_goto (tgt := 37) hJ dX4_personItem_33 (by decide) ?_
      refine c_VV (As := [.int (nI 1)]) (st := []) hJ (ct_X4_must_t l g b kf fj mj tl (tkN tp tl fr) va false m th ai ct ks ot tp sb sz nu mo ht htp (tkN_le hq)) (Fr.all mw_map) mv_X4_must ml_X4_230 0 rfl rfl rfl (kRm_ok (by decide) (by decide)) rfl rfl (Nat.le_of_ble_eq_true rfl) dX4_personItem_37 ?_
      refine k_aload_n hJ dX4_personItem_40 0 rfl ?_
      refine k_iconst (v := nI 0) hJ dX4_personItem_41 (by decide) ?_
      refine k_bipush (v := nI 47) hJ dX4_personItem_42 (by decide) ?_
      rcases Bool.eq_false_or_eq_true (hNum tp tl 0 47 (tkN tp tl (tkN tp tl fr))) with cN44 | cN44
      · have hv44 := hNum_v cN44
        refine c_VV (As := [.int (nI 0), .int (nI 47)]) (st := []) hJ (ct_X4_number_t l g b kf fj mj tl (tkN tp tl (tkN tp tl fr)) va false m th ai ct ks ot tp sb sz nu mo 0 47 ht htp (tkN_le (tkN_le hq)) (by decide) (by decide) cN44) (Fr.all mw_map) mv_X4_number ml_X4_252 0 rfl rfl rfl (kRm_ok (by decide) (by decide)) rfl rfl (Nat.le_of_ble_eq_true rfl) dX4_personItem_44 ?_
        refine k_aload_n hJ dX4_personItem_47 0 rfl ?_
        refine gf_X4_216 (v := .int (kb false)) hJ 0 rfl rfl dX4_personItem_48 ?_
        refine b_if_eq (tgt := 55) hJ dX4_personItem_51 (by decide) (fun c51 => ?_) (fun c51 => ?_)
        · refine k_aload_n hJ dX4_personItem_55 0 rfl ?_
          refine k_iload_n hJ dX4_personItem_56 1 rfl ?_
          refine k_aload_n hJ dX4_personItem_57 0 rfl ?_
          refine gf_X4_227 (v := .int (nI (hVal tp tl (tkN tp tl (tkN tp tl fr))))) hJ 0 rfl rfl dX4_personItem_58 ?_
          refine c_VI (As := [.int (nI kd), .int (nI (hVal tp tl (tkN tp tl (tkN tp tl fr))))]) (st := []) hJ (ct_X4_adds l g b (mE kf fj mj tl (tkN tp tl (tkN tp tl (tkN tp tl fr))) (tkE tp tl (tkN tp tl (tkN tp tl (tkN tp tl fr)))) (hVal tp tl (tkN tp tl (tkN tp tl fr))) false) m kd (hVal tp tl (tkN tp tl (tkN tp tl fr))) (by omega)) (frS ms_map) mv_X4_adds ml_X4_79 0 rfl rfl rfl (kRm_ok (by decide) (by decide)) rfl rfl (Nat.le_of_ble_eq_true rfl) dX4_personItem_61 ?_
          refine k_istore_n (lv1 := [(0, .ref (b 0)), (1, .int (nI kd)), (2, .int (nI (m 0)))]) hJ dX4_personItem_64 (by decide) [1, 2, 0] rfl ?_
          refine k_aload_n hJ dX4_personItem_65 0 rfl ?_
          refine c_VL (As := []) (st := []) hJ (ct_X4_word l g b kf fj mj tl (tkN tp tl (tkN tp tl (tkN tp tl fr))) (hVal tp tl (tkN tp tl (tkN tp tl fr))) false (vJoin m kd (hVal tp tl (tkN tp tl (tkN tp tl fr)))) th ai ct ks ot tp sb sz nu mo ht htp (tkN_le (tkN_le (tkN_le hq)))) (Fr.all mw_map) mv_X4_word ml_X4_234 0 rfl rfl rfl (kRm_ok (by decide) (by decide)) rfl rfl (Nat.le_of_ble_eq_true rfl) dX4_personItem_66 ?_
          show J (modW g b (mE kf fj mj tl (tkN tp tl (tkN tp tl (tkN tp tl fr))) (tkE tp tl (tkN tp tl (tkN tp tl (tkN tp tl fr)))) (hVal tp tl (tkN tp tl (tkN tp tl fr))) false) (vJoin m kd (hVal tp tl (tkN tp tl (tkN tp tl fr)))) th ai ct ks ot tp sb sz nu mo) [(0, .ref (b 0)), (1, .int (nI kd)), (2, .int (nI (m 0)))] 69 [.long (kWo tp tl (tkN tp tl (tkN tp tl (tkN tp tl fr))))]
          refine k_ldc2 hJ dX4_personItem_69 cw_X4_255 ?_
          refine k_lcmp hJ dX4_personItem_72 ?_
          refine k_if_ne (tgt := 102) hJ dX4_personItem_73 (by decide) (fun c73 => ?_) (fun c73 => ?_)
          · have c73 : ¬ hW tp tl wNo (tkN tp tl (tkN tp tl (tkN tp tl fr))) = true := fun q => c73 (lg_eq.mpr ((kWo_wNo htp).mpr q))
            refine k_aload_n hJ dX4_personItem_102 0 rfl ?_
            refine c_VL (As := []) (st := []) hJ (ct_X4_word l g b kf fj mj tl (tkN tp tl (tkN tp tl (tkN tp tl fr))) (hVal tp tl (tkN tp tl (tkN tp tl fr))) false (vJoin m kd (hVal tp tl (tkN tp tl (tkN tp tl fr)))) th ai ct ks ot tp sb sz nu mo ht htp (tkN_le (tkN_le (tkN_le hq)))) (Fr.all mw_map) mv_X4_word ml_X4_234 0 rfl rfl rfl (kRm_ok (by decide) (by decide)) rfl rfl (Nat.le_of_ble_eq_true rfl) dX4_personItem_103 ?_
            show J (modW g b (mE kf fj mj tl (tkN tp tl (tkN tp tl (tkN tp tl fr))) (tkE tp tl (tkN tp tl (tkN tp tl (tkN tp tl fr)))) (hVal tp tl (tkN tp tl (tkN tp tl fr))) false) (vJoin m kd (hVal tp tl (tkN tp tl (tkN tp tl fr)))) th ai ct ks ot tp sb sz nu mo) [(0, .ref (b 0)), (1, .int (nI kd)), (2, .int (nI (m 0)))] 106 [.long (kWo tp tl (tkN tp tl (tkN tp tl (tkN tp tl fr))))]
            refine k_ldc2 hJ dX4_personItem_106 cw_X4_257 ?_
            refine k_lcmp hJ dX4_personItem_109 ?_
            refine k_if_ne (tgt := 129) hJ dX4_personItem_110 (by decide) (fun c110 => ?_) (fun c110 => ?_)
            · have c110 : ¬ hW tp tl wCd (tkN tp tl (tkN tp tl (tkN tp tl fr))) = true := fun q => c110 (lg_eq.mpr ((kWo_wCd htp).mpr q))
              refine k_aload_n hJ dX4_personItem_129 0 rfl ?_
              refine c_VL (As := []) (st := []) hJ (ct_X4_word l g b kf fj mj tl (tkN tp tl (tkN tp tl (tkN tp tl fr))) (hVal tp tl (tkN tp tl (tkN tp tl fr))) false (vJoin m kd (hVal tp tl (tkN tp tl (tkN tp tl fr)))) th ai ct ks ot tp sb sz nu mo ht htp (tkN_le (tkN_le (tkN_le hq)))) (Fr.all mw_map) mv_X4_word ml_X4_234 0 rfl rfl rfl (kRm_ok (by decide) (by decide)) rfl rfl (Nat.le_of_ble_eq_true rfl) dX4_personItem_130 ?_
              show J (modW g b (mE kf fj mj tl (tkN tp tl (tkN tp tl (tkN tp tl fr))) (tkE tp tl (tkN tp tl (tkN tp tl (tkN tp tl fr)))) (hVal tp tl (tkN tp tl (tkN tp tl fr))) false) (vJoin m kd (hVal tp tl (tkN tp tl (tkN tp tl fr)))) th ai ct ks ot tp sb sz nu mo) [(0, .ref (b 0)), (1, .int (nI kd)), (2, .int (nI (m 0)))] 133 [.long (kWo tp tl (tkN tp tl (tkN tp tl (tkN tp tl fr))))]
              refine k_ldc2 hJ dX4_personItem_133 cw_X4_259 ?_
              refine k_lcmp hJ dX4_personItem_136 ?_
              refine k_if_ne (tgt := 190) hJ dX4_personItem_137 (by decide) (fun c137 => ?_) (fun c137 => ?_)
              · have c137 : ¬ hW tp tl wDi (tkN tp tl (tkN tp tl (tkN tp tl fr))) = true := fun q => c137 (lg_eq.mpr ((kWo_wDi htp).mpr q))
                have e := p3_1 (hPe_ok (kd := kd) (show m 0 < 8 by omega) c29 cN44 (hP2_t (hNo_n c73) (hCo_n c110) (hDi_n c137)))
                exact k_eqw (ws2 := modW g b (mE kf fj mj tl ((hPe tp tl kd fr m).2.1) (tkE tp tl (hPe tp tl kd fr m).2.1) (hVal tp tl (tkN tp tl (tkN tp tl fr))) (!(hPe tp tl kd fr m).1)) (vJoin m kd (hVal tp tl (tkN tp tl (tkN tp tl fr)))) th ai ct ks ot tp sb sz nu mo) (by rw [e.1, e.2.1]; first | done | rfl) (hR _ _ () (vJoin m kd (hVal tp tl (tkN tp tl (tkN tp tl fr))), hVal tp tl (tkN tp tl (tkN tp tl fr))) dX4_personItem_190 (fun _ => e.2.2.symm))
              · have c137 : hW tp tl wDi (tkN tp tl (tkN tp tl (tkN tp tl fr))) = true := (kWo_wDi htp).mp (lg_eq.mp c137)
                refine k_aload_n hJ dX4_personItem_140 0 rfl ?_
                refine k_iconst (v := nI 1) hJ dX4_personItem_141 (by decide) ?_
                refine c_VV (As := [.int (nI 1)]) (st := []) hJ (ct_X4_must_t l g b kf fj mj tl (tkN tp tl (tkN tp tl (tkN tp tl fr))) (hVal tp tl (tkN tp tl (tkN tp tl fr))) false (vJoin m kd (hVal tp tl (tkN tp tl (tkN tp tl fr)))) th ai ct ks ot tp sb sz nu mo ht htp (tkN_le (tkN_le (tkN_le hq)))) (Fr.all mw_map) mv_X4_must ml_X4_230 0 rfl rfl rfl (kRm_ok (by decide) (by decide)) rfl rfl (Nat.le_of_ble_eq_true rfl) dX4_personItem_142 ?_
                refine k_aload_n hJ dX4_personItem_145 0 rfl ?_
                refine k_iconst (v := nI 0) hJ dX4_personItem_146 (by decide) ?_
                refine k_iconst (v := nI 5) hJ dX4_personItem_147 (by decide) ?_
                rcases Bool.eq_false_or_eq_true (hNum tp tl 0 5 (tkN tp tl (tkN tp tl (tkN tp tl (tkN tp tl fr))))) with cN148 | cN148
                · have hv148 := hNum_v cN148
                  refine c_VV (As := [.int (nI 0), .int (nI 5)]) (st := []) hJ (ct_X4_number_t l g b kf fj mj tl (tkN tp tl (tkN tp tl (tkN tp tl (tkN tp tl fr)))) (hVal tp tl (tkN tp tl (tkN tp tl fr))) false (vJoin m kd (hVal tp tl (tkN tp tl (tkN tp tl fr)))) th ai ct ks ot tp sb sz nu mo 0 5 ht htp (tkN_le (tkN_le (tkN_le (tkN_le hq)))) (by decide) (by decide) cN148) (Fr.all mw_map) mv_X4_number ml_X4_252 0 rfl rfl rfl (kRm_ok (by decide) (by decide)) rfl rfl (Nat.le_of_ble_eq_true rfl) dX4_personItem_148 ?_
                  refine k_aload_n hJ dX4_personItem_151 0 rfl ?_
                  refine gf_X4_216 (v := .int (kb false)) hJ 0 rfl rfl dX4_personItem_152 ?_
                  refine b_if_eq (tgt := 162) hJ dX4_personItem_155 (by decide) (fun c155 => ?_) (fun c155 => ?_)
                  · refine k_aload_n hJ dX4_personItem_162 0 rfl ?_
                    refine gf_X4_227 (v := .int (nI (hVal tp tl (tkN tp tl (tkN tp tl (tkN tp tl (tkN tp tl fr))))))) hJ 0 rfl rfl dX4_personItem_163 ?_
                    refine k_istore_n (lv1 := [(0, .ref (b 0)), (1, .int (nI kd)), (2, .int (nI (m 0))), (3, .int (nI (hVal tp tl (tkN tp tl (tkN tp tl (tkN tp tl (tkN tp tl fr)))))))]) hJ dX4_personItem_166 (by decide) [1, 2, 3, 0] rfl ?_
                    refine k_aload_n hJ dX4_personItem_167 0 rfl ?_
                    refine k_iconst (v := nI 0) hJ dX4_personItem_168 (by decide) ?_
                    refine k_bipush (v := nI 99) hJ dX4_personItem_169 (by decide) ?_
                    rcases Bool.eq_false_or_eq_true (hNum tp tl 0 99 (tkN tp tl (tkN tp tl (tkN tp tl (tkN tp tl (tkN tp tl fr)))))) with cN171 | cN171
                    · have hv171 := hNum_v cN171
                      refine c_VV (As := [.int (nI 0), .int (nI 99)]) (st := []) hJ (ct_X4_number_t l g b kf fj mj tl (tkN tp tl (tkN tp tl (tkN tp tl (tkN tp tl (tkN tp tl fr))))) (hVal tp tl (tkN tp tl (tkN tp tl (tkN tp tl (tkN tp tl fr))))) false (vJoin m kd (hVal tp tl (tkN tp tl (tkN tp tl fr)))) th ai ct ks ot tp sb sz nu mo 0 99 ht htp (tkN_le (tkN_le (tkN_le (tkN_le (tkN_le hq))))) (by decide) (by decide) cN171) (Fr.all mw_map) mv_X4_number ml_X4_252 0 rfl rfl rfl (kRm_ok (by decide) (by decide)) rfl rfl (Nat.le_of_ble_eq_true rfl) dX4_personItem_171 ?_
                      refine k_aload_n hJ dX4_personItem_174 0 rfl ?_
                      refine gf_X4_7 (v := .ref (b 1)) hJ 0 rfl rfl dX4_personItem_175 ?_
                      refine k_iload_n hJ dX4_personItem_178 2 rfl ?_
                      refine k_iconst (v := nI 4) hJ dX4_personItem_179 (by decide) ?_
                      refine k_iload_n hJ dX4_personItem_180 3 rfl ?_
                      refine n_iadd hJ dX4_personItem_181 ?_
                      refine c_SI (As := [.int (nI (m 0)), .int (nI (4 + (hVal tp tl (tkN tp tl (tkN tp tl (tkN tp tl (tkN tp tl fr)))))))]) (st := [.ref (b 1)]) hJ (ct_X4_spot l g (m 0) (4 + (hVal tp tl (tkN tp tl (tkN tp tl (tkN tp tl (tkN tp tl fr)))))) ) Fr.none ms_X4_spot ml_X4_57 (kRm_ok (by decide) (by decide)) rfl rfl (Nat.le_of_ble_eq_true rfl) dX4_personItem_182 ?_
                      refine k_aload_n hJ dX4_personItem_185 0 rfl ?_
                      refine gf_X4_227 (v := .int (nI (hVal tp tl (tkN tp tl (tkN tp tl (tkN tp tl (tkN tp tl (tkN tp tl fr)))))))) hJ 0 rfl rfl dX4_personItem_186 ?_
                      refine k_iast (ws2 := modW g b (mE kf fj mj tl (tkN tp tl (tkN tp tl (tkN tp tl (tkN tp tl (tkN tp tl (tkN tp tl fr)))))) (tkE tp tl (tkN tp tl (tkN tp tl (tkN tp tl (tkN tp tl (tkN tp tl (tkN tp tl fr))))))) (hVal tp tl (tkN tp tl (tkN tp tl (tkN tp tl (tkN tp tl (tkN tp tl fr)))))) false) (vUp (vJoin m kd (hVal tp tl (tkN tp tl (tkN tp tl fr)))) (4 + 10 * (m 0) + (4 + (hVal tp tl (tkN tp tl (tkN tp tl (tkN tp tl (tkN tp tl fr))))))) (hVal tp tl (tkN tp tl (tkN tp tl (tkN tp tl (tkN tp tl (tkN tp tl fr))))))) th ai ct ks ot tp sb sz nu mo) hJ 1 rfl (4 + 10 * (m 0) + (4 + (hVal tp tl (tkN tp tl (tkN tp tl (tkN tp tl (tkN tp tl fr))))))) (by omega) (by decide) (mw_s (v := (hVal tp tl (tkN tp tl (tkN tp tl (tkN tp tl (tkN tp tl (tkN tp tl fr)))))))) dX4_personItem_189 ?_
                      have e := p3_1 (hPe_ok (kd := kd) (show m 0 < 8 by omega) c29 cN44 (hP2_t (hNo_n c73) (hCo_n c110) (hDi_t c137 cN148 cN171)))
                      exact k_eqw (ws2 := modW g b (mE kf fj mj tl ((hPe tp tl kd fr m).2.1) (tkE tp tl (hPe tp tl kd fr m).2.1) (hVal tp tl (tkN tp tl (tkN tp tl (tkN tp tl (tkN tp tl (tkN tp tl fr)))))) (!(hPe tp tl kd fr m).1)) (vUp (vJoin m kd (hVal tp tl (tkN tp tl (tkN tp tl fr)))) (4 + 10 * (m 0) + (4 + (hVal tp tl (tkN tp tl (tkN tp tl (tkN tp tl (tkN tp tl fr))))))) (hVal tp tl (tkN tp tl (tkN tp tl (tkN tp tl (tkN tp tl (tkN tp tl fr))))))) th ai ct ks ot tp sb sz nu mo) (by rw [e.1, e.2.1]; first | done | rfl) (hR _ _ () (vUp (vJoin m kd (hVal tp tl (tkN tp tl (tkN tp tl fr)))) (4 + 10 * (m 0) + (4 + (hVal tp tl (tkN tp tl (tkN tp tl (tkN tp tl (tkN tp tl fr))))))) (hVal tp tl (tkN tp tl (tkN tp tl (tkN tp tl (tkN tp tl (tkN tp tl fr)))))), hVal tp tl (tkN tp tl (tkN tp tl (tkN tp tl (tkN tp tl (tkN tp tl fr)))))) dX4_personItem_190 (fun _ => e.2.2.symm))
                    · skip
                      refine c_VV (As := [.int (nI 0), .int (nI 99)]) (st := []) hJ (ct_X4_number_f l g b kf fj mj tl (tkN tp tl (tkN tp tl (tkN tp tl (tkN tp tl (tkN tp tl fr))))) (hVal tp tl (tkN tp tl (tkN tp tl (tkN tp tl (tkN tp tl fr))))) false (vJoin m kd (hVal tp tl (tkN tp tl (tkN tp tl fr)))) th ai ct ks ot tp sb sz nu mo 0 99 ht htp (tkN_le (tkN_le (tkN_le (tkN_le (tkN_le hq))))) (by decide) (by decide) cN171) (Fr.all mw_map) mv_X4_number ml_X4_252 0 rfl rfl rfl (kRm_ok (by decide) (by decide)) rfl rfl (Nat.le_of_ble_eq_true rfl) dX4_personItem_171 ?_
                      refine k_aload_n hJ dX4_personItem_174 0 rfl ?_
                      refine gf_X4_7 (v := .ref (b 1)) hJ 0 rfl rfl dX4_personItem_175 ?_
                      refine k_iload_n hJ dX4_personItem_178 2 rfl ?_
                      refine k_iconst (v := nI 4) hJ dX4_personItem_179 (by decide) ?_
                      refine k_iload_n hJ dX4_personItem_180 3 rfl ?_
                      refine n_iadd hJ dX4_personItem_181 ?_
                      refine c_SI (As := [.int (nI (m 0)), .int (nI (4 + (hVal tp tl (tkN tp tl (tkN tp tl (tkN tp tl (tkN tp tl fr)))))))]) (st := [.ref (b 1)]) hJ (ct_X4_spot l g (m 0) (4 + (hVal tp tl (tkN tp tl (tkN tp tl (tkN tp tl (tkN tp tl fr)))))) ) Fr.none ms_X4_spot ml_X4_57 (kRm_ok (by decide) (by decide)) rfl rfl (Nat.le_of_ble_eq_true rfl) dX4_personItem_182 ?_
                      refine k_aload_n hJ dX4_personItem_185 0 rfl ?_
                      refine gf_X4_227 (v := .int (nI (if bD tp tl (tkN tp tl (tkN tp tl (tkN tp tl (tkN tp tl (tkN tp tl fr))))) then hVal tp tl (tkN tp tl (tkN tp tl (tkN tp tl (tkN tp tl (tkN tp tl fr))))) else 0))) hJ 0 rfl rfl dX4_personItem_186 ?_
                      refine k_iast (ws2 := modW g b (mE kf fj mj tl (tkN tp tl (tkN tp tl (tkN tp tl (tkN tp tl (tkN tp tl fr))))) (tkE tp tl (tkN tp tl (tkN tp tl (tkN tp tl (tkN tp tl (tkN tp tl fr)))))) (if bD tp tl (tkN tp tl (tkN tp tl (tkN tp tl (tkN tp tl (tkN tp tl fr))))) then hVal tp tl (tkN tp tl (tkN tp tl (tkN tp tl (tkN tp tl (tkN tp tl fr))))) else 0) true) (vUp (vJoin m kd (hVal tp tl (tkN tp tl (tkN tp tl fr)))) (4 + 10 * (m 0) + (4 + (hVal tp tl (tkN tp tl (tkN tp tl (tkN tp tl (tkN tp tl fr))))))) (if bD tp tl (tkN tp tl (tkN tp tl (tkN tp tl (tkN tp tl (tkN tp tl fr))))) then hVal tp tl (tkN tp tl (tkN tp tl (tkN tp tl (tkN tp tl (tkN tp tl fr))))) else 0)) th ai ct ks ot tp sb sz nu mo) hJ 1 rfl (4 + 10 * (m 0) + (4 + (hVal tp tl (tkN tp tl (tkN tp tl (tkN tp tl (tkN tp tl fr))))))) (by omega) (by decide) (mw_s (v := (if bD tp tl (tkN tp tl (tkN tp tl (tkN tp tl (tkN tp tl (tkN tp tl fr))))) then hVal tp tl (tkN tp tl (tkN tp tl (tkN tp tl (tkN tp tl (tkN tp tl fr))))) else 0))) dX4_personItem_189 ?_
                      have e := p3_1 (hPe_ok (kd := kd) (show m 0 < 8 by omega) c29 cN44 (hP2_t (hNo_n c73) (hCo_n c110) (hDi_g2 c137 cN148 cN171)))
                      exact k_eqw (ws2 := modW g b (mE kf fj mj tl ((hPe tp tl kd fr m).2.1) (tkE tp tl (hPe tp tl kd fr m).2.1) (if bD tp tl (tkN tp tl (tkN tp tl (tkN tp tl (tkN tp tl (tkN tp tl fr))))) then hVal tp tl (tkN tp tl (tkN tp tl (tkN tp tl (tkN tp tl (tkN tp tl fr))))) else 0) (!(hPe tp tl kd fr m).1)) (vUp (vJoin m kd (hVal tp tl (tkN tp tl (tkN tp tl fr)))) (4 + 10 * (m 0) + (4 + (hVal tp tl (tkN tp tl (tkN tp tl (tkN tp tl (tkN tp tl fr))))))) (if bD tp tl (tkN tp tl (tkN tp tl (tkN tp tl (tkN tp tl (tkN tp tl fr))))) then hVal tp tl (tkN tp tl (tkN tp tl (tkN tp tl (tkN tp tl (tkN tp tl fr))))) else 0)) th ai ct ks ot tp sb sz nu mo) (by rw [e.1, e.2.1]; first | done | rfl) (hR _ _ () (vUp (vJoin m kd (hVal tp tl (tkN tp tl (tkN tp tl fr)))) (4 + 10 * (m 0) + (4 + (hVal tp tl (tkN tp tl (tkN tp tl (tkN tp tl (tkN tp tl fr))))))) (if bD tp tl (tkN tp tl (tkN tp tl (tkN tp tl (tkN tp tl (tkN tp tl fr))))) then hVal tp tl (tkN tp tl (tkN tp tl (tkN tp tl (tkN tp tl (tkN tp tl fr))))) else 0), if bD tp tl (tkN tp tl (tkN tp tl (tkN tp tl (tkN tp tl (tkN tp tl fr))))) then hVal tp tl (tkN tp tl (tkN tp tl (tkN tp tl (tkN tp tl (tkN tp tl fr))))) else 0) dX4_personItem_190 (fun h => absurd (h.symm.trans e.1) (by decide)))
                  · exact absurd c155 (by decide)
                · skip
                  refine c_VV (As := [.int (nI 0), .int (nI 5)]) (st := []) hJ (ct_X4_number_f l g b kf fj mj tl (tkN tp tl (tkN tp tl (tkN tp tl (tkN tp tl fr)))) (hVal tp tl (tkN tp tl (tkN tp tl fr))) false (vJoin m kd (hVal tp tl (tkN tp tl (tkN tp tl fr)))) th ai ct ks ot tp sb sz nu mo 0 5 ht htp (tkN_le (tkN_le (tkN_le (tkN_le hq)))) (by decide) (by decide) cN148) (Fr.all mw_map) mv_X4_number ml_X4_252 0 rfl rfl rfl (kRm_ok (by decide) (by decide)) rfl rfl (Nat.le_of_ble_eq_true rfl) dX4_personItem_148 ?_
                  refine k_aload_n hJ dX4_personItem_151 0 rfl ?_
                  refine gf_X4_216 (v := .int (kb true)) hJ 0 rfl rfl dX4_personItem_152 ?_
                  refine b_if_eq (tgt := 162) hJ dX4_personItem_155 (by decide) (fun c155 => ?_) (fun c155 => ?_)
                  · exact absurd c155 (by decide)
                  · refine k_iconst (v := nI 0) hJ dX4_personItem_158 (by decide) ?_
                    refine k_goto (tgt := 166) hJ dX4_personItem_159 (by decide) ?_
                    refine k_istore_n (lv1 := [(0, .ref (b 0)), (1, .int (nI kd)), (2, .int (nI (m 0))), (3, .int (nI 0))]) hJ dX4_personItem_166 (by decide) [1, 2, 3, 0] rfl ?_
                    refine k_aload_n hJ dX4_personItem_167 0 rfl ?_
                    refine k_iconst (v := nI 0) hJ dX4_personItem_168 (by decide) ?_
                    refine k_bipush (v := nI 99) hJ dX4_personItem_169 (by decide) ?_
                    refine c_VV (As := [.int (nI 0), .int (nI 99)]) (st := []) hJ (ct_X4_number_w l g b kf fj mj tl (tkN tp tl (tkN tp tl (tkN tp tl (tkN tp tl fr)))) (if bD tp tl (tkN tp tl (tkN tp tl (tkN tp tl (tkN tp tl fr)))) then hVal tp tl (tkN tp tl (tkN tp tl (tkN tp tl (tkN tp tl fr)))) else 0) true (vJoin m kd (hVal tp tl (tkN tp tl (tkN tp tl fr)))) th ai ct ks ot tp sb sz nu mo 0 99) (Fr.all mw_map) mv_X4_number ml_X4_252 0 rfl rfl rfl (kRm_ok (by decide) (by decide)) rfl rfl (Nat.le_of_ble_eq_true rfl) dX4_personItem_171 ?_
                    refine k_aload_n hJ dX4_personItem_174 0 rfl ?_
                    refine gf_X4_7 (v := .ref (b 1)) hJ 0 rfl rfl dX4_personItem_175 ?_
                    refine k_iload_n hJ dX4_personItem_178 2 rfl ?_
                    refine k_iconst (v := nI 4) hJ dX4_personItem_179 (by decide) ?_
                    refine k_iload_n hJ dX4_personItem_180 3 rfl ?_
                    refine n_iadd hJ dX4_personItem_181 ?_
                    refine c_SI (As := [.int (nI (m 0)), .int (nI (4 + 0))]) (st := [.ref (b 1)]) hJ (ct_X4_spot l g (m 0) (4 + 0) ) Fr.none ms_X4_spot ml_X4_57 (kRm_ok (by decide) (by decide)) rfl rfl (Nat.le_of_ble_eq_true rfl) dX4_personItem_182 ?_
                    refine k_aload_n hJ dX4_personItem_185 0 rfl ?_
                    refine gf_X4_227 (v := .int (nI (if bD tp tl (tkN tp tl (tkN tp tl (tkN tp tl (tkN tp tl fr)))) then hVal tp tl (tkN tp tl (tkN tp tl (tkN tp tl (tkN tp tl fr)))) else 0))) hJ 0 rfl rfl dX4_personItem_186 ?_
                    refine k_iast (ws2 := modW g b (mE kf fj mj tl (tkN tp tl (tkN tp tl (tkN tp tl (tkN tp tl fr)))) (tkE tp tl (tkN tp tl (tkN tp tl (tkN tp tl (tkN tp tl fr))))) (if bD tp tl (tkN tp tl (tkN tp tl (tkN tp tl (tkN tp tl fr)))) then hVal tp tl (tkN tp tl (tkN tp tl (tkN tp tl (tkN tp tl fr)))) else 0) true) (vUp (vJoin m kd (hVal tp tl (tkN tp tl (tkN tp tl fr)))) (4 + 10 * (m 0) + (4 + 0)) (if bD tp tl (tkN tp tl (tkN tp tl (tkN tp tl (tkN tp tl fr)))) then hVal tp tl (tkN tp tl (tkN tp tl (tkN tp tl (tkN tp tl fr)))) else 0)) th ai ct ks ot tp sb sz nu mo) hJ 1 rfl (4 + 10 * (m 0) + (4 + 0)) (by omega) (by decide) (mw_s (v := (if bD tp tl (tkN tp tl (tkN tp tl (tkN tp tl (tkN tp tl fr)))) then hVal tp tl (tkN tp tl (tkN tp tl (tkN tp tl (tkN tp tl fr)))) else 0))) dX4_personItem_189 ?_
                    have e := p3_1 (hPe_ok (kd := kd) (show m 0 < 8 by omega) c29 cN44 (hP2_t (hNo_n c73) (hCo_n c110) (hDi_f c137 cN148)))
                    exact k_eqw (ws2 := modW g b (mE kf fj mj tl ((hPe tp tl kd fr m).2.1) (tkE tp tl (hPe tp tl kd fr m).2.1) (if bD tp tl (tkN tp tl (tkN tp tl (tkN tp tl (tkN tp tl fr)))) then hVal tp tl (tkN tp tl (tkN tp tl (tkN tp tl (tkN tp tl fr)))) else 0) (!(hPe tp tl kd fr m).1)) (vUp (vJoin m kd (hVal tp tl (tkN tp tl (tkN tp tl fr)))) (4 + 10 * (m 0) + (4 + 0)) (if bD tp tl (tkN tp tl (tkN tp tl (tkN tp tl (tkN tp tl fr)))) then hVal tp tl (tkN tp tl (tkN tp tl (tkN tp tl (tkN tp tl fr)))) else 0)) th ai ct ks ot tp sb sz nu mo) (by rw [e.1, e.2.1]; first | done | rfl) (hR _ _ () (vUp (vJoin m kd (hVal tp tl (tkN tp tl (tkN tp tl fr)))) (4 + 10 * (m 0) + (4 + 0)) (if bD tp tl (tkN tp tl (tkN tp tl (tkN tp tl (tkN tp tl fr)))) then hVal tp tl (tkN tp tl (tkN tp tl (tkN tp tl (tkN tp tl fr)))) else 0), if bD tp tl (tkN tp tl (tkN tp tl (tkN tp tl (tkN tp tl fr)))) then hVal tp tl (tkN tp tl (tkN tp tl (tkN tp tl (tkN tp tl fr)))) else 0) dX4_personItem_190 (fun h => absurd (h.symm.trans e.1) (by decide)))
            · have c110 : hW tp tl wCd (tkN tp tl (tkN tp tl (tkN tp tl fr))) = true := (kWo_wCd htp).mp (lg_eq.mp c110)
              refine k_aload_n hJ dX4_personItem_113 0 rfl ?_
              refine k_iconst (v := nI 1) hJ dX4_personItem_114 (by decide) ?_
              refine c_VV (As := [.int (nI 1)]) (st := []) hJ (ct_X4_must_t l g b kf fj mj tl (tkN tp tl (tkN tp tl (tkN tp tl fr))) (hVal tp tl (tkN tp tl (tkN tp tl fr))) false (vJoin m kd (hVal tp tl (tkN tp tl (tkN tp tl fr)))) th ai ct ks ot tp sb sz nu mo ht htp (tkN_le (tkN_le (tkN_le hq)))) (Fr.all mw_map) mv_X4_must ml_X4_230 0 rfl rfl rfl (kRm_ok (by decide) (by decide)) rfl rfl (Nat.le_of_ble_eq_true rfl) dX4_personItem_115 ?_
              refine k_aload_n hJ dX4_personItem_118 0 rfl ?_
              refine gf_X4_7 (v := .ref (b 1)) hJ 0 rfl rfl dX4_personItem_119 ?_
              refine k_iload_n hJ dX4_personItem_122 2 rfl ?_
              refine k_iconst (v := nI 3) hJ dX4_personItem_123 (by decide) ?_
              refine c_SI (As := [.int (nI (m 0)), .int (nI 3)]) (st := [.ref (b 1)]) hJ (ct_X4_spot l g (m 0) 3 ) Fr.none ms_X4_spot ml_X4_57 (kRm_ok (by decide) (by decide)) rfl rfl (Nat.le_of_ble_eq_true rfl) dX4_personItem_124 ?_
              refine k_iconst (v := nI 1) hJ dX4_personItem_127 (by decide) ?_
              refine k_iast (ws2 := modW g b (mE kf fj mj tl (tkN tp tl (tkN tp tl (tkN tp tl (tkN tp tl fr)))) (tkE tp tl (tkN tp tl (tkN tp tl (tkN tp tl (tkN tp tl fr))))) (hVal tp tl (tkN tp tl (tkN tp tl fr))) false) (vUp (vJoin m kd (hVal tp tl (tkN tp tl (tkN tp tl fr)))) (4 + 10 * (m 0) + 3) 1) th ai ct ks ot tp sb sz nu mo) hJ 1 rfl (4 + 10 * (m 0) + 3) (by omega) (by decide) (mw_s (v := 1)) dX4_personItem_128 ?_
              refine k_aload_n hJ dX4_personItem_129 0 rfl ?_
              refine c_VL (As := []) (st := []) hJ (ct_X4_word l g b kf fj mj tl (tkN tp tl (tkN tp tl (tkN tp tl (tkN tp tl fr)))) (hVal tp tl (tkN tp tl (tkN tp tl fr))) false (vUp (vJoin m kd (hVal tp tl (tkN tp tl (tkN tp tl fr)))) (4 + 10 * (m 0) + 3) 1) th ai ct ks ot tp sb sz nu mo ht htp (tkN_le (tkN_le (tkN_le (tkN_le hq))))) (Fr.all mw_map) mv_X4_word ml_X4_234 0 rfl rfl rfl (kRm_ok (by decide) (by decide)) rfl rfl (Nat.le_of_ble_eq_true rfl) dX4_personItem_130 ?_
              show J (modW g b (mE kf fj mj tl (tkN tp tl (tkN tp tl (tkN tp tl (tkN tp tl fr)))) (tkE tp tl (tkN tp tl (tkN tp tl (tkN tp tl (tkN tp tl fr))))) (hVal tp tl (tkN tp tl (tkN tp tl fr))) false) (vUp (vJoin m kd (hVal tp tl (tkN tp tl (tkN tp tl fr)))) (4 + 10 * (m 0) + 3) 1) th ai ct ks ot tp sb sz nu mo) [(0, .ref (b 0)), (1, .int (nI kd)), (2, .int (nI (m 0)))] 133 [.long (kWo tp tl (tkN tp tl (tkN tp tl (tkN tp tl (tkN tp tl fr)))))]
              refine k_ldc2 hJ dX4_personItem_133 cw_X4_259 ?_
              refine k_lcmp hJ dX4_personItem_136 ?_
              refine k_if_ne (tgt := 190) hJ dX4_personItem_137 (by decide) (fun c137 => ?_) (fun c137 => ?_)
              · have c137 : ¬ hW tp tl wDi (tkN tp tl (tkN tp tl (tkN tp tl (tkN tp tl fr)))) = true := fun q => c137 (lg_eq.mpr ((kWo_wDi htp).mpr q))
                have e := p3_1 (hPe_ok (kd := kd) (show m 0 < 8 by omega) c29 cN44 (hP2_t (hNo_n c73) (hCo_t c110) (hDi_n c137)))
                exact k_eqw (ws2 := modW g b (mE kf fj mj tl ((hPe tp tl kd fr m).2.1) (tkE tp tl (hPe tp tl kd fr m).2.1) (hVal tp tl (tkN tp tl (tkN tp tl fr))) (!(hPe tp tl kd fr m).1)) (vUp (vJoin m kd (hVal tp tl (tkN tp tl (tkN tp tl fr)))) (4 + 10 * (m 0) + 3) 1) th ai ct ks ot tp sb sz nu mo) (by rw [e.1, e.2.1]; first | done | rfl) (hR _ _ () (vUp (vJoin m kd (hVal tp tl (tkN tp tl (tkN tp tl fr)))) (4 + 10 * (m 0) + 3) 1, hVal tp tl (tkN tp tl (tkN tp tl fr))) dX4_personItem_190 (fun _ => e.2.2.symm))
              · have c137 : hW tp tl wDi (tkN tp tl (tkN tp tl (tkN tp tl (tkN tp tl fr)))) = true := (kWo_wDi htp).mp (lg_eq.mp c137)
                refine k_aload_n hJ dX4_personItem_140 0 rfl ?_
                refine k_iconst (v := nI 1) hJ dX4_personItem_141 (by decide) ?_
                refine c_VV (As := [.int (nI 1)]) (st := []) hJ (ct_X4_must_t l g b kf fj mj tl (tkN tp tl (tkN tp tl (tkN tp tl (tkN tp tl fr)))) (hVal tp tl (tkN tp tl (tkN tp tl fr))) false (vUp (vJoin m kd (hVal tp tl (tkN tp tl (tkN tp tl fr)))) (4 + 10 * (m 0) + 3) 1) th ai ct ks ot tp sb sz nu mo ht htp (tkN_le (tkN_le (tkN_le (tkN_le hq))))) (Fr.all mw_map) mv_X4_must ml_X4_230 0 rfl rfl rfl (kRm_ok (by decide) (by decide)) rfl rfl (Nat.le_of_ble_eq_true rfl) dX4_personItem_142 ?_
                refine k_aload_n hJ dX4_personItem_145 0 rfl ?_
                refine k_iconst (v := nI 0) hJ dX4_personItem_146 (by decide) ?_
                refine k_iconst (v := nI 5) hJ dX4_personItem_147 (by decide) ?_
                rcases Bool.eq_false_or_eq_true (hNum tp tl 0 5 (tkN tp tl (tkN tp tl (tkN tp tl (tkN tp tl (tkN tp tl fr)))))) with cN148 | cN148
                · have hv148 := hNum_v cN148
                  refine c_VV (As := [.int (nI 0), .int (nI 5)]) (st := []) hJ (ct_X4_number_t l g b kf fj mj tl (tkN tp tl (tkN tp tl (tkN tp tl (tkN tp tl (tkN tp tl fr))))) (hVal tp tl (tkN tp tl (tkN tp tl fr))) false (vUp (vJoin m kd (hVal tp tl (tkN tp tl (tkN tp tl fr)))) (4 + 10 * (m 0) + 3) 1) th ai ct ks ot tp sb sz nu mo 0 5 ht htp (tkN_le (tkN_le (tkN_le (tkN_le (tkN_le hq))))) (by decide) (by decide) cN148) (Fr.all mw_map) mv_X4_number ml_X4_252 0 rfl rfl rfl (kRm_ok (by decide) (by decide)) rfl rfl (Nat.le_of_ble_eq_true rfl) dX4_personItem_148 ?_
                  refine k_aload_n hJ dX4_personItem_151 0 rfl ?_
                  refine gf_X4_216 (v := .int (kb false)) hJ 0 rfl rfl dX4_personItem_152 ?_
                  refine b_if_eq (tgt := 162) hJ dX4_personItem_155 (by decide) (fun c155 => ?_) (fun c155 => ?_)
                  · refine k_aload_n hJ dX4_personItem_162 0 rfl ?_
                    refine gf_X4_227 (v := .int (nI (hVal tp tl (tkN tp tl (tkN tp tl (tkN tp tl (tkN tp tl (tkN tp tl fr)))))))) hJ 0 rfl rfl dX4_personItem_163 ?_
                    refine k_istore_n (lv1 := [(0, .ref (b 0)), (1, .int (nI kd)), (2, .int (nI (m 0))), (3, .int (nI (hVal tp tl (tkN tp tl (tkN tp tl (tkN tp tl (tkN tp tl (tkN tp tl fr))))))))]) hJ dX4_personItem_166 (by decide) [1, 2, 3, 0] rfl ?_
                    refine k_aload_n hJ dX4_personItem_167 0 rfl ?_
                    refine k_iconst (v := nI 0) hJ dX4_personItem_168 (by decide) ?_
                    refine k_bipush (v := nI 99) hJ dX4_personItem_169 (by decide) ?_
                    rcases Bool.eq_false_or_eq_true (hNum tp tl 0 99 (tkN tp tl (tkN tp tl (tkN tp tl (tkN tp tl (tkN tp tl (tkN tp tl fr))))))) with cN171 | cN171
                    · have hv171 := hNum_v cN171
                      refine c_VV (As := [.int (nI 0), .int (nI 99)]) (st := []) hJ (ct_X4_number_t l g b kf fj mj tl (tkN tp tl (tkN tp tl (tkN tp tl (tkN tp tl (tkN tp tl (tkN tp tl fr)))))) (hVal tp tl (tkN tp tl (tkN tp tl (tkN tp tl (tkN tp tl (tkN tp tl fr)))))) false (vUp (vJoin m kd (hVal tp tl (tkN tp tl (tkN tp tl fr)))) (4 + 10 * (m 0) + 3) 1) th ai ct ks ot tp sb sz nu mo 0 99 ht htp (tkN_le (tkN_le (tkN_le (tkN_le (tkN_le (tkN_le hq)))))) (by decide) (by decide) cN171) (Fr.all mw_map) mv_X4_number ml_X4_252 0 rfl rfl rfl (kRm_ok (by decide) (by decide)) rfl rfl (Nat.le_of_ble_eq_true rfl) dX4_personItem_171 ?_
                      refine k_aload_n hJ dX4_personItem_174 0 rfl ?_
                      refine gf_X4_7 (v := .ref (b 1)) hJ 0 rfl rfl dX4_personItem_175 ?_
                      refine k_iload_n hJ dX4_personItem_178 2 rfl ?_
                      refine k_iconst (v := nI 4) hJ dX4_personItem_179 (by decide) ?_
                      refine k_iload_n hJ dX4_personItem_180 3 rfl ?_
                      refine n_iadd hJ dX4_personItem_181 ?_
                      refine c_SI (As := [.int (nI (m 0)), .int (nI (4 + (hVal tp tl (tkN tp tl (tkN tp tl (tkN tp tl (tkN tp tl (tkN tp tl fr))))))))]) (st := [.ref (b 1)]) hJ (ct_X4_spot l g (m 0) (4 + (hVal tp tl (tkN tp tl (tkN tp tl (tkN tp tl (tkN tp tl (tkN tp tl fr))))))) ) Fr.none ms_X4_spot ml_X4_57 (kRm_ok (by decide) (by decide)) rfl rfl (Nat.le_of_ble_eq_true rfl) dX4_personItem_182 ?_
                      refine k_aload_n hJ dX4_personItem_185 0 rfl ?_
                      refine gf_X4_227 (v := .int (nI (hVal tp tl (tkN tp tl (tkN tp tl (tkN tp tl (tkN tp tl (tkN tp tl (tkN tp tl fr))))))))) hJ 0 rfl rfl dX4_personItem_186 ?_
                      refine k_iast (ws2 := modW g b (mE kf fj mj tl (tkN tp tl (tkN tp tl (tkN tp tl (tkN tp tl (tkN tp tl (tkN tp tl (tkN tp tl fr))))))) (tkE tp tl (tkN tp tl (tkN tp tl (tkN tp tl (tkN tp tl (tkN tp tl (tkN tp tl (tkN tp tl fr)))))))) (hVal tp tl (tkN tp tl (tkN tp tl (tkN tp tl (tkN tp tl (tkN tp tl (tkN tp tl fr))))))) false) (vUp (vUp (vJoin m kd (hVal tp tl (tkN tp tl (tkN tp tl fr)))) (4 + 10 * (m 0) + 3) 1) (4 + 10 * (m 0) + (4 + (hVal tp tl (tkN tp tl (tkN tp tl (tkN tp tl (tkN tp tl (tkN tp tl fr)))))))) (hVal tp tl (tkN tp tl (tkN tp tl (tkN tp tl (tkN tp tl (tkN tp tl (tkN tp tl fr)))))))) th ai ct ks ot tp sb sz nu mo) hJ 1 rfl (4 + 10 * (m 0) + (4 + (hVal tp tl (tkN tp tl (tkN tp tl (tkN tp tl (tkN tp tl (tkN tp tl fr)))))))) (by omega) (by decide) (mw_s (v := (hVal tp tl (tkN tp tl (tkN tp tl (tkN tp tl (tkN tp tl (tkN tp tl (tkN tp tl fr))))))))) dX4_personItem_189 ?_
                      have e := p3_1 (hPe_ok (kd := kd) (show m 0 < 8 by omega) c29 cN44 (hP2_t (hNo_n c73) (hCo_t c110) (hDi_t c137 cN148 cN171)))
                      exact k_eqw (ws2 := modW g b (mE kf fj mj tl ((hPe tp tl kd fr m).2.1) (tkE tp tl (hPe tp tl kd fr m).2.1) (hVal tp tl (tkN tp tl (tkN tp tl (tkN tp tl (tkN tp tl (tkN tp tl (tkN tp tl fr))))))) (!(hPe tp tl kd fr m).1)) (vUp (vUp (vJoin m kd (hVal tp tl (tkN tp tl (tkN tp tl fr)))) (4 + 10 * (m 0) + 3) 1) (4 + 10 * (m 0) + (4 + (hVal tp tl (tkN tp tl (tkN tp tl (tkN tp tl (tkN tp tl (tkN tp tl fr)))))))) (hVal tp tl (tkN tp tl (tkN tp tl (tkN tp tl (tkN tp tl (tkN tp tl (tkN tp tl fr)))))))) th ai ct ks ot tp sb sz nu mo) (by rw [e.1, e.2.1]; first | done | rfl) (hR _ _ () (vUp (vUp (vJoin m kd (hVal tp tl (tkN tp tl (tkN tp tl fr)))) (4 + 10 * (m 0) + 3) 1) (4 + 10 * (m 0) + (4 + (hVal tp tl (tkN tp tl (tkN tp tl (tkN tp tl (tkN tp tl (tkN tp tl fr)))))))) (hVal tp tl (tkN tp tl (tkN tp tl (tkN tp tl (tkN tp tl (tkN tp tl (tkN tp tl fr))))))), hVal tp tl (tkN tp tl (tkN tp tl (tkN tp tl (tkN tp tl (tkN tp tl (tkN tp tl fr))))))) dX4_personItem_190 (fun _ => e.2.2.symm))
                    · skip
                      refine c_VV (As := [.int (nI 0), .int (nI 99)]) (st := []) hJ (ct_X4_number_f l g b kf fj mj tl (tkN tp tl (tkN tp tl (tkN tp tl (tkN tp tl (tkN tp tl (tkN tp tl fr)))))) (hVal tp tl (tkN tp tl (tkN tp tl (tkN tp tl (tkN tp tl (tkN tp tl fr)))))) false (vUp (vJoin m kd (hVal tp tl (tkN tp tl (tkN tp tl fr)))) (4 + 10 * (m 0) + 3) 1) th ai ct ks ot tp sb sz nu mo 0 99 ht htp (tkN_le (tkN_le (tkN_le (tkN_le (tkN_le (tkN_le hq)))))) (by decide) (by decide) cN171) (Fr.all mw_map) mv_X4_number ml_X4_252 0 rfl rfl rfl (kRm_ok (by decide) (by decide)) rfl rfl (Nat.le_of_ble_eq_true rfl) dX4_personItem_171 ?_
                      refine k_aload_n hJ dX4_personItem_174 0 rfl ?_
                      refine gf_X4_7 (v := .ref (b 1)) hJ 0 rfl rfl dX4_personItem_175 ?_
                      refine k_iload_n hJ dX4_personItem_178 2 rfl ?_
                      refine k_iconst (v := nI 4) hJ dX4_personItem_179 (by decide) ?_
                      refine k_iload_n hJ dX4_personItem_180 3 rfl ?_
                      refine n_iadd hJ dX4_personItem_181 ?_
                      refine c_SI (As := [.int (nI (m 0)), .int (nI (4 + (hVal tp tl (tkN tp tl (tkN tp tl (tkN tp tl (tkN tp tl (tkN tp tl fr))))))))]) (st := [.ref (b 1)]) hJ (ct_X4_spot l g (m 0) (4 + (hVal tp tl (tkN tp tl (tkN tp tl (tkN tp tl (tkN tp tl (tkN tp tl fr))))))) ) Fr.none ms_X4_spot ml_X4_57 (kRm_ok (by decide) (by decide)) rfl rfl (Nat.le_of_ble_eq_true rfl) dX4_personItem_182 ?_
                      refine k_aload_n hJ dX4_personItem_185 0 rfl ?_
                      refine gf_X4_227 (v := .int (nI (if bD tp tl (tkN tp tl (tkN tp tl (tkN tp tl (tkN tp tl (tkN tp tl (tkN tp tl fr)))))) then hVal tp tl (tkN tp tl (tkN tp tl (tkN tp tl (tkN tp tl (tkN tp tl (tkN tp tl fr)))))) else 0))) hJ 0 rfl rfl dX4_personItem_186 ?_
                      refine k_iast (ws2 := modW g b (mE kf fj mj tl (tkN tp tl (tkN tp tl (tkN tp tl (tkN tp tl (tkN tp tl (tkN tp tl fr)))))) (tkE tp tl (tkN tp tl (tkN tp tl (tkN tp tl (tkN tp tl (tkN tp tl (tkN tp tl fr))))))) (if bD tp tl (tkN tp tl (tkN tp tl (tkN tp tl (tkN tp tl (tkN tp tl (tkN tp tl fr)))))) then hVal tp tl (tkN tp tl (tkN tp tl (tkN tp tl (tkN tp tl (tkN tp tl (tkN tp tl fr)))))) else 0) true) (vUp (vUp (vJoin m kd (hVal tp tl (tkN tp tl (tkN tp tl fr)))) (4 + 10 * (m 0) + 3) 1) (4 + 10 * (m 0) + (4 + (hVal tp tl (tkN tp tl (tkN tp tl (tkN tp tl (tkN tp tl (tkN tp tl fr)))))))) (if bD tp tl (tkN tp tl (tkN tp tl (tkN tp tl (tkN tp tl (tkN tp tl (tkN tp tl fr)))))) then hVal tp tl (tkN tp tl (tkN tp tl (tkN tp tl (tkN tp tl (tkN tp tl (tkN tp tl fr)))))) else 0)) th ai ct ks ot tp sb sz nu mo) hJ 1 rfl (4 + 10 * (m 0) + (4 + (hVal tp tl (tkN tp tl (tkN tp tl (tkN tp tl (tkN tp tl (tkN tp tl fr)))))))) (by omega) (by decide) (mw_s (v := (if bD tp tl (tkN tp tl (tkN tp tl (tkN tp tl (tkN tp tl (tkN tp tl (tkN tp tl fr)))))) then hVal tp tl (tkN tp tl (tkN tp tl (tkN tp tl (tkN tp tl (tkN tp tl (tkN tp tl fr)))))) else 0))) dX4_personItem_189 ?_
                      have e := p3_1 (hPe_ok (kd := kd) (show m 0 < 8 by omega) c29 cN44 (hP2_t (hNo_n c73) (hCo_t c110) (hDi_g2 c137 cN148 cN171)))
                      exact k_eqw (ws2 := modW g b (mE kf fj mj tl ((hPe tp tl kd fr m).2.1) (tkE tp tl (hPe tp tl kd fr m).2.1) (if bD tp tl (tkN tp tl (tkN tp tl (tkN tp tl (tkN tp tl (tkN tp tl (tkN tp tl fr)))))) then hVal tp tl (tkN tp tl (tkN tp tl (tkN tp tl (tkN tp tl (tkN tp tl (tkN tp tl fr)))))) else 0) (!(hPe tp tl kd fr m).1)) (vUp (vUp (vJoin m kd (hVal tp tl (tkN tp tl (tkN tp tl fr)))) (4 + 10 * (m 0) + 3) 1) (4 + 10 * (m 0) + (4 + (hVal tp tl (tkN tp tl (tkN tp tl (tkN tp tl (tkN tp tl (tkN tp tl fr)))))))) (if bD tp tl (tkN tp tl (tkN tp tl (tkN tp tl (tkN tp tl (tkN tp tl (tkN tp tl fr)))))) then hVal tp tl (tkN tp tl (tkN tp tl (tkN tp tl (tkN tp tl (tkN tp tl (tkN tp tl fr)))))) else 0)) th ai ct ks ot tp sb sz nu mo) (by rw [e.1, e.2.1]; first | done | rfl) (hR _ _ () (vUp (vUp (vJoin m kd (hVal tp tl (tkN tp tl (tkN tp tl fr)))) (4 + 10 * (m 0) + 3) 1) (4 + 10 * (m 0) + (4 + (hVal tp tl (tkN tp tl (tkN tp tl (tkN tp tl (tkN tp tl (tkN tp tl fr)))))))) (if bD tp tl (tkN tp tl (tkN tp tl (tkN tp tl (tkN tp tl (tkN tp tl (tkN tp tl fr)))))) then hVal tp tl (tkN tp tl (tkN tp tl (tkN tp tl (tkN tp tl (tkN tp tl (tkN tp tl fr)))))) else 0), if bD tp tl (tkN tp tl (tkN tp tl (tkN tp tl (tkN tp tl (tkN tp tl (tkN tp tl fr)))))) then hVal tp tl (tkN tp tl (tkN tp tl (tkN tp tl (tkN tp tl (tkN tp tl (tkN tp tl fr)))))) else 0) dX4_personItem_190 (fun h => absurd (h.symm.trans e.1) (by decide)))
                  · exact absurd c155 (by decide)
                · skip
                  refine c_VV (As := [.int (nI 0), .int (nI 5)]) (st := []) hJ (ct_X4_number_f l g b kf fj mj tl (tkN tp tl (tkN tp tl (tkN tp tl (tkN tp tl (tkN tp tl fr))))) (hVal tp tl (tkN tp tl (tkN tp tl fr))) false (vUp (vJoin m kd (hVal tp tl (tkN tp tl (tkN tp tl fr)))) (4 + 10 * (m 0) + 3) 1) th ai ct ks ot tp sb sz nu mo 0 5 ht htp (tkN_le (tkN_le (tkN_le (tkN_le (tkN_le hq))))) (by decide) (by decide) cN148) (Fr.all mw_map) mv_X4_number ml_X4_252 0 rfl rfl rfl (kRm_ok (by decide) (by decide)) rfl rfl (Nat.le_of_ble_eq_true rfl) dX4_personItem_148 ?_
                  refine k_aload_n hJ dX4_personItem_151 0 rfl ?_
                  refine gf_X4_216 (v := .int (kb true)) hJ 0 rfl rfl dX4_personItem_152 ?_
                  refine b_if_eq (tgt := 162) hJ dX4_personItem_155 (by decide) (fun c155 => ?_) (fun c155 => ?_)
                  · exact absurd c155 (by decide)
                  · refine k_iconst (v := nI 0) hJ dX4_personItem_158 (by decide) ?_
                    refine k_goto (tgt := 166) hJ dX4_personItem_159 (by decide) ?_
                    refine k_istore_n (lv1 := [(0, .ref (b 0)), (1, .int (nI kd)), (2, .int (nI (m 0))), (3, .int (nI 0))]) hJ dX4_personItem_166 (by decide) [1, 2, 3, 0] rfl ?_
                    refine k_aload_n hJ dX4_personItem_167 0 rfl ?_
                    refine k_iconst (v := nI 0) hJ dX4_personItem_168 (by decide) ?_
                    refine k_bipush (v := nI 99) hJ dX4_personItem_169 (by decide) ?_
                    refine c_VV (As := [.int (nI 0), .int (nI 99)]) (st := []) hJ (ct_X4_number_w l g b kf fj mj tl (tkN tp tl (tkN tp tl (tkN tp tl (tkN tp tl (tkN tp tl fr))))) (if bD tp tl (tkN tp tl (tkN tp tl (tkN tp tl (tkN tp tl (tkN tp tl fr))))) then hVal tp tl (tkN tp tl (tkN tp tl (tkN tp tl (tkN tp tl (tkN tp tl fr))))) else 0) true (vUp (vJoin m kd (hVal tp tl (tkN tp tl (tkN tp tl fr)))) (4 + 10 * (m 0) + 3) 1) th ai ct ks ot tp sb sz nu mo 0 99) (Fr.all mw_map) mv_X4_number ml_X4_252 0 rfl rfl rfl (kRm_ok (by decide) (by decide)) rfl rfl (Nat.le_of_ble_eq_true rfl) dX4_personItem_171 ?_
                    refine k_aload_n hJ dX4_personItem_174 0 rfl ?_
                    refine gf_X4_7 (v := .ref (b 1)) hJ 0 rfl rfl dX4_personItem_175 ?_
                    refine k_iload_n hJ dX4_personItem_178 2 rfl ?_
                    refine k_iconst (v := nI 4) hJ dX4_personItem_179 (by decide) ?_
                    refine k_iload_n hJ dX4_personItem_180 3 rfl ?_
                    refine n_iadd hJ dX4_personItem_181 ?_
                    refine c_SI (As := [.int (nI (m 0)), .int (nI (4 + 0))]) (st := [.ref (b 1)]) hJ (ct_X4_spot l g (m 0) (4 + 0) ) Fr.none ms_X4_spot ml_X4_57 (kRm_ok (by decide) (by decide)) rfl rfl (Nat.le_of_ble_eq_true rfl) dX4_personItem_182 ?_
                    refine k_aload_n hJ dX4_personItem_185 0 rfl ?_
                    refine gf_X4_227 (v := .int (nI (if bD tp tl (tkN tp tl (tkN tp tl (tkN tp tl (tkN tp tl (tkN tp tl fr))))) then hVal tp tl (tkN tp tl (tkN tp tl (tkN tp tl (tkN tp tl (tkN tp tl fr))))) else 0))) hJ 0 rfl rfl dX4_personItem_186 ?_
                    refine k_iast (ws2 := modW g b (mE kf fj mj tl (tkN tp tl (tkN tp tl (tkN tp tl (tkN tp tl (tkN tp tl fr))))) (tkE tp tl (tkN tp tl (tkN tp tl (tkN tp tl (tkN tp tl (tkN tp tl fr)))))) (if bD tp tl (tkN tp tl (tkN tp tl (tkN tp tl (tkN tp tl (tkN tp tl fr))))) then hVal tp tl (tkN tp tl (tkN tp tl (tkN tp tl (tkN tp tl (tkN tp tl fr))))) else 0) true) (vUp (vUp (vJoin m kd (hVal tp tl (tkN tp tl (tkN tp tl fr)))) (4 + 10 * (m 0) + 3) 1) (4 + 10 * (m 0) + (4 + 0)) (if bD tp tl (tkN tp tl (tkN tp tl (tkN tp tl (tkN tp tl (tkN tp tl fr))))) then hVal tp tl (tkN tp tl (tkN tp tl (tkN tp tl (tkN tp tl (tkN tp tl fr))))) else 0)) th ai ct ks ot tp sb sz nu mo) hJ 1 rfl (4 + 10 * (m 0) + (4 + 0)) (by omega) (by decide) (mw_s (v := (if bD tp tl (tkN tp tl (tkN tp tl (tkN tp tl (tkN tp tl (tkN tp tl fr))))) then hVal tp tl (tkN tp tl (tkN tp tl (tkN tp tl (tkN tp tl (tkN tp tl fr))))) else 0))) dX4_personItem_189 ?_
                    have e := p3_1 (hPe_ok (kd := kd) (show m 0 < 8 by omega) c29 cN44 (hP2_t (hNo_n c73) (hCo_t c110) (hDi_f c137 cN148)))
                    exact k_eqw (ws2 := modW g b (mE kf fj mj tl ((hPe tp tl kd fr m).2.1) (tkE tp tl (hPe tp tl kd fr m).2.1) (if bD tp tl (tkN tp tl (tkN tp tl (tkN tp tl (tkN tp tl (tkN tp tl fr))))) then hVal tp tl (tkN tp tl (tkN tp tl (tkN tp tl (tkN tp tl (tkN tp tl fr))))) else 0) (!(hPe tp tl kd fr m).1)) (vUp (vUp (vJoin m kd (hVal tp tl (tkN tp tl (tkN tp tl fr)))) (4 + 10 * (m 0) + 3) 1) (4 + 10 * (m 0) + (4 + 0)) (if bD tp tl (tkN tp tl (tkN tp tl (tkN tp tl (tkN tp tl (tkN tp tl fr))))) then hVal tp tl (tkN tp tl (tkN tp tl (tkN tp tl (tkN tp tl (tkN tp tl fr))))) else 0)) th ai ct ks ot tp sb sz nu mo) (by rw [e.1, e.2.1]; first | done | rfl) (hR _ _ () (vUp (vUp (vJoin m kd (hVal tp tl (tkN tp tl (tkN tp tl fr)))) (4 + 10 * (m 0) + 3) 1) (4 + 10 * (m 0) + (4 + 0)) (if bD tp tl (tkN tp tl (tkN tp tl (tkN tp tl (tkN tp tl (tkN tp tl fr))))) then hVal tp tl (tkN tp tl (tkN tp tl (tkN tp tl (tkN tp tl (tkN tp tl fr))))) else 0), if bD tp tl (tkN tp tl (tkN tp tl (tkN tp tl (tkN tp tl (tkN tp tl fr))))) then hVal tp tl (tkN tp tl (tkN tp tl (tkN tp tl (tkN tp tl (tkN tp tl fr))))) else 0) dX4_personItem_190 (fun h => absurd (h.symm.trans e.1) (by decide)))
          · have c73 : hW tp tl wNo (tkN tp tl (tkN tp tl (tkN tp tl fr))) = true := (kWo_wNo htp).mp (lg_eq.mp c73)
            refine k_aload_n hJ dX4_personItem_76 0 rfl ?_
            refine k_iconst (v := nI 1) hJ dX4_personItem_77 (by decide) ?_
            refine c_VV (As := [.int (nI 1)]) (st := []) hJ (ct_X4_must_t l g b kf fj mj tl (tkN tp tl (tkN tp tl (tkN tp tl fr))) (hVal tp tl (tkN tp tl (tkN tp tl fr))) false (vJoin m kd (hVal tp tl (tkN tp tl (tkN tp tl fr)))) th ai ct ks ot tp sb sz nu mo ht htp (tkN_le (tkN_le (tkN_le hq)))) (Fr.all mw_map) mv_X4_must ml_X4_230 0 rfl rfl rfl (kRm_ok (by decide) (by decide)) rfl rfl (Nat.le_of_ble_eq_true rfl) dX4_personItem_78 ?_
            refine k_aload_n hJ dX4_personItem_81 0 rfl ?_
            refine k_iconst (v := nI 0) hJ dX4_personItem_82 (by decide) ?_
            refine k_bipush (v := nI 9) hJ dX4_personItem_83 (by decide) ?_
            rcases Bool.eq_false_or_eq_true (hNum tp tl 0 9 (tkN tp tl (tkN tp tl (tkN tp tl (tkN tp tl fr))))) with cN85 | cN85
            · have hv85 := hNum_v cN85
              refine c_VV (As := [.int (nI 0), .int (nI 9)]) (st := []) hJ (ct_X4_number_t l g b kf fj mj tl (tkN tp tl (tkN tp tl (tkN tp tl (tkN tp tl fr)))) (hVal tp tl (tkN tp tl (tkN tp tl fr))) false (vJoin m kd (hVal tp tl (tkN tp tl (tkN tp tl fr)))) th ai ct ks ot tp sb sz nu mo 0 9 ht htp (tkN_le (tkN_le (tkN_le (tkN_le hq)))) (by decide) (by decide) cN85) (Fr.all mw_map) mv_X4_number ml_X4_252 0 rfl rfl rfl (kRm_ok (by decide) (by decide)) rfl rfl (Nat.le_of_ble_eq_true rfl) dX4_personItem_85 ?_
              refine k_aload_n hJ dX4_personItem_88 0 rfl ?_
              refine gf_X4_7 (v := .ref (b 1)) hJ 0 rfl rfl dX4_personItem_89 ?_
              refine k_iload_n hJ dX4_personItem_92 2 rfl ?_
              refine k_iconst (v := nI 2) hJ dX4_personItem_93 (by decide) ?_
              refine c_SI (As := [.int (nI (m 0)), .int (nI 2)]) (st := [.ref (b 1)]) hJ (ct_X4_spot l g (m 0) 2 ) Fr.none ms_X4_spot ml_X4_57 (kRm_ok (by decide) (by decide)) rfl rfl (Nat.le_of_ble_eq_true rfl) dX4_personItem_94 ?_
              refine k_aload_n hJ dX4_personItem_97 0 rfl ?_
              refine gf_X4_227 (v := .int (nI (hVal tp tl (tkN tp tl (tkN tp tl (tkN tp tl (tkN tp tl fr))))))) hJ 0 rfl rfl dX4_personItem_98 ?_
              refine k_iast (ws2 := modW g b (mE kf fj mj tl (tkN tp tl (tkN tp tl (tkN tp tl (tkN tp tl (tkN tp tl fr))))) (tkE tp tl (tkN tp tl (tkN tp tl (tkN tp tl (tkN tp tl (tkN tp tl fr)))))) (hVal tp tl (tkN tp tl (tkN tp tl (tkN tp tl (tkN tp tl fr))))) false) (vUp (vJoin m kd (hVal tp tl (tkN tp tl (tkN tp tl fr)))) (4 + 10 * (m 0) + 2) (hVal tp tl (tkN tp tl (tkN tp tl (tkN tp tl (tkN tp tl fr)))))) th ai ct ks ot tp sb sz nu mo) hJ 1 rfl (4 + 10 * (m 0) + 2) (by omega) (by decide) (mw_s (v := (hVal tp tl (tkN tp tl (tkN tp tl (tkN tp tl (tkN tp tl fr))))))) dX4_personItem_101 ?_
              refine k_aload_n hJ dX4_personItem_102 0 rfl ?_
              refine c_VL (As := []) (st := []) hJ (ct_X4_word l g b kf fj mj tl (tkN tp tl (tkN tp tl (tkN tp tl (tkN tp tl (tkN tp tl fr))))) (hVal tp tl (tkN tp tl (tkN tp tl (tkN tp tl (tkN tp tl fr))))) false (vUp (vJoin m kd (hVal tp tl (tkN tp tl (tkN tp tl fr)))) (4 + 10 * (m 0) + 2) (hVal tp tl (tkN tp tl (tkN tp tl (tkN tp tl (tkN tp tl fr)))))) th ai ct ks ot tp sb sz nu mo ht htp (tkN_le (tkN_le (tkN_le (tkN_le (tkN_le hq)))))) (Fr.all mw_map) mv_X4_word ml_X4_234 0 rfl rfl rfl (kRm_ok (by decide) (by decide)) rfl rfl (Nat.le_of_ble_eq_true rfl) dX4_personItem_103 ?_
              show J (modW g b (mE kf fj mj tl (tkN tp tl (tkN tp tl (tkN tp tl (tkN tp tl (tkN tp tl fr))))) (tkE tp tl (tkN tp tl (tkN tp tl (tkN tp tl (tkN tp tl (tkN tp tl fr)))))) (hVal tp tl (tkN tp tl (tkN tp tl (tkN tp tl (tkN tp tl fr))))) false) (vUp (vJoin m kd (hVal tp tl (tkN tp tl (tkN tp tl fr)))) (4 + 10 * (m 0) + 2) (hVal tp tl (tkN tp tl (tkN tp tl (tkN tp tl (tkN tp tl fr)))))) th ai ct ks ot tp sb sz nu mo) [(0, .ref (b 0)), (1, .int (nI kd)), (2, .int (nI (m 0)))] 106 [.long (kWo tp tl (tkN tp tl (tkN tp tl (tkN tp tl (tkN tp tl (tkN tp tl fr))))))]
              refine k_ldc2 hJ dX4_personItem_106 cw_X4_257 ?_
              refine k_lcmp hJ dX4_personItem_109 ?_
              refine k_if_ne (tgt := 129) hJ dX4_personItem_110 (by decide) (fun c110 => ?_) (fun c110 => ?_)
              · have c110 : ¬ hW tp tl wCd (tkN tp tl (tkN tp tl (tkN tp tl (tkN tp tl (tkN tp tl fr))))) = true := fun q => c110 (lg_eq.mpr ((kWo_wCd htp).mpr q))
                refine k_aload_n hJ dX4_personItem_129 0 rfl ?_
                refine c_VL (As := []) (st := []) hJ (ct_X4_word l g b kf fj mj tl (tkN tp tl (tkN tp tl (tkN tp tl (tkN tp tl (tkN tp tl fr))))) (hVal tp tl (tkN tp tl (tkN tp tl (tkN tp tl (tkN tp tl fr))))) false (vUp (vJoin m kd (hVal tp tl (tkN tp tl (tkN tp tl fr)))) (4 + 10 * (m 0) + 2) (hVal tp tl (tkN tp tl (tkN tp tl (tkN tp tl (tkN tp tl fr)))))) th ai ct ks ot tp sb sz nu mo ht htp (tkN_le (tkN_le (tkN_le (tkN_le (tkN_le hq)))))) (Fr.all mw_map) mv_X4_word ml_X4_234 0 rfl rfl rfl (kRm_ok (by decide) (by decide)) rfl rfl (Nat.le_of_ble_eq_true rfl) dX4_personItem_130 ?_
                show J (modW g b (mE kf fj mj tl (tkN tp tl (tkN tp tl (tkN tp tl (tkN tp tl (tkN tp tl fr))))) (tkE tp tl (tkN tp tl (tkN tp tl (tkN tp tl (tkN tp tl (tkN tp tl fr)))))) (hVal tp tl (tkN tp tl (tkN tp tl (tkN tp tl (tkN tp tl fr))))) false) (vUp (vJoin m kd (hVal tp tl (tkN tp tl (tkN tp tl fr)))) (4 + 10 * (m 0) + 2) (hVal tp tl (tkN tp tl (tkN tp tl (tkN tp tl (tkN tp tl fr)))))) th ai ct ks ot tp sb sz nu mo) [(0, .ref (b 0)), (1, .int (nI kd)), (2, .int (nI (m 0)))] 133 [.long (kWo tp tl (tkN tp tl (tkN tp tl (tkN tp tl (tkN tp tl (tkN tp tl fr))))))]
                refine k_ldc2 hJ dX4_personItem_133 cw_X4_259 ?_
                refine k_lcmp hJ dX4_personItem_136 ?_
                refine k_if_ne (tgt := 190) hJ dX4_personItem_137 (by decide) (fun c137 => ?_) (fun c137 => ?_)
                · have c137 : ¬ hW tp tl wDi (tkN tp tl (tkN tp tl (tkN tp tl (tkN tp tl (tkN tp tl fr))))) = true := fun q => c137 (lg_eq.mpr ((kWo_wDi htp).mpr q))
                  have e := p3_1 (hPe_ok (kd := kd) (show m 0 < 8 by omega) c29 cN44 (hP2_t (hNo_t c73 cN85) (hCo_n c110) (hDi_n c137)))
                  exact k_eqw (ws2 := modW g b (mE kf fj mj tl ((hPe tp tl kd fr m).2.1) (tkE tp tl (hPe tp tl kd fr m).2.1) (hVal tp tl (tkN tp tl (tkN tp tl (tkN tp tl (tkN tp tl fr))))) (!(hPe tp tl kd fr m).1)) (vUp (vJoin m kd (hVal tp tl (tkN tp tl (tkN tp tl fr)))) (4 + 10 * (m 0) + 2) (hVal tp tl (tkN tp tl (tkN tp tl (tkN tp tl (tkN tp tl fr)))))) th ai ct ks ot tp sb sz nu mo) (by rw [e.1, e.2.1]; first | done | rfl) (hR _ _ () (vUp (vJoin m kd (hVal tp tl (tkN tp tl (tkN tp tl fr)))) (4 + 10 * (m 0) + 2) (hVal tp tl (tkN tp tl (tkN tp tl (tkN tp tl (tkN tp tl fr))))), hVal tp tl (tkN tp tl (tkN tp tl (tkN tp tl (tkN tp tl fr))))) dX4_personItem_190 (fun _ => e.2.2.symm))
                · have c137 : hW tp tl wDi (tkN tp tl (tkN tp tl (tkN tp tl (tkN tp tl (tkN tp tl fr))))) = true := (kWo_wDi htp).mp (lg_eq.mp c137)
                  refine k_aload_n hJ dX4_personItem_140 0 rfl ?_
                  refine k_iconst (v := nI 1) hJ dX4_personItem_141 (by decide) ?_
                  refine c_VV (As := [.int (nI 1)]) (st := []) hJ (ct_X4_must_t l g b kf fj mj tl (tkN tp tl (tkN tp tl (tkN tp tl (tkN tp tl (tkN tp tl fr))))) (hVal tp tl (tkN tp tl (tkN tp tl (tkN tp tl (tkN tp tl fr))))) false (vUp (vJoin m kd (hVal tp tl (tkN tp tl (tkN tp tl fr)))) (4 + 10 * (m 0) + 2) (hVal tp tl (tkN tp tl (tkN tp tl (tkN tp tl (tkN tp tl fr)))))) th ai ct ks ot tp sb sz nu mo ht htp (tkN_le (tkN_le (tkN_le (tkN_le (tkN_le hq)))))) (Fr.all mw_map) mv_X4_must ml_X4_230 0 rfl rfl rfl (kRm_ok (by decide) (by decide)) rfl rfl (Nat.le_of_ble_eq_true rfl) dX4_personItem_142 ?_
                  refine k_aload_n hJ dX4_personItem_145 0 rfl ?_
                  refine k_iconst (v := nI 0) hJ dX4_personItem_146 (by decide) ?_
                  refine k_iconst (v := nI 5) hJ dX4_personItem_147 (by decide) ?_
                  rcases Bool.eq_false_or_eq_true (hNum tp tl 0 5 (tkN tp tl (tkN tp tl (tkN tp tl (tkN tp tl (tkN tp tl (tkN tp tl fr))))))) with cN148 | cN148
                  · have hv148 := hNum_v cN148
                    refine c_VV (As := [.int (nI 0), .int (nI 5)]) (st := []) hJ (ct_X4_number_t l g b kf fj mj tl (tkN tp tl (tkN tp tl (tkN tp tl (tkN tp tl (tkN tp tl (tkN tp tl fr)))))) (hVal tp tl (tkN tp tl (tkN tp tl (tkN tp tl (tkN tp tl fr))))) false (vUp (vJoin m kd (hVal tp tl (tkN tp tl (tkN tp tl fr)))) (4 + 10 * (m 0) + 2) (hVal tp tl (tkN tp tl (tkN tp tl (tkN tp tl (tkN tp tl fr)))))) th ai ct ks ot tp sb sz nu mo 0 5 ht htp (tkN_le (tkN_le (tkN_le (tkN_le (tkN_le (tkN_le hq)))))) (by decide) (by decide) cN148) (Fr.all mw_map) mv_X4_number ml_X4_252 0 rfl rfl rfl (kRm_ok (by decide) (by decide)) rfl rfl (Nat.le_of_ble_eq_true rfl) dX4_personItem_148 ?_
                    refine k_aload_n hJ dX4_personItem_151 0 rfl ?_
                    refine gf_X4_216 (v := .int (kb false)) hJ 0 rfl rfl dX4_personItem_152 ?_
                    refine b_if_eq (tgt := 162) hJ dX4_personItem_155 (by decide) (fun c155 => ?_) (fun c155 => ?_)
                    · refine k_aload_n hJ dX4_personItem_162 0 rfl ?_
                      refine gf_X4_227 (v := .int (nI (hVal tp tl (tkN tp tl (tkN tp tl (tkN tp tl (tkN tp tl (tkN tp tl (tkN tp tl fr))))))))) hJ 0 rfl rfl dX4_personItem_163 ?_
                      refine k_istore_n (lv1 := [(0, .ref (b 0)), (1, .int (nI kd)), (2, .int (nI (m 0))), (3, .int (nI (hVal tp tl (tkN tp tl (tkN tp tl (tkN tp tl (tkN tp tl (tkN tp tl (tkN tp tl fr)))))))))]) hJ dX4_personItem_166 (by decide) [1, 2, 3, 0] rfl ?_
                      refine k_aload_n hJ dX4_personItem_167 0 rfl ?_
                      refine k_iconst (v := nI 0) hJ dX4_personItem_168 (by decide) ?_
                      refine k_bipush (v := nI 99) hJ dX4_personItem_169 (by decide) ?_
                      rcases Bool.eq_false_or_eq_true (hNum tp tl 0 99 (tkN tp tl (tkN tp tl (tkN tp tl (tkN tp tl (tkN tp tl (tkN tp tl (tkN tp tl fr)))))))) with cN171 | cN171
                      · have hv171 := hNum_v cN171
                        refine c_VV (As := [.int (nI 0), .int (nI 99)]) (st := []) hJ (ct_X4_number_t l g b kf fj mj tl (tkN tp tl (tkN tp tl (tkN tp tl (tkN tp tl (tkN tp tl (tkN tp tl (tkN tp tl fr))))))) (hVal tp tl (tkN tp tl (tkN tp tl (tkN tp tl (tkN tp tl (tkN tp tl (tkN tp tl fr))))))) false (vUp (vJoin m kd (hVal tp tl (tkN tp tl (tkN tp tl fr)))) (4 + 10 * (m 0) + 2) (hVal tp tl (tkN tp tl (tkN tp tl (tkN tp tl (tkN tp tl fr)))))) th ai ct ks ot tp sb sz nu mo 0 99 ht htp (tkN_le (tkN_le (tkN_le (tkN_le (tkN_le (tkN_le (tkN_le hq))))))) (by decide) (by decide) cN171) (Fr.all mw_map) mv_X4_number ml_X4_252 0 rfl rfl rfl (kRm_ok (by decide) (by decide)) rfl rfl (Nat.le_of_ble_eq_true rfl) dX4_personItem_171 ?_
                        refine k_aload_n hJ dX4_personItem_174 0 rfl ?_
                        refine gf_X4_7 (v := .ref (b 1)) hJ 0 rfl rfl dX4_personItem_175 ?_
                        refine k_iload_n hJ dX4_personItem_178 2 rfl ?_
                        refine k_iconst (v := nI 4) hJ dX4_personItem_179 (by decide) ?_
                        refine k_iload_n hJ dX4_personItem_180 3 rfl ?_
                        refine n_iadd hJ dX4_personItem_181 ?_
                        refine c_SI (As := [.int (nI (m 0)), .int (nI (4 + (hVal tp tl (tkN tp tl (tkN tp tl (tkN tp tl (tkN tp tl (tkN tp tl (tkN tp tl fr)))))))))]) (st := [.ref (b 1)]) hJ (ct_X4_spot l g (m 0) (4 + (hVal tp tl (tkN tp tl (tkN tp tl (tkN tp tl (tkN tp tl (tkN tp tl (tkN tp tl fr)))))))) ) Fr.none ms_X4_spot ml_X4_57 (kRm_ok (by decide) (by decide)) rfl rfl (Nat.le_of_ble_eq_true rfl) dX4_personItem_182 ?_
                        refine k_aload_n hJ dX4_personItem_185 0 rfl ?_
                        refine gf_X4_227 (v := .int (nI (hVal tp tl (tkN tp tl (tkN tp tl (tkN tp tl (tkN tp tl (tkN tp tl (tkN tp tl (tkN tp tl fr)))))))))) hJ 0 rfl rfl dX4_personItem_186 ?_
                        refine k_iast (ws2 := modW g b (mE kf fj mj tl (tkN tp tl (tkN tp tl (tkN tp tl (tkN tp tl (tkN tp tl (tkN tp tl (tkN tp tl (tkN tp tl fr)))))))) (tkE tp tl (tkN tp tl (tkN tp tl (tkN tp tl (tkN tp tl (tkN tp tl (tkN tp tl (tkN tp tl (tkN tp tl fr))))))))) (hVal tp tl (tkN tp tl (tkN tp tl (tkN tp tl (tkN tp tl (tkN tp tl (tkN tp tl (tkN tp tl fr)))))))) false) (vUp (vUp (vJoin m kd (hVal tp tl (tkN tp tl (tkN tp tl fr)))) (4 + 10 * (m 0) + 2) (hVal tp tl (tkN tp tl (tkN tp tl (tkN tp tl (tkN tp tl fr)))))) (4 + 10 * (m 0) + (4 + (hVal tp tl (tkN tp tl (tkN tp tl (tkN tp tl (tkN tp tl (tkN tp tl (tkN tp tl fr))))))))) (hVal tp tl (tkN tp tl (tkN tp tl (tkN tp tl (tkN tp tl (tkN tp tl (tkN tp tl (tkN tp tl fr))))))))) th ai ct ks ot tp sb sz nu mo) hJ 1 rfl (4 + 10 * (m 0) + (4 + (hVal tp tl (tkN tp tl (tkN tp tl (tkN tp tl (tkN tp tl (tkN tp tl (tkN tp tl fr))))))))) (by omega) (by decide) (mw_s (v := (hVal tp tl (tkN tp tl (tkN tp tl (tkN tp tl (tkN tp tl (tkN tp tl (tkN tp tl (tkN tp tl fr)))))))))) dX4_personItem_189 ?_
                        have e := p3_1 (hPe_ok (kd := kd) (show m 0 < 8 by omega) c29 cN44 (hP2_t (hNo_t c73 cN85) (hCo_n c110) (hDi_t c137 cN148 cN171)))
                        exact k_eqw (ws2 := modW g b (mE kf fj mj tl ((hPe tp tl kd fr m).2.1) (tkE tp tl (hPe tp tl kd fr m).2.1) (hVal tp tl (tkN tp tl (tkN tp tl (tkN tp tl (tkN tp tl (tkN tp tl (tkN tp tl (tkN tp tl fr)))))))) (!(hPe tp tl kd fr m).1)) (vUp (vUp (vJoin m kd (hVal tp tl (tkN tp tl (tkN tp tl fr)))) (4 + 10 * (m 0) + 2) (hVal tp tl (tkN tp tl (tkN tp tl (tkN tp tl (tkN tp tl fr)))))) (4 + 10 * (m 0) + (4 + (hVal tp tl (tkN tp tl (tkN tp tl (tkN tp tl (tkN tp tl (tkN tp tl (tkN tp tl fr))))))))) (hVal tp tl (tkN tp tl (tkN tp tl (tkN tp tl (tkN tp tl (tkN tp tl (tkN tp tl (tkN tp tl fr))))))))) th ai ct ks ot tp sb sz nu mo) (by rw [e.1, e.2.1]; first | done | rfl) (hR _ _ () (vUp (vUp (vJoin m kd (hVal tp tl (tkN tp tl (tkN tp tl fr)))) (4 + 10 * (m 0) + 2) (hVal tp tl (tkN tp tl (tkN tp tl (tkN tp tl (tkN tp tl fr)))))) (4 + 10 * (m 0) + (4 + (hVal tp tl (tkN tp tl (tkN tp tl (tkN tp tl (tkN tp tl (tkN tp tl (tkN tp tl fr))))))))) (hVal tp tl (tkN tp tl (tkN tp tl (tkN tp tl (tkN tp tl (tkN tp tl (tkN tp tl (tkN tp tl fr)))))))), hVal tp tl (tkN tp tl (tkN tp tl (tkN tp tl (tkN tp tl (tkN tp tl (tkN tp tl (tkN tp tl fr)))))))) dX4_personItem_190 (fun _ => e.2.2.symm))
                      · skip
                        refine c_VV (As := [.int (nI 0), .int (nI 99)]) (st := []) hJ (ct_X4_number_f l g b kf fj mj tl (tkN tp tl (tkN tp tl (tkN tp tl (tkN tp tl (tkN tp tl (tkN tp tl (tkN tp tl fr))))))) (hVal tp tl (tkN tp tl (tkN tp tl (tkN tp tl (tkN tp tl (tkN tp tl (tkN tp tl fr))))))) false (vUp (vJoin m kd (hVal tp tl (tkN tp tl (tkN tp tl fr)))) (4 + 10 * (m 0) + 2) (hVal tp tl (tkN tp tl (tkN tp tl (tkN tp tl (tkN tp tl fr)))))) th ai ct ks ot tp sb sz nu mo 0 99 ht htp (tkN_le (tkN_le (tkN_le (tkN_le (tkN_le (tkN_le (tkN_le hq))))))) (by decide) (by decide) cN171) (Fr.all mw_map) mv_X4_number ml_X4_252 0 rfl rfl rfl (kRm_ok (by decide) (by decide)) rfl rfl (Nat.le_of_ble_eq_true rfl) dX4_personItem_171 ?_
                        refine k_aload_n hJ dX4_personItem_174 0 rfl ?_
                        refine gf_X4_7 (v := .ref (b 1)) hJ 0 rfl rfl dX4_personItem_175 ?_
                        refine k_iload_n hJ dX4_personItem_178 2 rfl ?_
                        refine k_iconst (v := nI 4) hJ dX4_personItem_179 (by decide) ?_
                        refine k_iload_n hJ dX4_personItem_180 3 rfl ?_
                        refine n_iadd hJ dX4_personItem_181 ?_
                        refine c_SI (As := [.int (nI (m 0)), .int (nI (4 + (hVal tp tl (tkN tp tl (tkN tp tl (tkN tp tl (tkN tp tl (tkN tp tl (tkN tp tl fr)))))))))]) (st := [.ref (b 1)]) hJ (ct_X4_spot l g (m 0) (4 + (hVal tp tl (tkN tp tl (tkN tp tl (tkN tp tl (tkN tp tl (tkN tp tl (tkN tp tl fr)))))))) ) Fr.none ms_X4_spot ml_X4_57 (kRm_ok (by decide) (by decide)) rfl rfl (Nat.le_of_ble_eq_true rfl) dX4_personItem_182 ?_
                        refine k_aload_n hJ dX4_personItem_185 0 rfl ?_
                        refine gf_X4_227 (v := .int (nI (if bD tp tl (tkN tp tl (tkN tp tl (tkN tp tl (tkN tp tl (tkN tp tl (tkN tp tl (tkN tp tl fr))))))) then hVal tp tl (tkN tp tl (tkN tp tl (tkN tp tl (tkN tp tl (tkN tp tl (tkN tp tl (tkN tp tl fr))))))) else 0))) hJ 0 rfl rfl dX4_personItem_186 ?_
                        refine k_iast (ws2 := modW g b (mE kf fj mj tl (tkN tp tl (tkN tp tl (tkN tp tl (tkN tp tl (tkN tp tl (tkN tp tl (tkN tp tl fr))))))) (tkE tp tl (tkN tp tl (tkN tp tl (tkN tp tl (tkN tp tl (tkN tp tl (tkN tp tl (tkN tp tl fr)))))))) (if bD tp tl (tkN tp tl (tkN tp tl (tkN tp tl (tkN tp tl (tkN tp tl (tkN tp tl (tkN tp tl fr))))))) then hVal tp tl (tkN tp tl (tkN tp tl (tkN tp tl (tkN tp tl (tkN tp tl (tkN tp tl (tkN tp tl fr))))))) else 0) true) (vUp (vUp (vJoin m kd (hVal tp tl (tkN tp tl (tkN tp tl fr)))) (4 + 10 * (m 0) + 2) (hVal tp tl (tkN tp tl (tkN tp tl (tkN tp tl (tkN tp tl fr)))))) (4 + 10 * (m 0) + (4 + (hVal tp tl (tkN tp tl (tkN tp tl (tkN tp tl (tkN tp tl (tkN tp tl (tkN tp tl fr))))))))) (if bD tp tl (tkN tp tl (tkN tp tl (tkN tp tl (tkN tp tl (tkN tp tl (tkN tp tl (tkN tp tl fr))))))) then hVal tp tl (tkN tp tl (tkN tp tl (tkN tp tl (tkN tp tl (tkN tp tl (tkN tp tl (tkN tp tl fr))))))) else 0)) th ai ct ks ot tp sb sz nu mo) hJ 1 rfl (4 + 10 * (m 0) + (4 + (hVal tp tl (tkN tp tl (tkN tp tl (tkN tp tl (tkN tp tl (tkN tp tl (tkN tp tl fr))))))))) (by omega) (by decide) (mw_s (v := (if bD tp tl (tkN tp tl (tkN tp tl (tkN tp tl (tkN tp tl (tkN tp tl (tkN tp tl (tkN tp tl fr))))))) then hVal tp tl (tkN tp tl (tkN tp tl (tkN tp tl (tkN tp tl (tkN tp tl (tkN tp tl (tkN tp tl fr))))))) else 0))) dX4_personItem_189 ?_
                        have e := p3_1 (hPe_ok (kd := kd) (show m 0 < 8 by omega) c29 cN44 (hP2_t (hNo_t c73 cN85) (hCo_n c110) (hDi_g2 c137 cN148 cN171)))
                        exact k_eqw (ws2 := modW g b (mE kf fj mj tl ((hPe tp tl kd fr m).2.1) (tkE tp tl (hPe tp tl kd fr m).2.1) (if bD tp tl (tkN tp tl (tkN tp tl (tkN tp tl (tkN tp tl (tkN tp tl (tkN tp tl (tkN tp tl fr))))))) then hVal tp tl (tkN tp tl (tkN tp tl (tkN tp tl (tkN tp tl (tkN tp tl (tkN tp tl (tkN tp tl fr))))))) else 0) (!(hPe tp tl kd fr m).1)) (vUp (vUp (vJoin m kd (hVal tp tl (tkN tp tl (tkN tp tl fr)))) (4 + 10 * (m 0) + 2) (hVal tp tl (tkN tp tl (tkN tp tl (tkN tp tl (tkN tp tl fr)))))) (4 + 10 * (m 0) + (4 + (hVal tp tl (tkN tp tl (tkN tp tl (tkN tp tl (tkN tp tl (tkN tp tl (tkN tp tl fr))))))))) (if bD tp tl (tkN tp tl (tkN tp tl (tkN tp tl (tkN tp tl (tkN tp tl (tkN tp tl (tkN tp tl fr))))))) then hVal tp tl (tkN tp tl (tkN tp tl (tkN tp tl (tkN tp tl (tkN tp tl (tkN tp tl (tkN tp tl fr))))))) else 0)) th ai ct ks ot tp sb sz nu mo) (by rw [e.1, e.2.1]; first | done | rfl) (hR _ _ () (vUp (vUp (vJoin m kd (hVal tp tl (tkN tp tl (tkN tp tl fr)))) (4 + 10 * (m 0) + 2) (hVal tp tl (tkN tp tl (tkN tp tl (tkN tp tl (tkN tp tl fr)))))) (4 + 10 * (m 0) + (4 + (hVal tp tl (tkN tp tl (tkN tp tl (tkN tp tl (tkN tp tl (tkN tp tl (tkN tp tl fr))))))))) (if bD tp tl (tkN tp tl (tkN tp tl (tkN tp tl (tkN tp tl (tkN tp tl (tkN tp tl (tkN tp tl fr))))))) then hVal tp tl (tkN tp tl (tkN tp tl (tkN tp tl (tkN tp tl (tkN tp tl (tkN tp tl (tkN tp tl fr))))))) else 0), if bD tp tl (tkN tp tl (tkN tp tl (tkN tp tl (tkN tp tl (tkN tp tl (tkN tp tl (tkN tp tl fr))))))) then hVal tp tl (tkN tp tl (tkN tp tl (tkN tp tl (tkN tp tl (tkN tp tl (tkN tp tl (tkN tp tl fr))))))) else 0) dX4_personItem_190 (fun h => absurd (h.symm.trans e.1) (by decide)))
                    · exact absurd c155 (by decide)
                  · skip
                    refine c_VV (As := [.int (nI 0), .int (nI 5)]) (st := []) hJ (ct_X4_number_f l g b kf fj mj tl (tkN tp tl (tkN tp tl (tkN tp tl (tkN tp tl (tkN tp tl (tkN tp tl fr)))))) (hVal tp tl (tkN tp tl (tkN tp tl (tkN tp tl (tkN tp tl fr))))) false (vUp (vJoin m kd (hVal tp tl (tkN tp tl (tkN tp tl fr)))) (4 + 10 * (m 0) + 2) (hVal tp tl (tkN tp tl (tkN tp tl (tkN tp tl (tkN tp tl fr)))))) th ai ct ks ot tp sb sz nu mo 0 5 ht htp (tkN_le (tkN_le (tkN_le (tkN_le (tkN_le (tkN_le hq)))))) (by decide) (by decide) cN148) (Fr.all mw_map) mv_X4_number ml_X4_252 0 rfl rfl rfl (kRm_ok (by decide) (by decide)) rfl rfl (Nat.le_of_ble_eq_true rfl) dX4_personItem_148 ?_
                    refine k_aload_n hJ dX4_personItem_151 0 rfl ?_
                    refine gf_X4_216 (v := .int (kb true)) hJ 0 rfl rfl dX4_personItem_152 ?_
                    refine b_if_eq (tgt := 162) hJ dX4_personItem_155 (by decide) (fun c155 => ?_) (fun c155 => ?_)
                    · exact absurd c155 (by decide)
                    · refine k_iconst (v := nI 0) hJ dX4_personItem_158 (by decide) ?_
                      refine k_goto (tgt := 166) hJ dX4_personItem_159 (by decide) ?_
                      refine k_istore_n (lv1 := [(0, .ref (b 0)), (1, .int (nI kd)), (2, .int (nI (m 0))), (3, .int (nI 0))]) hJ dX4_personItem_166 (by decide) [1, 2, 3, 0] rfl ?_
                      refine k_aload_n hJ dX4_personItem_167 0 rfl ?_
                      refine k_iconst (v := nI 0) hJ dX4_personItem_168 (by decide) ?_
                      refine k_bipush (v := nI 99) hJ dX4_personItem_169 (by decide) ?_
                      refine c_VV (As := [.int (nI 0), .int (nI 99)]) (st := []) hJ (ct_X4_number_w l g b kf fj mj tl (tkN tp tl (tkN tp tl (tkN tp tl (tkN tp tl (tkN tp tl (tkN tp tl fr)))))) (if bD tp tl (tkN tp tl (tkN tp tl (tkN tp tl (tkN tp tl (tkN tp tl (tkN tp tl fr)))))) then hVal tp tl (tkN tp tl (tkN tp tl (tkN tp tl (tkN tp tl (tkN tp tl (tkN tp tl fr)))))) else 0) true (vUp (vJoin m kd (hVal tp tl (tkN tp tl (tkN tp tl fr)))) (4 + 10 * (m 0) + 2) (hVal tp tl (tkN tp tl (tkN tp tl (tkN tp tl (tkN tp tl fr)))))) th ai ct ks ot tp sb sz nu mo 0 99) (Fr.all mw_map) mv_X4_number ml_X4_252 0 rfl rfl rfl (kRm_ok (by decide) (by decide)) rfl rfl (Nat.le_of_ble_eq_true rfl) dX4_personItem_171 ?_
                      refine k_aload_n hJ dX4_personItem_174 0 rfl ?_
                      refine gf_X4_7 (v := .ref (b 1)) hJ 0 rfl rfl dX4_personItem_175 ?_
                      refine k_iload_n hJ dX4_personItem_178 2 rfl ?_
                      refine k_iconst (v := nI 4) hJ dX4_personItem_179 (by decide) ?_
                      refine k_iload_n hJ dX4_personItem_180 3 rfl ?_
                      refine n_iadd hJ dX4_personItem_181 ?_
                      refine c_SI (As := [.int (nI (m 0)), .int (nI (4 + 0))]) (st := [.ref (b 1)]) hJ (ct_X4_spot l g (m 0) (4 + 0) ) Fr.none ms_X4_spot ml_X4_57 (kRm_ok (by decide) (by decide)) rfl rfl (Nat.le_of_ble_eq_true rfl) dX4_personItem_182 ?_
                      refine k_aload_n hJ dX4_personItem_185 0 rfl ?_
                      refine gf_X4_227 (v := .int (nI (if bD tp tl (tkN tp tl (tkN tp tl (tkN tp tl (tkN tp tl (tkN tp tl (tkN tp tl fr)))))) then hVal tp tl (tkN tp tl (tkN tp tl (tkN tp tl (tkN tp tl (tkN tp tl (tkN tp tl fr)))))) else 0))) hJ 0 rfl rfl dX4_personItem_186 ?_
                      refine k_iast (ws2 := modW g b (mE kf fj mj tl (tkN tp tl (tkN tp tl (tkN tp tl (tkN tp tl (tkN tp tl (tkN tp tl fr)))))) (tkE tp tl (tkN tp tl (tkN tp tl (tkN tp tl (tkN tp tl (tkN tp tl (tkN tp tl fr))))))) (if bD tp tl (tkN tp tl (tkN tp tl (tkN tp tl (tkN tp tl (tkN tp tl (tkN tp tl fr)))))) then hVal tp tl (tkN tp tl (tkN tp tl (tkN tp tl (tkN tp tl (tkN tp tl (tkN tp tl fr)))))) else 0) true) (vUp (vUp (vJoin m kd (hVal tp tl (tkN tp tl (tkN tp tl fr)))) (4 + 10 * (m 0) + 2) (hVal tp tl (tkN tp tl (tkN tp tl (tkN tp tl (tkN tp tl fr)))))) (4 + 10 * (m 0) + (4 + 0)) (if bD tp tl (tkN tp tl (tkN tp tl (tkN tp tl (tkN tp tl (tkN tp tl (tkN tp tl fr)))))) then hVal tp tl (tkN tp tl (tkN tp tl (tkN tp tl (tkN tp tl (tkN tp tl (tkN tp tl fr)))))) else 0)) th ai ct ks ot tp sb sz nu mo) hJ 1 rfl (4 + 10 * (m 0) + (4 + 0)) (by omega) (by decide) (mw_s (v := (if bD tp tl (tkN tp tl (tkN tp tl (tkN tp tl (tkN tp tl (tkN tp tl (tkN tp tl fr)))))) then hVal tp tl (tkN tp tl (tkN tp tl (tkN tp tl (tkN tp tl (tkN tp tl (tkN tp tl fr)))))) else 0))) dX4_personItem_189 ?_
                      have e := p3_1 (hPe_ok (kd := kd) (show m 0 < 8 by omega) c29 cN44 (hP2_t (hNo_t c73 cN85) (hCo_n c110) (hDi_f c137 cN148)))
                      exact k_eqw (ws2 := modW g b (mE kf fj mj tl ((hPe tp tl kd fr m).2.1) (tkE tp tl (hPe tp tl kd fr m).2.1) (if bD tp tl (tkN tp tl (tkN tp tl (tkN tp tl (tkN tp tl (tkN tp tl (tkN tp tl fr)))))) then hVal tp tl (tkN tp tl (tkN tp tl (tkN tp tl (tkN tp tl (tkN tp tl (tkN tp tl fr)))))) else 0) (!(hPe tp tl kd fr m).1)) (vUp (vUp (vJoin m kd (hVal tp tl (tkN tp tl (tkN tp tl fr)))) (4 + 10 * (m 0) + 2) (hVal tp tl (tkN tp tl (tkN tp tl (tkN tp tl (tkN tp tl fr)))))) (4 + 10 * (m 0) + (4 + 0)) (if bD tp tl (tkN tp tl (tkN tp tl (tkN tp tl (tkN tp tl (tkN tp tl (tkN tp tl fr)))))) then hVal tp tl (tkN tp tl (tkN tp tl (tkN tp tl (tkN tp tl (tkN tp tl (tkN tp tl fr)))))) else 0)) th ai ct ks ot tp sb sz nu mo) (by rw [e.1, e.2.1]; first | done | rfl) (hR _ _ () (vUp (vUp (vJoin m kd (hVal tp tl (tkN tp tl (tkN tp tl fr)))) (4 + 10 * (m 0) + 2) (hVal tp tl (tkN tp tl (tkN tp tl (tkN tp tl (tkN tp tl fr)))))) (4 + 10 * (m 0) + (4 + 0)) (if bD tp tl (tkN tp tl (tkN tp tl (tkN tp tl (tkN tp tl (tkN tp tl (tkN tp tl fr)))))) then hVal tp tl (tkN tp tl (tkN tp tl (tkN tp tl (tkN tp tl (tkN tp tl (tkN tp tl fr)))))) else 0), if bD tp tl (tkN tp tl (tkN tp tl (tkN tp tl (tkN tp tl (tkN tp tl (tkN tp tl fr)))))) then hVal tp tl (tkN tp tl (tkN tp tl (tkN tp tl (tkN tp tl (tkN tp tl (tkN tp tl fr)))))) else 0) dX4_personItem_190 (fun h => absurd (h.symm.trans e.1) (by decide)))
              · have c110 : hW tp tl wCd (tkN tp tl (tkN tp tl (tkN tp tl (tkN tp tl (tkN tp tl fr))))) = true := (kWo_wCd htp).mp (lg_eq.mp c110)
                refine k_aload_n hJ dX4_personItem_113 0 rfl ?_
                refine k_iconst (v := nI 1) hJ dX4_personItem_114 (by decide) ?_
                refine c_VV (As := [.int (nI 1)]) (st := []) hJ (ct_X4_must_t l g b kf fj mj tl (tkN tp tl (tkN tp tl (tkN tp tl (tkN tp tl (tkN tp tl fr))))) (hVal tp tl (tkN tp tl (tkN tp tl (tkN tp tl (tkN tp tl fr))))) false (vUp (vJoin m kd (hVal tp tl (tkN tp tl (tkN tp tl fr)))) (4 + 10 * (m 0) + 2) (hVal tp tl (tkN tp tl (tkN tp tl (tkN tp tl (tkN tp tl fr)))))) th ai ct ks ot tp sb sz nu mo ht htp (tkN_le (tkN_le (tkN_le (tkN_le (tkN_le hq)))))) (Fr.all mw_map) mv_X4_must ml_X4_230 0 rfl rfl rfl (kRm_ok (by decide) (by decide)) rfl rfl (Nat.le_of_ble_eq_true rfl) dX4_personItem_115 ?_
                refine k_aload_n hJ dX4_personItem_118 0 rfl ?_
                refine gf_X4_7 (v := .ref (b 1)) hJ 0 rfl rfl dX4_personItem_119 ?_
                refine k_iload_n hJ dX4_personItem_122 2 rfl ?_
                refine k_iconst (v := nI 3) hJ dX4_personItem_123 (by decide) ?_
                refine c_SI (As := [.int (nI (m 0)), .int (nI 3)]) (st := [.ref (b 1)]) hJ (ct_X4_spot l g (m 0) 3 ) Fr.none ms_X4_spot ml_X4_57 (kRm_ok (by decide) (by decide)) rfl rfl (Nat.le_of_ble_eq_true rfl) dX4_personItem_124 ?_
                refine k_iconst (v := nI 1) hJ dX4_personItem_127 (by decide) ?_
                refine k_iast (ws2 := modW g b (mE kf fj mj tl (tkN tp tl (tkN tp tl (tkN tp tl (tkN tp tl (tkN tp tl (tkN tp tl fr)))))) (tkE tp tl (tkN tp tl (tkN tp tl (tkN tp tl (tkN tp tl (tkN tp tl (tkN tp tl fr))))))) (hVal tp tl (tkN tp tl (tkN tp tl (tkN tp tl (tkN tp tl fr))))) false) (vUp (vUp (vJoin m kd (hVal tp tl (tkN tp tl (tkN tp tl fr)))) (4 + 10 * (m 0) + 2) (hVal tp tl (tkN tp tl (tkN tp tl (tkN tp tl (tkN tp tl fr)))))) (4 + 10 * (m 0) + 3) 1) th ai ct ks ot tp sb sz nu mo) hJ 1 rfl (4 + 10 * (m 0) + 3) (by omega) (by decide) (mw_s (v := 1)) dX4_personItem_128 ?_
                refine k_aload_n hJ dX4_personItem_129 0 rfl ?_
                refine c_VL (As := []) (st := []) hJ (ct_X4_word l g b kf fj mj tl (tkN tp tl (tkN tp tl (tkN tp tl (tkN tp tl (tkN tp tl (tkN tp tl fr)))))) (hVal tp tl (tkN tp tl (tkN tp tl (tkN tp tl (tkN tp tl fr))))) false (vUp (vUp (vJoin m kd (hVal tp tl (tkN tp tl (tkN tp tl fr)))) (4 + 10 * (m 0) + 2) (hVal tp tl (tkN tp tl (tkN tp tl (tkN tp tl (tkN tp tl fr)))))) (4 + 10 * (m 0) + 3) 1) th ai ct ks ot tp sb sz nu mo ht htp (tkN_le (tkN_le (tkN_le (tkN_le (tkN_le (tkN_le hq))))))) (Fr.all mw_map) mv_X4_word ml_X4_234 0 rfl rfl rfl (kRm_ok (by decide) (by decide)) rfl rfl (Nat.le_of_ble_eq_true rfl) dX4_personItem_130 ?_
                show J (modW g b (mE kf fj mj tl (tkN tp tl (tkN tp tl (tkN tp tl (tkN tp tl (tkN tp tl (tkN tp tl fr)))))) (tkE tp tl (tkN tp tl (tkN tp tl (tkN tp tl (tkN tp tl (tkN tp tl (tkN tp tl fr))))))) (hVal tp tl (tkN tp tl (tkN tp tl (tkN tp tl (tkN tp tl fr))))) false) (vUp (vUp (vJoin m kd (hVal tp tl (tkN tp tl (tkN tp tl fr)))) (4 + 10 * (m 0) + 2) (hVal tp tl (tkN tp tl (tkN tp tl (tkN tp tl (tkN tp tl fr)))))) (4 + 10 * (m 0) + 3) 1) th ai ct ks ot tp sb sz nu mo) [(0, .ref (b 0)), (1, .int (nI kd)), (2, .int (nI (m 0)))] 133 [.long (kWo tp tl (tkN tp tl (tkN tp tl (tkN tp tl (tkN tp tl (tkN tp tl (tkN tp tl fr)))))))]
                refine k_ldc2 hJ dX4_personItem_133 cw_X4_259 ?_
                refine k_lcmp hJ dX4_personItem_136 ?_
                refine k_if_ne (tgt := 190) hJ dX4_personItem_137 (by decide) (fun c137 => ?_) (fun c137 => ?_)
                · have c137 : ¬ hW tp tl wDi (tkN tp tl (tkN tp tl (tkN tp tl (tkN tp tl (tkN tp tl (tkN tp tl fr)))))) = true := fun q => c137 (lg_eq.mpr ((kWo_wDi htp).mpr q))
                  have e := p3_1 (hPe_ok (kd := kd) (show m 0 < 8 by omega) c29 cN44 (hP2_t (hNo_t c73 cN85) (hCo_t c110) (hDi_n c137)))
                  exact k_eqw (ws2 := modW g b (mE kf fj mj tl ((hPe tp tl kd fr m).2.1) (tkE tp tl (hPe tp tl kd fr m).2.1) (hVal tp tl (tkN tp tl (tkN tp tl (tkN tp tl (tkN tp tl fr))))) (!(hPe tp tl kd fr m).1)) (vUp (vUp (vJoin m kd (hVal tp tl (tkN tp tl (tkN tp tl fr)))) (4 + 10 * (m 0) + 2) (hVal tp tl (tkN tp tl (tkN tp tl (tkN tp tl (tkN tp tl fr)))))) (4 + 10 * (m 0) + 3) 1) th ai ct ks ot tp sb sz nu mo) (by rw [e.1, e.2.1]; first | done | rfl) (hR _ _ () (vUp (vUp (vJoin m kd (hVal tp tl (tkN tp tl (tkN tp tl fr)))) (4 + 10 * (m 0) + 2) (hVal tp tl (tkN tp tl (tkN tp tl (tkN tp tl (tkN tp tl fr)))))) (4 + 10 * (m 0) + 3) 1, hVal tp tl (tkN tp tl (tkN tp tl (tkN tp tl (tkN tp tl fr))))) dX4_personItem_190 (fun _ => e.2.2.symm))
                · have c137 : hW tp tl wDi (tkN tp tl (tkN tp tl (tkN tp tl (tkN tp tl (tkN tp tl (tkN tp tl fr)))))) = true := (kWo_wDi htp).mp (lg_eq.mp c137)
                  refine k_aload_n hJ dX4_personItem_140 0 rfl ?_
                  refine k_iconst (v := nI 1) hJ dX4_personItem_141 (by decide) ?_
                  refine c_VV (As := [.int (nI 1)]) (st := []) hJ (ct_X4_must_t l g b kf fj mj tl (tkN tp tl (tkN tp tl (tkN tp tl (tkN tp tl (tkN tp tl (tkN tp tl fr)))))) (hVal tp tl (tkN tp tl (tkN tp tl (tkN tp tl (tkN tp tl fr))))) false (vUp (vUp (vJoin m kd (hVal tp tl (tkN tp tl (tkN tp tl fr)))) (4 + 10 * (m 0) + 2) (hVal tp tl (tkN tp tl (tkN tp tl (tkN tp tl (tkN tp tl fr)))))) (4 + 10 * (m 0) + 3) 1) th ai ct ks ot tp sb sz nu mo ht htp (tkN_le (tkN_le (tkN_le (tkN_le (tkN_le (tkN_le hq))))))) (Fr.all mw_map) mv_X4_must ml_X4_230 0 rfl rfl rfl (kRm_ok (by decide) (by decide)) rfl rfl (Nat.le_of_ble_eq_true rfl) dX4_personItem_142 ?_
                  refine k_aload_n hJ dX4_personItem_145 0 rfl ?_
                  refine k_iconst (v := nI 0) hJ dX4_personItem_146 (by decide) ?_
                  refine k_iconst (v := nI 5) hJ dX4_personItem_147 (by decide) ?_
                  rcases Bool.eq_false_or_eq_true (hNum tp tl 0 5 (tkN tp tl (tkN tp tl (tkN tp tl (tkN tp tl (tkN tp tl (tkN tp tl (tkN tp tl fr)))))))) with cN148 | cN148
                  · have hv148 := hNum_v cN148
                    refine c_VV (As := [.int (nI 0), .int (nI 5)]) (st := []) hJ (ct_X4_number_t l g b kf fj mj tl (tkN tp tl (tkN tp tl (tkN tp tl (tkN tp tl (tkN tp tl (tkN tp tl (tkN tp tl fr))))))) (hVal tp tl (tkN tp tl (tkN tp tl (tkN tp tl (tkN tp tl fr))))) false (vUp (vUp (vJoin m kd (hVal tp tl (tkN tp tl (tkN tp tl fr)))) (4 + 10 * (m 0) + 2) (hVal tp tl (tkN tp tl (tkN tp tl (tkN tp tl (tkN tp tl fr)))))) (4 + 10 * (m 0) + 3) 1) th ai ct ks ot tp sb sz nu mo 0 5 ht htp (tkN_le (tkN_le (tkN_le (tkN_le (tkN_le (tkN_le (tkN_le hq))))))) (by decide) (by decide) cN148) (Fr.all mw_map) mv_X4_number ml_X4_252 0 rfl rfl rfl (kRm_ok (by decide) (by decide)) rfl rfl (Nat.le_of_ble_eq_true rfl) dX4_personItem_148 ?_
                    refine k_aload_n hJ dX4_personItem_151 0 rfl ?_
                    refine gf_X4_216 (v := .int (kb false)) hJ 0 rfl rfl dX4_personItem_152 ?_
                    refine b_if_eq (tgt := 162) hJ dX4_personItem_155 (by decide) (fun c155 => ?_) (fun c155 => ?_)
                    · refine k_aload_n hJ dX4_personItem_162 0 rfl ?_
                      refine gf_X4_227 (v := .int (nI (hVal tp tl (tkN tp tl (tkN tp tl (tkN tp tl (tkN tp tl (tkN tp tl (tkN tp tl (tkN tp tl fr)))))))))) hJ 0 rfl rfl dX4_personItem_163 ?_
                      refine k_istore_n (lv1 := [(0, .ref (b 0)), (1, .int (nI kd)), (2, .int (nI (m 0))), (3, .int (nI (hVal tp tl (tkN tp tl (tkN tp tl (tkN tp tl (tkN tp tl (tkN tp tl (tkN tp tl (tkN tp tl fr))))))))))]) hJ dX4_personItem_166 (by decide) [1, 2, 3, 0] rfl ?_
                      refine k_aload_n hJ dX4_personItem_167 0 rfl ?_
                      refine k_iconst (v := nI 0) hJ dX4_personItem_168 (by decide) ?_
                      refine k_bipush (v := nI 99) hJ dX4_personItem_169 (by decide) ?_
                      rcases Bool.eq_false_or_eq_true (hNum tp tl 0 99 (tkN tp tl (tkN tp tl (tkN tp tl (tkN tp tl (tkN tp tl (tkN tp tl (tkN tp tl (tkN tp tl fr))))))))) with cN171 | cN171
                      · have hv171 := hNum_v cN171
                        refine c_VV (As := [.int (nI 0), .int (nI 99)]) (st := []) hJ (ct_X4_number_t l g b kf fj mj tl (tkN tp tl (tkN tp tl (tkN tp tl (tkN tp tl (tkN tp tl (tkN tp tl (tkN tp tl (tkN tp tl fr)))))))) (hVal tp tl (tkN tp tl (tkN tp tl (tkN tp tl (tkN tp tl (tkN tp tl (tkN tp tl (tkN tp tl fr)))))))) false (vUp (vUp (vJoin m kd (hVal tp tl (tkN tp tl (tkN tp tl fr)))) (4 + 10 * (m 0) + 2) (hVal tp tl (tkN tp tl (tkN tp tl (tkN tp tl (tkN tp tl fr)))))) (4 + 10 * (m 0) + 3) 1) th ai ct ks ot tp sb sz nu mo 0 99 ht htp (tkN_le (tkN_le (tkN_le (tkN_le (tkN_le (tkN_le (tkN_le (tkN_le hq)))))))) (by decide) (by decide) cN171) (Fr.all mw_map) mv_X4_number ml_X4_252 0 rfl rfl rfl (kRm_ok (by decide) (by decide)) rfl rfl (Nat.le_of_ble_eq_true rfl) dX4_personItem_171 ?_
                        refine k_aload_n hJ dX4_personItem_174 0 rfl ?_
                        refine gf_X4_7 (v := .ref (b 1)) hJ 0 rfl rfl dX4_personItem_175 ?_
                        refine k_iload_n hJ dX4_personItem_178 2 rfl ?_
                        refine k_iconst (v := nI 4) hJ dX4_personItem_179 (by decide) ?_
                        refine k_iload_n hJ dX4_personItem_180 3 rfl ?_
                        refine n_iadd hJ dX4_personItem_181 ?_
                        refine c_SI (As := [.int (nI (m 0)), .int (nI (4 + (hVal tp tl (tkN tp tl (tkN tp tl (tkN tp tl (tkN tp tl (tkN tp tl (tkN tp tl (tkN tp tl fr))))))))))]) (st := [.ref (b 1)]) hJ (ct_X4_spot l g (m 0) (4 + (hVal tp tl (tkN tp tl (tkN tp tl (tkN tp tl (tkN tp tl (tkN tp tl (tkN tp tl (tkN tp tl fr))))))))) ) Fr.none ms_X4_spot ml_X4_57 (kRm_ok (by decide) (by decide)) rfl rfl (Nat.le_of_ble_eq_true rfl) dX4_personItem_182 ?_
                        refine k_aload_n hJ dX4_personItem_185 0 rfl ?_
                        refine gf_X4_227 (v := .int (nI (hVal tp tl (tkN tp tl (tkN tp tl (tkN tp tl (tkN tp tl (tkN tp tl (tkN tp tl (tkN tp tl (tkN tp tl fr))))))))))) hJ 0 rfl rfl dX4_personItem_186 ?_
                        refine k_iast (ws2 := modW g b (mE kf fj mj tl (tkN tp tl (tkN tp tl (tkN tp tl (tkN tp tl (tkN tp tl (tkN tp tl (tkN tp tl (tkN tp tl (tkN tp tl fr))))))))) (tkE tp tl (tkN tp tl (tkN tp tl (tkN tp tl (tkN tp tl (tkN tp tl (tkN tp tl (tkN tp tl (tkN tp tl (tkN tp tl fr)))))))))) (hVal tp tl (tkN tp tl (tkN tp tl (tkN tp tl (tkN tp tl (tkN tp tl (tkN tp tl (tkN tp tl (tkN tp tl fr))))))))) false) (vUp (vUp (vUp (vJoin m kd (hVal tp tl (tkN tp tl (tkN tp tl fr)))) (4 + 10 * (m 0) + 2) (hVal tp tl (tkN tp tl (tkN tp tl (tkN tp tl (tkN tp tl fr)))))) (4 + 10 * (m 0) + 3) 1) (4 + 10 * (m 0) + (4 + (hVal tp tl (tkN tp tl (tkN tp tl (tkN tp tl (tkN tp tl (tkN tp tl (tkN tp tl (tkN tp tl fr)))))))))) (hVal tp tl (tkN tp tl (tkN tp tl (tkN tp tl (tkN tp tl (tkN tp tl (tkN tp tl (tkN tp tl (tkN tp tl fr)))))))))) th ai ct ks ot tp sb sz nu mo) hJ 1 rfl (4 + 10 * (m 0) + (4 + (hVal tp tl (tkN tp tl (tkN tp tl (tkN tp tl (tkN tp tl (tkN tp tl (tkN tp tl (tkN tp tl fr)))))))))) (by omega) (by decide) (mw_s (v := (hVal tp tl (tkN tp tl (tkN tp tl (tkN tp tl (tkN tp tl (tkN tp tl (tkN tp tl (tkN tp tl (tkN tp tl fr))))))))))) dX4_personItem_189 ?_
                        have e := p3_1 (hPe_ok (kd := kd) (show m 0 < 8 by omega) c29 cN44 (hP2_t (hNo_t c73 cN85) (hCo_t c110) (hDi_t c137 cN148 cN171)))
                        exact k_eqw (ws2 := modW g b (mE kf fj mj tl ((hPe tp tl kd fr m).2.1) (tkE tp tl (hPe tp tl kd fr m).2.1) (hVal tp tl (tkN tp tl (tkN tp tl (tkN tp tl (tkN tp tl (tkN tp tl (tkN tp tl (tkN tp tl (tkN tp tl fr))))))))) (!(hPe tp tl kd fr m).1)) (vUp (vUp (vUp (vJoin m kd (hVal tp tl (tkN tp tl (tkN tp tl fr)))) (4 + 10 * (m 0) + 2) (hVal tp tl (tkN tp tl (tkN tp tl (tkN tp tl (tkN tp tl fr)))))) (4 + 10 * (m 0) + 3) 1) (4 + 10 * (m 0) + (4 + (hVal tp tl (tkN tp tl (tkN tp tl (tkN tp tl (tkN tp tl (tkN tp tl (tkN tp tl (tkN tp tl fr)))))))))) (hVal tp tl (tkN tp tl (tkN tp tl (tkN tp tl (tkN tp tl (tkN tp tl (tkN tp tl (tkN tp tl (tkN tp tl fr)))))))))) th ai ct ks ot tp sb sz nu mo) (by rw [e.1, e.2.1]; first | done | rfl) (hR _ _ () (vUp (vUp (vUp (vJoin m kd (hVal tp tl (tkN tp tl (tkN tp tl fr)))) (4 + 10 * (m 0) + 2) (hVal tp tl (tkN tp tl (tkN tp tl (tkN tp tl (tkN tp tl fr)))))) (4 + 10 * (m 0) + 3) 1) (4 + 10 * (m 0) + (4 + (hVal tp tl (tkN tp tl (tkN tp tl (tkN tp tl (tkN tp tl (tkN tp tl (tkN tp tl (tkN tp tl fr)))))))))) (hVal tp tl (tkN tp tl (tkN tp tl (tkN tp tl (tkN tp tl (tkN tp tl (tkN tp tl (tkN tp tl (tkN tp tl fr))))))))), hVal tp tl (tkN tp tl (tkN tp tl (tkN tp tl (tkN tp tl (tkN tp tl (tkN tp tl (tkN tp tl (tkN tp tl fr))))))))) dX4_personItem_190 (fun _ => e.2.2.symm))
                      · skip
                        refine c_VV (As := [.int (nI 0), .int (nI 99)]) (st := []) hJ (ct_X4_number_f l g b kf fj mj tl (tkN tp tl (tkN tp tl (tkN tp tl (tkN tp tl (tkN tp tl (tkN tp tl (tkN tp tl (tkN tp tl fr)))))))) (hVal tp tl (tkN tp tl (tkN tp tl (tkN tp tl (tkN tp tl (tkN tp tl (tkN tp tl (tkN tp tl fr)))))))) false (vUp (vUp (vJoin m kd (hVal tp tl (tkN tp tl (tkN tp tl fr)))) (4 + 10 * (m 0) + 2) (hVal tp tl (tkN tp tl (tkN tp tl (tkN tp tl (tkN tp tl fr)))))) (4 + 10 * (m 0) + 3) 1) th ai ct ks ot tp sb sz nu mo 0 99 ht htp (tkN_le (tkN_le (tkN_le (tkN_le (tkN_le (tkN_le (tkN_le (tkN_le hq)))))))) (by decide) (by decide) cN171) (Fr.all mw_map) mv_X4_number ml_X4_252 0 rfl rfl rfl (kRm_ok (by decide) (by decide)) rfl rfl (Nat.le_of_ble_eq_true rfl) dX4_personItem_171 ?_
                        refine k_aload_n hJ dX4_personItem_174 0 rfl ?_
                        refine gf_X4_7 (v := .ref (b 1)) hJ 0 rfl rfl dX4_personItem_175 ?_
                        refine k_iload_n hJ dX4_personItem_178 2 rfl ?_
                        refine k_iconst (v := nI 4) hJ dX4_personItem_179 (by decide) ?_
                        refine k_iload_n hJ dX4_personItem_180 3 rfl ?_
                        refine n_iadd hJ dX4_personItem_181 ?_
                        refine c_SI (As := [.int (nI (m 0)), .int (nI (4 + (hVal tp tl (tkN tp tl (tkN tp tl (tkN tp tl (tkN tp tl (tkN tp tl (tkN tp tl (tkN tp tl fr))))))))))]) (st := [.ref (b 1)]) hJ (ct_X4_spot l g (m 0) (4 + (hVal tp tl (tkN tp tl (tkN tp tl (tkN tp tl (tkN tp tl (tkN tp tl (tkN tp tl (tkN tp tl fr))))))))) ) Fr.none ms_X4_spot ml_X4_57 (kRm_ok (by decide) (by decide)) rfl rfl (Nat.le_of_ble_eq_true rfl) dX4_personItem_182 ?_
                        refine k_aload_n hJ dX4_personItem_185 0 rfl ?_
                        refine gf_X4_227 (v := .int (nI (if bD tp tl (tkN tp tl (tkN tp tl (tkN tp tl (tkN tp tl (tkN tp tl (tkN tp tl (tkN tp tl (tkN tp tl fr)))))))) then hVal tp tl (tkN tp tl (tkN tp tl (tkN tp tl (tkN tp tl (tkN tp tl (tkN tp tl (tkN tp tl (tkN tp tl fr)))))))) else 0))) hJ 0 rfl rfl dX4_personItem_186 ?_
                        refine k_iast (ws2 := modW g b (mE kf fj mj tl (tkN tp tl (tkN tp tl (tkN tp tl (tkN tp tl (tkN tp tl (tkN tp tl (tkN tp tl (tkN tp tl fr)))))))) (tkE tp tl (tkN tp tl (tkN tp tl (tkN tp tl (tkN tp tl (tkN tp tl (tkN tp tl (tkN tp tl (tkN tp tl fr))))))))) (if bD tp tl (tkN tp tl (tkN tp tl (tkN tp tl (tkN tp tl (tkN tp tl (tkN tp tl (tkN tp tl (tkN tp tl fr)))))))) then hVal tp tl (tkN tp tl (tkN tp tl (tkN tp tl (tkN tp tl (tkN tp tl (tkN tp tl (tkN tp tl (tkN tp tl fr)))))))) else 0) true) (vUp (vUp (vUp (vJoin m kd (hVal tp tl (tkN tp tl (tkN tp tl fr)))) (4 + 10 * (m 0) + 2) (hVal tp tl (tkN tp tl (tkN tp tl (tkN tp tl (tkN tp tl fr)))))) (4 + 10 * (m 0) + 3) 1) (4 + 10 * (m 0) + (4 + (hVal tp tl (tkN tp tl (tkN tp tl (tkN tp tl (tkN tp tl (tkN tp tl (tkN tp tl (tkN tp tl fr)))))))))) (if bD tp tl (tkN tp tl (tkN tp tl (tkN tp tl (tkN tp tl (tkN tp tl (tkN tp tl (tkN tp tl (tkN tp tl fr)))))))) then hVal tp tl (tkN tp tl (tkN tp tl (tkN tp tl (tkN tp tl (tkN tp tl (tkN tp tl (tkN tp tl (tkN tp tl fr)))))))) else 0)) th ai ct ks ot tp sb sz nu mo) hJ 1 rfl (4 + 10 * (m 0) + (4 + (hVal tp tl (tkN tp tl (tkN tp tl (tkN tp tl (tkN tp tl (tkN tp tl (tkN tp tl (tkN tp tl fr)))))))))) (by omega) (by decide) (mw_s (v := (if bD tp tl (tkN tp tl (tkN tp tl (tkN tp tl (tkN tp tl (tkN tp tl (tkN tp tl (tkN tp tl (tkN tp tl fr)))))))) then hVal tp tl (tkN tp tl (tkN tp tl (tkN tp tl (tkN tp tl (tkN tp tl (tkN tp tl (tkN tp tl (tkN tp tl fr)))))))) else 0))) dX4_personItem_189 ?_
                        have e := p3_1 (hPe_ok (kd := kd) (show m 0 < 8 by omega) c29 cN44 (hP2_t (hNo_t c73 cN85) (hCo_t c110) (hDi_g2 c137 cN148 cN171)))
                        exact k_eqw (ws2 := modW g b (mE kf fj mj tl ((hPe tp tl kd fr m).2.1) (tkE tp tl (hPe tp tl kd fr m).2.1) (if bD tp tl (tkN tp tl (tkN tp tl (tkN tp tl (tkN tp tl (tkN tp tl (tkN tp tl (tkN tp tl (tkN tp tl fr)))))))) then hVal tp tl (tkN tp tl (tkN tp tl (tkN tp tl (tkN tp tl (tkN tp tl (tkN tp tl (tkN tp tl (tkN tp tl fr)))))))) else 0) (!(hPe tp tl kd fr m).1)) (vUp (vUp (vUp (vJoin m kd (hVal tp tl (tkN tp tl (tkN tp tl fr)))) (4 + 10 * (m 0) + 2) (hVal tp tl (tkN tp tl (tkN tp tl (tkN tp tl (tkN tp tl fr)))))) (4 + 10 * (m 0) + 3) 1) (4 + 10 * (m 0) + (4 + (hVal tp tl (tkN tp tl (tkN tp tl (tkN tp tl (tkN tp tl (tkN tp tl (tkN tp tl (tkN tp tl fr)))))))))) (if bD tp tl (tkN tp tl (tkN tp tl (tkN tp tl (tkN tp tl (tkN tp tl (tkN tp tl (tkN tp tl (tkN tp tl fr)))))))) then hVal tp tl (tkN tp tl (tkN tp tl (tkN tp tl (tkN tp tl (tkN tp tl (tkN tp tl (tkN tp tl (tkN tp tl fr)))))))) else 0)) th ai ct ks ot tp sb sz nu mo) (by rw [e.1, e.2.1]; first | done | rfl) (hR _ _ () (vUp (vUp (vUp (vJoin m kd (hVal tp tl (tkN tp tl (tkN tp tl fr)))) (4 + 10 * (m 0) + 2) (hVal tp tl (tkN tp tl (tkN tp tl (tkN tp tl (tkN tp tl fr)))))) (4 + 10 * (m 0) + 3) 1) (4 + 10 * (m 0) + (4 + (hVal tp tl (tkN tp tl (tkN tp tl (tkN tp tl (tkN tp tl (tkN tp tl (tkN tp tl (tkN tp tl fr)))))))))) (if bD tp tl (tkN tp tl (tkN tp tl (tkN tp tl (tkN tp tl (tkN tp tl (tkN tp tl (tkN tp tl (tkN tp tl fr)))))))) then hVal tp tl (tkN tp tl (tkN tp tl (tkN tp tl (tkN tp tl (tkN tp tl (tkN tp tl (tkN tp tl (tkN tp tl fr)))))))) else 0), if bD tp tl (tkN tp tl (tkN tp tl (tkN tp tl (tkN tp tl (tkN tp tl (tkN tp tl (tkN tp tl (tkN tp tl fr)))))))) then hVal tp tl (tkN tp tl (tkN tp tl (tkN tp tl (tkN tp tl (tkN tp tl (tkN tp tl (tkN tp tl (tkN tp tl fr)))))))) else 0) dX4_personItem_190 (fun h => absurd (h.symm.trans e.1) (by decide)))
                    · exact absurd c155 (by decide)
                  · skip
                    refine c_VV (As := [.int (nI 0), .int (nI 5)]) (st := []) hJ (ct_X4_number_f l g b kf fj mj tl (tkN tp tl (tkN tp tl (tkN tp tl (tkN tp tl (tkN tp tl (tkN tp tl (tkN tp tl fr))))))) (hVal tp tl (tkN tp tl (tkN tp tl (tkN tp tl (tkN tp tl fr))))) false (vUp (vUp (vJoin m kd (hVal tp tl (tkN tp tl (tkN tp tl fr)))) (4 + 10 * (m 0) + 2) (hVal tp tl (tkN tp tl (tkN tp tl (tkN tp tl (tkN tp tl fr)))))) (4 + 10 * (m 0) + 3) 1) th ai ct ks ot tp sb sz nu mo 0 5 ht htp (tkN_le (tkN_le (tkN_le (tkN_le (tkN_le (tkN_le (tkN_le hq))))))) (by decide) (by decide) cN148) (Fr.all mw_map) mv_X4_number ml_X4_252 0 rfl rfl rfl (kRm_ok (by decide) (by decide)) rfl rfl (Nat.le_of_ble_eq_true rfl) dX4_personItem_148 ?_
                    refine k_aload_n hJ dX4_personItem_151 0 rfl ?_
                    refine gf_X4_216 (v := .int (kb true)) hJ 0 rfl rfl dX4_personItem_152 ?_
                    refine b_if_eq (tgt := 162) hJ dX4_personItem_155 (by decide) (fun c155 => ?_) (fun c155 => ?_)
                    · exact absurd c155 (by decide)
                    · refine k_iconst (v := nI 0) hJ dX4_personItem_158 (by decide) ?_
                      refine k_goto (tgt := 166) hJ dX4_personItem_159 (by decide) ?_
                      refine k_istore_n (lv1 := [(0, .ref (b 0)), (1, .int (nI kd)), (2, .int (nI (m 0))), (3, .int (nI 0))]) hJ dX4_personItem_166 (by decide) [1, 2, 3, 0] rfl ?_
                      refine k_aload_n hJ dX4_personItem_167 0 rfl ?_
                      refine k_iconst (v := nI 0) hJ dX4_personItem_168 (by decide) ?_
                      refine k_bipush (v := nI 99) hJ dX4_personItem_169 (by decide) ?_
                      refine c_VV (As := [.int (nI 0), .int (nI 99)]) (st := []) hJ (ct_X4_number_w l g b kf fj mj tl (tkN tp tl (tkN tp tl (tkN tp tl (tkN tp tl (tkN tp tl (tkN tp tl (tkN tp tl fr))))))) (if bD tp tl (tkN tp tl (tkN tp tl (tkN tp tl (tkN tp tl (tkN tp tl (tkN tp tl (tkN tp tl fr))))))) then hVal tp tl (tkN tp tl (tkN tp tl (tkN tp tl (tkN tp tl (tkN tp tl (tkN tp tl (tkN tp tl fr))))))) else 0) true (vUp (vUp (vJoin m kd (hVal tp tl (tkN tp tl (tkN tp tl fr)))) (4 + 10 * (m 0) + 2) (hVal tp tl (tkN tp tl (tkN tp tl (tkN tp tl (tkN tp tl fr)))))) (4 + 10 * (m 0) + 3) 1) th ai ct ks ot tp sb sz nu mo 0 99) (Fr.all mw_map) mv_X4_number ml_X4_252 0 rfl rfl rfl (kRm_ok (by decide) (by decide)) rfl rfl (Nat.le_of_ble_eq_true rfl) dX4_personItem_171 ?_
                      refine k_aload_n hJ dX4_personItem_174 0 rfl ?_
                      refine gf_X4_7 (v := .ref (b 1)) hJ 0 rfl rfl dX4_personItem_175 ?_
                      refine k_iload_n hJ dX4_personItem_178 2 rfl ?_
                      refine k_iconst (v := nI 4) hJ dX4_personItem_179 (by decide) ?_
                      refine k_iload_n hJ dX4_personItem_180 3 rfl ?_
                      refine n_iadd hJ dX4_personItem_181 ?_
                      refine c_SI (As := [.int (nI (m 0)), .int (nI (4 + 0))]) (st := [.ref (b 1)]) hJ (ct_X4_spot l g (m 0) (4 + 0) ) Fr.none ms_X4_spot ml_X4_57 (kRm_ok (by decide) (by decide)) rfl rfl (Nat.le_of_ble_eq_true rfl) dX4_personItem_182 ?_
                      refine k_aload_n hJ dX4_personItem_185 0 rfl ?_
                      refine gf_X4_227 (v := .int (nI (if bD tp tl (tkN tp tl (tkN tp tl (tkN tp tl (tkN tp tl (tkN tp tl (tkN tp tl (tkN tp tl fr))))))) then hVal tp tl (tkN tp tl (tkN tp tl (tkN tp tl (tkN tp tl (tkN tp tl (tkN tp tl (tkN tp tl fr))))))) else 0))) hJ 0 rfl rfl dX4_personItem_186 ?_
                      refine k_iast (ws2 := modW g b (mE kf fj mj tl (tkN tp tl (tkN tp tl (tkN tp tl (tkN tp tl (tkN tp tl (tkN tp tl (tkN tp tl fr))))))) (tkE tp tl (tkN tp tl (tkN tp tl (tkN tp tl (tkN tp tl (tkN tp tl (tkN tp tl (tkN tp tl fr)))))))) (if bD tp tl (tkN tp tl (tkN tp tl (tkN tp tl (tkN tp tl (tkN tp tl (tkN tp tl (tkN tp tl fr))))))) then hVal tp tl (tkN tp tl (tkN tp tl (tkN tp tl (tkN tp tl (tkN tp tl (tkN tp tl (tkN tp tl fr))))))) else 0) true) (vUp (vUp (vUp (vJoin m kd (hVal tp tl (tkN tp tl (tkN tp tl fr)))) (4 + 10 * (m 0) + 2) (hVal tp tl (tkN tp tl (tkN tp tl (tkN tp tl (tkN tp tl fr)))))) (4 + 10 * (m 0) + 3) 1) (4 + 10 * (m 0) + (4 + 0)) (if bD tp tl (tkN tp tl (tkN tp tl (tkN tp tl (tkN tp tl (tkN tp tl (tkN tp tl (tkN tp tl fr))))))) then hVal tp tl (tkN tp tl (tkN tp tl (tkN tp tl (tkN tp tl (tkN tp tl (tkN tp tl (tkN tp tl fr))))))) else 0)) th ai ct ks ot tp sb sz nu mo) hJ 1 rfl (4 + 10 * (m 0) + (4 + 0)) (by omega) (by decide) (mw_s (v := (if bD tp tl (tkN tp tl (tkN tp tl (tkN tp tl (tkN tp tl (tkN tp tl (tkN tp tl (tkN tp tl fr))))))) then hVal tp tl (tkN tp tl (tkN tp tl (tkN tp tl (tkN tp tl (tkN tp tl (tkN tp tl (tkN tp tl fr))))))) else 0))) dX4_personItem_189 ?_
                      have e := p3_1 (hPe_ok (kd := kd) (show m 0 < 8 by omega) c29 cN44 (hP2_t (hNo_t c73 cN85) (hCo_t c110) (hDi_f c137 cN148)))
                      exact k_eqw (ws2 := modW g b (mE kf fj mj tl ((hPe tp tl kd fr m).2.1) (tkE tp tl (hPe tp tl kd fr m).2.1) (if bD tp tl (tkN tp tl (tkN tp tl (tkN tp tl (tkN tp tl (tkN tp tl (tkN tp tl (tkN tp tl fr))))))) then hVal tp tl (tkN tp tl (tkN tp tl (tkN tp tl (tkN tp tl (tkN tp tl (tkN tp tl (tkN tp tl fr))))))) else 0) (!(hPe tp tl kd fr m).1)) (vUp (vUp (vUp (vJoin m kd (hVal tp tl (tkN tp tl (tkN tp tl fr)))) (4 + 10 * (m 0) + 2) (hVal tp tl (tkN tp tl (tkN tp tl (tkN tp tl (tkN tp tl fr)))))) (4 + 10 * (m 0) + 3) 1) (4 + 10 * (m 0) + (4 + 0)) (if bD tp tl (tkN tp tl (tkN tp tl (tkN tp tl (tkN tp tl (tkN tp tl (tkN tp tl (tkN tp tl fr))))))) then hVal tp tl (tkN tp tl (tkN tp tl (tkN tp tl (tkN tp tl (tkN tp tl (tkN tp tl (tkN tp tl fr))))))) else 0)) th ai ct ks ot tp sb sz nu mo) (by rw [e.1, e.2.1]; first | done | rfl) (hR _ _ () (vUp (vUp (vUp (vJoin m kd (hVal tp tl (tkN tp tl (tkN tp tl fr)))) (4 + 10 * (m 0) + 2) (hVal tp tl (tkN tp tl (tkN tp tl (tkN tp tl (tkN tp tl fr)))))) (4 + 10 * (m 0) + 3) 1) (4 + 10 * (m 0) + (4 + 0)) (if bD tp tl (tkN tp tl (tkN tp tl (tkN tp tl (tkN tp tl (tkN tp tl (tkN tp tl (tkN tp tl fr))))))) then hVal tp tl (tkN tp tl (tkN tp tl (tkN tp tl (tkN tp tl (tkN tp tl (tkN tp tl (tkN tp tl fr))))))) else 0), if bD tp tl (tkN tp tl (tkN tp tl (tkN tp tl (tkN tp tl (tkN tp tl (tkN tp tl (tkN tp tl fr))))))) then hVal tp tl (tkN tp tl (tkN tp tl (tkN tp tl (tkN tp tl (tkN tp tl (tkN tp tl (tkN tp tl fr))))))) else 0) dX4_personItem_190 (fun h => absurd (h.symm.trans e.1) (by decide)))
            · skip
              refine c_VV (As := [.int (nI 0), .int (nI 9)]) (st := []) hJ (ct_X4_number_f l g b kf fj mj tl (tkN tp tl (tkN tp tl (tkN tp tl (tkN tp tl fr)))) (hVal tp tl (tkN tp tl (tkN tp tl fr))) false (vJoin m kd (hVal tp tl (tkN tp tl (tkN tp tl fr)))) th ai ct ks ot tp sb sz nu mo 0 9 ht htp (tkN_le (tkN_le (tkN_le (tkN_le hq)))) (by decide) (by decide) cN85) (Fr.all mw_map) mv_X4_number ml_X4_252 0 rfl rfl rfl (kRm_ok (by decide) (by decide)) rfl rfl (Nat.le_of_ble_eq_true rfl) dX4_personItem_85 ?_
              refine k_aload_n hJ dX4_personItem_88 0 rfl ?_
              refine gf_X4_7 (v := .ref (b 1)) hJ 0 rfl rfl dX4_personItem_89 ?_
              refine k_iload_n hJ dX4_personItem_92 2 rfl ?_
              refine k_iconst (v := nI 2) hJ dX4_personItem_93 (by decide) ?_
              refine c_SI (As := [.int (nI (m 0)), .int (nI 2)]) (st := [.ref (b 1)]) hJ (ct_X4_spot l g (m 0) 2 ) Fr.none ms_X4_spot ml_X4_57 (kRm_ok (by decide) (by decide)) rfl rfl (Nat.le_of_ble_eq_true rfl) dX4_personItem_94 ?_
              refine k_aload_n hJ dX4_personItem_97 0 rfl ?_
              refine gf_X4_227 (v := .int (nI (if bD tp tl (tkN tp tl (tkN tp tl (tkN tp tl (tkN tp tl fr)))) then hVal tp tl (tkN tp tl (tkN tp tl (tkN tp tl (tkN tp tl fr)))) else 0))) hJ 0 rfl rfl dX4_personItem_98 ?_
              refine k_iast (ws2 := modW g b (mE kf fj mj tl (tkN tp tl (tkN tp tl (tkN tp tl (tkN tp tl fr)))) (tkE tp tl (tkN tp tl (tkN tp tl (tkN tp tl (tkN tp tl fr))))) (if bD tp tl (tkN tp tl (tkN tp tl (tkN tp tl (tkN tp tl fr)))) then hVal tp tl (tkN tp tl (tkN tp tl (tkN tp tl (tkN tp tl fr)))) else 0) true) (vUp (vJoin m kd (hVal tp tl (tkN tp tl (tkN tp tl fr)))) (4 + 10 * (m 0) + 2) (if bD tp tl (tkN tp tl (tkN tp tl (tkN tp tl (tkN tp tl fr)))) then hVal tp tl (tkN tp tl (tkN tp tl (tkN tp tl (tkN tp tl fr)))) else 0)) th ai ct ks ot tp sb sz nu mo) hJ 1 rfl (4 + 10 * (m 0) + 2) (by omega) (by decide) (mw_s (v := (if bD tp tl (tkN tp tl (tkN tp tl (tkN tp tl (tkN tp tl fr)))) then hVal tp tl (tkN tp tl (tkN tp tl (tkN tp tl (tkN tp tl fr)))) else 0))) dX4_personItem_101 ?_
              refine k_aload_n hJ dX4_personItem_102 0 rfl ?_
              refine c_VL (As := []) (st := []) hJ (ct_X4_word l g b kf fj mj tl (tkN tp tl (tkN tp tl (tkN tp tl (tkN tp tl fr)))) (if bD tp tl (tkN tp tl (tkN tp tl (tkN tp tl (tkN tp tl fr)))) then hVal tp tl (tkN tp tl (tkN tp tl (tkN tp tl (tkN tp tl fr)))) else 0) true (vUp (vJoin m kd (hVal tp tl (tkN tp tl (tkN tp tl fr)))) (4 + 10 * (m 0) + 2) (if bD tp tl (tkN tp tl (tkN tp tl (tkN tp tl (tkN tp tl fr)))) then hVal tp tl (tkN tp tl (tkN tp tl (tkN tp tl (tkN tp tl fr)))) else 0)) th ai ct ks ot tp sb sz nu mo ht htp (tkN_le (tkN_le (tkN_le (tkN_le hq))))) (Fr.all mw_map) mv_X4_word ml_X4_234 0 rfl rfl rfl (kRm_ok (by decide) (by decide)) rfl rfl (Nat.le_of_ble_eq_true rfl) dX4_personItem_103 ?_
              show J (modW g b (mE kf fj mj tl (tkN tp tl (tkN tp tl (tkN tp tl (tkN tp tl fr)))) (tkE tp tl (tkN tp tl (tkN tp tl (tkN tp tl (tkN tp tl fr))))) (if bD tp tl (tkN tp tl (tkN tp tl (tkN tp tl (tkN tp tl fr)))) then hVal tp tl (tkN tp tl (tkN tp tl (tkN tp tl (tkN tp tl fr)))) else 0) true) (vUp (vJoin m kd (hVal tp tl (tkN tp tl (tkN tp tl fr)))) (4 + 10 * (m 0) + 2) (if bD tp tl (tkN tp tl (tkN tp tl (tkN tp tl (tkN tp tl fr)))) then hVal tp tl (tkN tp tl (tkN tp tl (tkN tp tl (tkN tp tl fr)))) else 0)) th ai ct ks ot tp sb sz nu mo) [(0, .ref (b 0)), (1, .int (nI kd)), (2, .int (nI (m 0)))] 106 [.long 0]
              refine k_ldc2 hJ dX4_personItem_106 cw_X4_257 ?_
              refine k_lcmp hJ dX4_personItem_109 ?_
              refine k_if_ne (tgt := 129) hJ dX4_personItem_110 (by decide) (fun c110 => ?_) (fun c110 => ?_)
              · refine k_aload_n hJ dX4_personItem_129 0 rfl ?_
                refine c_VL (As := []) (st := []) hJ (ct_X4_word l g b kf fj mj tl (tkN tp tl (tkN tp tl (tkN tp tl (tkN tp tl fr)))) (if bD tp tl (tkN tp tl (tkN tp tl (tkN tp tl (tkN tp tl fr)))) then hVal tp tl (tkN tp tl (tkN tp tl (tkN tp tl (tkN tp tl fr)))) else 0) true (vUp (vJoin m kd (hVal tp tl (tkN tp tl (tkN tp tl fr)))) (4 + 10 * (m 0) + 2) (if bD tp tl (tkN tp tl (tkN tp tl (tkN tp tl (tkN tp tl fr)))) then hVal tp tl (tkN tp tl (tkN tp tl (tkN tp tl (tkN tp tl fr)))) else 0)) th ai ct ks ot tp sb sz nu mo ht htp (tkN_le (tkN_le (tkN_le (tkN_le hq))))) (Fr.all mw_map) mv_X4_word ml_X4_234 0 rfl rfl rfl (kRm_ok (by decide) (by decide)) rfl rfl (Nat.le_of_ble_eq_true rfl) dX4_personItem_130 ?_
                show J (modW g b (mE kf fj mj tl (tkN tp tl (tkN tp tl (tkN tp tl (tkN tp tl fr)))) (tkE tp tl (tkN tp tl (tkN tp tl (tkN tp tl (tkN tp tl fr))))) (if bD tp tl (tkN tp tl (tkN tp tl (tkN tp tl (tkN tp tl fr)))) then hVal tp tl (tkN tp tl (tkN tp tl (tkN tp tl (tkN tp tl fr)))) else 0) true) (vUp (vJoin m kd (hVal tp tl (tkN tp tl (tkN tp tl fr)))) (4 + 10 * (m 0) + 2) (if bD tp tl (tkN tp tl (tkN tp tl (tkN tp tl (tkN tp tl fr)))) then hVal tp tl (tkN tp tl (tkN tp tl (tkN tp tl (tkN tp tl fr)))) else 0)) th ai ct ks ot tp sb sz nu mo) [(0, .ref (b 0)), (1, .int (nI kd)), (2, .int (nI (m 0)))] 133 [.long 0]
                refine k_ldc2 hJ dX4_personItem_133 cw_X4_259 ?_
                refine k_lcmp hJ dX4_personItem_136 ?_
                refine k_if_ne (tgt := 190) hJ dX4_personItem_137 (by decide) (fun c137 => ?_) (fun c137 => ?_)
                · have e := p3_1 (hPe_ok (kd := kd) (show m 0 < 8 by omega) c29 cN44 (hP2_f (hNo_f c73 cN85)))
                  exact k_eqw (ws2 := modW g b (mE kf fj mj tl ((hPe tp tl kd fr m).2.1) (tkE tp tl (hPe tp tl kd fr m).2.1) (if bD tp tl (tkN tp tl (tkN tp tl (tkN tp tl (tkN tp tl fr)))) then hVal tp tl (tkN tp tl (tkN tp tl (tkN tp tl (tkN tp tl fr)))) else 0) (!(hPe tp tl kd fr m).1)) (vUp (vJoin m kd (hVal tp tl (tkN tp tl (tkN tp tl fr)))) (4 + 10 * (m 0) + 2) (if bD tp tl (tkN tp tl (tkN tp tl (tkN tp tl (tkN tp tl fr)))) then hVal tp tl (tkN tp tl (tkN tp tl (tkN tp tl (tkN tp tl fr)))) else 0)) th ai ct ks ot tp sb sz nu mo) (by rw [e.1, e.2.1]; first | done | rfl) (hR _ _ () (vUp (vJoin m kd (hVal tp tl (tkN tp tl (tkN tp tl fr)))) (4 + 10 * (m 0) + 2) (if bD tp tl (tkN tp tl (tkN tp tl (tkN tp tl (tkN tp tl fr)))) then hVal tp tl (tkN tp tl (tkN tp tl (tkN tp tl (tkN tp tl fr)))) else 0), if bD tp tl (tkN tp tl (tkN tp tl (tkN tp tl (tkN tp tl fr)))) then hVal tp tl (tkN tp tl (tkN tp tl (tkN tp tl (tkN tp tl fr)))) else 0) dX4_personItem_190 (fun h => absurd (h.symm.trans e.1) (by decide)))
                · exact absurd c137 (by decide)
              · exact absurd c110 (by decide)
        · exact absurd c51 (by decide)
      · skip
        refine c_VV (As := [.int (nI 0), .int (nI 47)]) (st := []) hJ (ct_X4_number_f l g b kf fj mj tl (tkN tp tl (tkN tp tl fr)) va false m th ai ct ks ot tp sb sz nu mo 0 47 ht htp (tkN_le (tkN_le hq)) (by decide) (by decide) cN44) (Fr.all mw_map) mv_X4_number ml_X4_252 0 rfl rfl rfl (kRm_ok (by decide) (by decide)) rfl rfl (Nat.le_of_ble_eq_true rfl) dX4_personItem_44 ?_
        refine k_aload_n hJ dX4_personItem_47 0 rfl ?_
        refine gf_X4_216 (v := .int (kb true)) hJ 0 rfl rfl dX4_personItem_48 ?_
        refine b_if_eq (tgt := 55) hJ dX4_personItem_51 (by decide) (fun c51 => ?_) (fun c51 => ?_)
        · exact absurd c51 (by decide)
        · have e := p3_1 (hPe_p (kd := kd) (show m 0 < 8 by omega) c29 cN44)
          exact k_eqw (ws2 := modW g b (mE kf fj mj tl ((hPe tp tl kd fr m).2.1) (tkE tp tl (hPe tp tl kd fr m).2.1) (if bD tp tl (tkN tp tl (tkN tp tl fr)) then hVal tp tl (tkN tp tl (tkN tp tl fr)) else 0) (!(hPe tp tl kd fr m).1)) m th ai ct ks ot tp sb sz nu mo) (by rw [e.1, e.2.1]; first | done | rfl) (hR _ _ () (m, if bD tp tl (tkN tp tl (tkN tp tl fr)) then hVal tp tl (tkN tp tl (tkN tp tl fr)) else 0) dX4_personItem_54 (fun h => absurd (h.symm.trans e.1) (by decide)))
set_option maxHeartbeats 4000000 in
set_option maxRecDepth 100000 in
theorem ct_X4_item (l : Launch) (g : KG) (b : Nat → Nat) (kf : Bool) (fj : Int32) (mj tl fr va : Nat) (m : Nat → Nat) (th ai ct ks ot : Nat → Int32) (tp sb sz : Nat → Nat) (nu : Nat → Nat → Int64) (mo : Nat → Int64)  (ht : tl ≤ 120) (htp : ∀ i, tp i < 256) (hq : fr ≤ tl) (hm0 : m 0 ≤ 8) : CT l yX4_item cX4_item 4 none (rmK 6) g [.ref (b 0)] (modW g b (mE kf fj mj tl fr (tkE tp tl fr) va false) m th ai ct ks ot tp sb sz nu mo) (S := (Nat → Nat) × Nat) oV (fun _ u => (hIt tp tl fr m).1 = true → u.1 = (hIt tp tl fr m).2.2) (fun u => modW g b (mE kf fj mj tl ((hIt tp tl fr m).2.1) (tkE tp tl (hIt tp tl fr m).2.1) u.2 (!(hIt tp tl fr m).1)) u.1 th ai ct ks ot tp sb sz nu mo) := by
  refine k_bodyV (by decide) (Nat.le_of_ble_eq_true rfl) (fun J hJ hR => ?_)
  show J (modW g b (mE kf fj mj tl fr (tkE tp tl fr) va false) m th ai ct ks ot tp sb sz nu mo) [(0, .ref (b 0))] 0 []
  refine k_aload_n hJ dX4_item_0 0 rfl ?_
  refine c_VI (As := []) (st := []) hJ (ct_X4_kindHere l g b kf fj mj tl fr va false m th ai ct ks ot tp sb sz nu mo ht htp hq) (Fr.all mw_map) mv_X4_kindHere ml_X4_261 0 rfl rfl rfl (kRm_ok (by decide) (by decide)) rfl rfl (Nat.le_of_ble_eq_true rfl) dX4_item_1 ?_
  refine k_istore_n (lv1 := [(0, .ref (b 0)), (1, .int (kOpt (hKd tp tl fr)))]) hJ dX4_item_4 (by decide) [1, 0] rfl ?_
  refine k_aload_n hJ dX4_item_5 0 rfl ?_
  refine c_VL (As := []) (st := []) hJ (ct_X4_word l g b kf fj mj tl fr va false m th ai ct ks ot tp sb sz nu mo ht htp hq) (Fr.all mw_map) mv_X4_word ml_X4_234 0 rfl rfl rfl (kRm_ok (by decide) (by decide)) rfl rfl (Nat.le_of_ble_eq_true rfl) dX4_item_6 ?_
  show J (modW g b (mE kf fj mj tl fr (tkE tp tl fr) va false) m th ai ct ks ot tp sb sz nu mo) [(0, .ref (b 0)), (1, .int (kOpt (hKd tp tl fr)))] 9 [.long (kWo tp tl fr)]
  refine k_lstore_n (lv1 := [(0, .ref (b 0)), (1, .int (kOpt (hKd tp tl fr))), (2, .long (kWo tp tl fr))]) hJ dX4_item_9 (by decide) [1, 2, 0] rfl ?_
  rcases hO : hKd tp tl fr with _ | kd
  · show J (modW g b (mE kf fj mj tl fr (tkE tp tl fr) va false) m th ai ct ks ot tp sb sz nu mo) [(0, .ref (b 0)), (1, .int (-1)), (2, .long (kWo tp tl fr))] 10 []
    refine k_iload_n hJ dX4_item_10 1 rfl ?_
    refine k_if_lt (tgt := 22) hJ dX4_item_11 (by decide) (fun c11 => ?_) (fun c11 => ?_)
    · refine k_lload_n hJ dX4_item_22 2 rfl ?_
      refine k_ldc2 hJ dX4_item_23 cw_X4_267 ?_
      refine k_lcmp hJ dX4_item_26 ?_
      refine k_if_ne (tgt := 70) hJ dX4_item_27 (by decide) (fun c27 => ?_) (fun c27 => ?_)
      · have c27 : ¬ hW tp tl wWi fr = true := fun q => c27 (lg_eq.mpr ((kWo_wWi htp).mpr q))
        refine k_aload_n hJ dX4_item_70 0 rfl ?_
        refine k_lload_n hJ dX4_item_71 2 rfl ?_
        refine k_ldc2 hJ dX4_item_72 cw_X4_269 ?_
        refine k_lcmp hJ dX4_item_75 ?_
        refine k_if_ne (tgt := 83) hJ dX4_item_76 (by decide) (fun c76 => ?_) (fun c76 => ?_)
        · have c76 : ¬ hW tp tl wDu fr = true := fun q => c76 (lg_eq.mpr ((kWo_wDu htp).mpr q))
          refine k_iconst (v := nI 0) hJ dX4_item_83 (by decide) ?_
          refine c_VV (As := [.int (nI 0)]) (st := []) hJ (ct_X4_must_f l g b kf fj mj tl fr va false m th ai ct ks ot tp sb sz nu mo) (Fr.all mw_map) mv_X4_must ml_X4_230 0 rfl rfl rfl (kRm_ok (by decide) (by decide)) rfl rfl (Nat.le_of_ble_eq_true rfl) dX4_item_84 ?_
          refine k_aload_n hJ dX4_item_87 0 rfl ?_
          refine k_iconst (v := nI 1) hJ dX4_item_88 (by decide) ?_
          refine k_bipush (v := nI 99) hJ dX4_item_89 (by decide) ?_
          refine c_VV (As := [.int (nI 1), .int (nI 99)]) (st := []) hJ (ct_X4_number_w l g b kf fj mj tl fr va true m th ai ct ks ot tp sb sz nu mo 1 99) (Fr.all mw_map) mv_X4_number ml_X4_252 0 rfl rfl rfl (kRm_ok (by decide) (by decide)) rfl rfl (Nat.le_of_ble_eq_true rfl) dX4_item_91 ?_
          refine k_aload_n hJ dX4_item_94 0 rfl ?_
          refine gf_X4_7 (v := .ref (b 1)) hJ 0 rfl rfl dX4_item_95 ?_
          refine k_iconst (v := nI 3) hJ dX4_item_98 (by decide) ?_
          refine k_aload_n hJ dX4_item_99 0 rfl ?_
          refine gf_X4_216 (v := .int (kb true)) hJ 0 rfl rfl dX4_item_100 ?_
          refine b_if_eq (tgt := 115) hJ dX4_item_103 (by decide) (fun c103 => ?_) (fun c103 => ?_)
          · exact absurd c103 (by decide)
          · refine k_aload_n hJ dX4_item_106 0 rfl ?_
            refine gf_X4_7 (v := .ref (b 1)) hJ 0 rfl rfl dX4_item_107 ?_
            refine k_iconst (v := nI 3) hJ dX4_item_110 (by decide) ?_
            refine k_iald hJ 1 rfl 3 (by omega) (by decide) rfl dX4_item_111 ?_
            refine k_goto (tgt := 119) hJ dX4_item_112 (by decide) ?_
            refine k_iast (ws2 := modW g b (mE kf fj mj tl fr (tkE tp tl fr) va true) (vUp m 3 (m 3)) th ai ct ks ot tp sb sz nu mo) hJ 1 rfl 3 (by omega) (by decide) (mw_s (v := (m 3))) dX4_item_119 ?_
            have e := p3_1 (hIt_no (m := m) hO c27 c76)
            exact k_eqw (ws2 := modW g b (mE kf fj mj tl ((hIt tp tl fr m).2.1) (tkE tp tl (hIt tp tl fr m).2.1) va (!(hIt tp tl fr m).1)) (vUp m 3 (m 3)) th ai ct ks ot tp sb sz nu mo) (by rw [e.1, e.2.1]; first | done | rfl) (hR _ _ () (vUp m 3 (m 3), va) dX4_item_120 (fun h => absurd (h.symm.trans e.1) (by decide)))
        · have c76 : hW tp tl wDu fr = true := (kWo_wDu htp).mp (lg_eq.mp c76)
          refine k_iconst (v := nI 1) hJ dX4_item_79 (by decide) ?_
          refine k_goto (tgt := 84) hJ dX4_item_80 (by decide) ?_
          refine c_VV (As := [.int (nI 1)]) (st := []) hJ (ct_X4_must_t l g b kf fj mj tl fr va false m th ai ct ks ot tp sb sz nu mo ht htp hq) (Fr.all mw_map) mv_X4_must ml_X4_230 0 rfl rfl rfl (kRm_ok (by decide) (by decide)) rfl rfl (Nat.le_of_ble_eq_true rfl) dX4_item_84 ?_
          refine k_aload_n hJ dX4_item_87 0 rfl ?_
          refine k_iconst (v := nI 1) hJ dX4_item_88 (by decide) ?_
          refine k_bipush (v := nI 99) hJ dX4_item_89 (by decide) ?_
          rcases Bool.eq_false_or_eq_true (hNum tp tl 1 99 (tkN tp tl fr)) with cN91 | cN91
          · have hv91 := hNum_v cN91
            refine c_VV (As := [.int (nI 1), .int (nI 99)]) (st := []) hJ (ct_X4_number_t l g b kf fj mj tl (tkN tp tl fr) va false m th ai ct ks ot tp sb sz nu mo 1 99 ht htp (tkN_le hq) (by decide) (by decide) cN91) (Fr.all mw_map) mv_X4_number ml_X4_252 0 rfl rfl rfl (kRm_ok (by decide) (by decide)) rfl rfl (Nat.le_of_ble_eq_true rfl) dX4_item_91 ?_
            refine k_aload_n hJ dX4_item_94 0 rfl ?_
            refine gf_X4_7 (v := .ref (b 1)) hJ 0 rfl rfl dX4_item_95 ?_
            refine k_iconst (v := nI 3) hJ dX4_item_98 (by decide) ?_
            refine k_aload_n hJ dX4_item_99 0 rfl ?_
            refine gf_X4_216 (v := .int (kb false)) hJ 0 rfl rfl dX4_item_100 ?_
            refine b_if_eq (tgt := 115) hJ dX4_item_103 (by decide) (fun c103 => ?_) (fun c103 => ?_)
            · refine k_aload_n hJ dX4_item_115 0 rfl ?_
              refine gf_X4_227 (v := .int (nI (hVal tp tl (tkN tp tl fr)))) hJ 0 rfl rfl dX4_item_116 ?_
              refine k_iast (ws2 := modW g b (mE kf fj mj tl (tkN tp tl (tkN tp tl fr)) (tkE tp tl (tkN tp tl (tkN tp tl fr))) (hVal tp tl (tkN tp tl fr)) false) (vUp m 3 (hVal tp tl (tkN tp tl fr))) th ai ct ks ot tp sb sz nu mo) hJ 1 rfl 3 (by omega) (by decide) (mw_s (v := (hVal tp tl (tkN tp tl fr)))) dX4_item_119 ?_
              have e := p3_1 (hIt_dt (m := m) hO c27 c76 cN91)
              exact k_eqw (ws2 := modW g b (mE kf fj mj tl ((hIt tp tl fr m).2.1) (tkE tp tl (hIt tp tl fr m).2.1) (hVal tp tl (tkN tp tl fr)) (!(hIt tp tl fr m).1)) (vUp m 3 (hVal tp tl (tkN tp tl fr))) th ai ct ks ot tp sb sz nu mo) (by rw [e.1, e.2.1]; first | done | rfl) (hR _ _ () (vUp m 3 (hVal tp tl (tkN tp tl fr)), hVal tp tl (tkN tp tl fr)) dX4_item_120 (fun _ => e.2.2.symm))
            · exact absurd c103 (by decide)
          · skip
            refine c_VV (As := [.int (nI 1), .int (nI 99)]) (st := []) hJ (ct_X4_number_f l g b kf fj mj tl (tkN tp tl fr) va false m th ai ct ks ot tp sb sz nu mo 1 99 ht htp (tkN_le hq) (by decide) (by decide) cN91) (Fr.all mw_map) mv_X4_number ml_X4_252 0 rfl rfl rfl (kRm_ok (by decide) (by decide)) rfl rfl (Nat.le_of_ble_eq_true rfl) dX4_item_91 ?_
            refine k_aload_n hJ dX4_item_94 0 rfl ?_
            refine gf_X4_7 (v := .ref (b 1)) hJ 0 rfl rfl dX4_item_95 ?_
            refine k_iconst (v := nI 3) hJ dX4_item_98 (by decide) ?_
            refine k_aload_n hJ dX4_item_99 0 rfl ?_
            refine gf_X4_216 (v := .int (kb true)) hJ 0 rfl rfl dX4_item_100 ?_
            refine b_if_eq (tgt := 115) hJ dX4_item_103 (by decide) (fun c103 => ?_) (fun c103 => ?_)
            · exact absurd c103 (by decide)
            · refine k_aload_n hJ dX4_item_106 0 rfl ?_
              refine gf_X4_7 (v := .ref (b 1)) hJ 0 rfl rfl dX4_item_107 ?_
              refine k_iconst (v := nI 3) hJ dX4_item_110 (by decide) ?_
              refine k_iald hJ 1 rfl 3 (by omega) (by decide) rfl dX4_item_111 ?_
              refine k_goto (tgt := 119) hJ dX4_item_112 (by decide) ?_
              refine k_iast (ws2 := modW g b (mE kf fj mj tl (tkN tp tl fr) (tkE tp tl (tkN tp tl fr)) (if bD tp tl (tkN tp tl fr) then hVal tp tl (tkN tp tl fr) else 0) true) (vUp m 3 (m 3)) th ai ct ks ot tp sb sz nu mo) hJ 1 rfl 3 (by omega) (by decide) (mw_s (v := (m 3))) dX4_item_119 ?_
              have e := p3_1 (hIt_df (m := m) hO c27 c76 cN91)
              exact k_eqw (ws2 := modW g b (mE kf fj mj tl ((hIt tp tl fr m).2.1) (tkE tp tl (hIt tp tl fr m).2.1) (if bD tp tl (tkN tp tl fr) then hVal tp tl (tkN tp tl fr) else 0) (!(hIt tp tl fr m).1)) (vUp m 3 (m 3)) th ai ct ks ot tp sb sz nu mo) (by rw [e.1, e.2.1]; first | done | rfl) (hR _ _ () (vUp m 3 (m 3), if bD tp tl (tkN tp tl fr) then hVal tp tl (tkN tp tl fr) else 0) dX4_item_120 (fun h => absurd (h.symm.trans e.1) (by decide)))
      · have c27 : hW tp tl wWi fr = true := (kWo_wWi htp).mp (lg_eq.mp c27)
        refine k_aload_n hJ dX4_item_30 0 rfl ?_
        refine k_iconst (v := nI 1) hJ dX4_item_31 (by decide) ?_
        refine c_VV (As := [.int (nI 1)]) (st := []) hJ (ct_X4_must_t l g b kf fj mj tl fr va false m th ai ct ks ot tp sb sz nu mo ht htp hq) (Fr.all mw_map) mv_X4_must ml_X4_230 0 rfl rfl rfl (kRm_ok (by decide) (by decide)) rfl rfl (Nat.le_of_ble_eq_true rfl) dX4_item_32 ?_
        refine k_aload_n hJ dX4_item_35 0 rfl ?_
        refine k_iconst (v := nI 0) hJ dX4_item_36 (by decide) ?_
        refine k_iconst (v := nI 4) hJ dX4_item_37 (by decide) ?_
        rcases Bool.eq_false_or_eq_true (hNum tp tl 0 4 (tkN tp tl fr)) with cN38 | cN38
        · have hv38 := hNum_v cN38
          refine c_VV (As := [.int (nI 0), .int (nI 4)]) (st := []) hJ (ct_X4_number_t l g b kf fj mj tl (tkN tp tl fr) va false m th ai ct ks ot tp sb sz nu mo 0 4 ht htp (tkN_le hq) (by decide) (by decide) cN38) (Fr.all mw_map) mv_X4_number ml_X4_252 0 rfl rfl rfl (kRm_ok (by decide) (by decide)) rfl rfl (Nat.le_of_ble_eq_true rfl) dX4_item_38 ?_
          refine k_aload_n hJ dX4_item_41 0 rfl ?_
          refine gf_X4_7 (v := .ref (b 1)) hJ 0 rfl rfl dX4_item_42 ?_
          refine k_iconst (v := nI 2) hJ dX4_item_45 (by decide) ?_
          refine k_aload_n hJ dX4_item_46 0 rfl ?_
          refine gf_X4_216 (v := .int (kb false)) hJ 0 rfl rfl dX4_item_47 ?_
          refine b_if_eq (tgt := 62) hJ dX4_item_50 (by decide) (fun c50 => ?_) (fun c50 => ?_)
          · refine k_aload_n hJ dX4_item_62 0 rfl ?_
            refine gf_X4_227 (v := .int (nI (hVal tp tl (tkN tp tl fr)))) hJ 0 rfl rfl dX4_item_63 ?_
            refine k_iast (ws2 := modW g b (mE kf fj mj tl (tkN tp tl (tkN tp tl fr)) (tkE tp tl (tkN tp tl (tkN tp tl fr))) (hVal tp tl (tkN tp tl fr)) false) (vUp m 2 (hVal tp tl (tkN tp tl fr))) th ai ct ks ot tp sb sz nu mo) hJ 1 rfl 2 (by omega) (by decide) (mw_s (v := (hVal tp tl (tkN tp tl fr)))) dX4_item_66 ?_
            refine k_goto (tgt := 120) hJ dX4_item_67 (by decide) ?_
            have e := p3_1 (hIt_wt (m := m) hO c27 cN38)
            exact k_eqw (ws2 := modW g b (mE kf fj mj tl ((hIt tp tl fr m).2.1) (tkE tp tl (hIt tp tl fr m).2.1) (hVal tp tl (tkN tp tl fr)) (!(hIt tp tl fr m).1)) (vUp m 2 (hVal tp tl (tkN tp tl fr))) th ai ct ks ot tp sb sz nu mo) (by rw [e.1, e.2.1]; first | done | rfl) (hR _ _ () (vUp m 2 (hVal tp tl (tkN tp tl fr)), hVal tp tl (tkN tp tl fr)) dX4_item_120 (fun _ => e.2.2.symm))
          · exact absurd c50 (by decide)
        · skip
          refine c_VV (As := [.int (nI 0), .int (nI 4)]) (st := []) hJ (ct_X4_number_f l g b kf fj mj tl (tkN tp tl fr) va false m th ai ct ks ot tp sb sz nu mo 0 4 ht htp (tkN_le hq) (by decide) (by decide) cN38) (Fr.all mw_map) mv_X4_number ml_X4_252 0 rfl rfl rfl (kRm_ok (by decide) (by decide)) rfl rfl (Nat.le_of_ble_eq_true rfl) dX4_item_38 ?_
          refine k_aload_n hJ dX4_item_41 0 rfl ?_
          refine gf_X4_7 (v := .ref (b 1)) hJ 0 rfl rfl dX4_item_42 ?_
          refine k_iconst (v := nI 2) hJ dX4_item_45 (by decide) ?_
          refine k_aload_n hJ dX4_item_46 0 rfl ?_
          refine gf_X4_216 (v := .int (kb true)) hJ 0 rfl rfl dX4_item_47 ?_
          refine b_if_eq (tgt := 62) hJ dX4_item_50 (by decide) (fun c50 => ?_) (fun c50 => ?_)
          · exact absurd c50 (by decide)
          · refine k_aload_n hJ dX4_item_53 0 rfl ?_
            refine gf_X4_7 (v := .ref (b 1)) hJ 0 rfl rfl dX4_item_54 ?_
            refine k_iconst (v := nI 2) hJ dX4_item_57 (by decide) ?_
            refine k_iald hJ 1 rfl 2 (by omega) (by decide) rfl dX4_item_58 ?_
            refine k_goto (tgt := 66) hJ dX4_item_59 (by decide) ?_
            refine k_iast (ws2 := modW g b (mE kf fj mj tl (tkN tp tl fr) (tkE tp tl (tkN tp tl fr)) (if bD tp tl (tkN tp tl fr) then hVal tp tl (tkN tp tl fr) else 0) true) (vUp m 2 (m 2)) th ai ct ks ot tp sb sz nu mo) hJ 1 rfl 2 (by omega) (by decide) (mw_s (v := (m 2))) dX4_item_66 ?_
            refine k_goto (tgt := 120) hJ dX4_item_67 (by decide) ?_
            have e := p3_1 (hIt_wf (m := m) hO c27 cN38)
            exact k_eqw (ws2 := modW g b (mE kf fj mj tl ((hIt tp tl fr m).2.1) (tkE tp tl (hIt tp tl fr m).2.1) (if bD tp tl (tkN tp tl fr) then hVal tp tl (tkN tp tl fr) else 0) (!(hIt tp tl fr m).1)) (vUp m 2 (m 2)) th ai ct ks ot tp sb sz nu mo) (by rw [e.1, e.2.1]; first | done | rfl) (hR _ _ () (vUp m 2 (m 2), if bD tp tl (tkN tp tl fr) then hVal tp tl (tkN tp tl fr) else 0) dX4_item_120 (fun h => absurd (h.symm.trans e.1) (by decide)))
    · exact absurd (by decide) c11
  · show J (modW g b (mE kf fj mj tl fr (tkE tp tl fr) va false) m th ai ct ks ot tp sb sz nu mo) [(0, .ref (b 0)), (1, .int (nI kd)), (2, .long (kWo tp tl fr))] 10 []
    have hkd := (hKd_at hO).2
    refine k_iload_n hJ dX4_item_10 1 rfl ?_
    refine n_if_lt (tgt := 22) hJ dX4_item_11 (by decide) (by omega) (fun c11 => ?_) (fun c11 => ?_)
    · exact absurd c11 (by omega)
    · refine k_aload_n hJ dX4_item_14 0 rfl ?_
      refine k_iload_n hJ dX4_item_15 1 rfl ?_
      refine k_callV (As := [.int (nI kd)]) (st := []) hJ (ct_X4_personItem l g b kf fj mj tl fr va m th ai ct ks ot tp sb sz nu mo kd ht htp hq hm0) (fun _ => Fr.all mw_map) mv_X4_personItem ml_X4_264 0 rfl rfl rfl (kRm_ok (by decide) (by decide)) rfl rfl (Nat.le_of_ble_eq_true rfl) dX4_item_16 (fun _ u hu => ?_)
      refine k_goto (tgt := 120) hJ dX4_item_19 (by decide) ?_
      have e : hIt tp tl fr m = hPe tp tl kd fr m := by unfold hIt; rw [hO]
      exact k_eqw (ws2 := modW g b (mE kf fj mj tl ((hIt tp tl fr m).2.1) (tkE tp tl (hIt tp tl fr m).2.1) u.2 (!(hIt tp tl fr m).1)) u.1 th ai ct ks ot tp sb sz nu mo) (by rw [e]) (hR _ _ () u dX4_item_120 (by rw [e]; exact hu))
