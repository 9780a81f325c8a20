set_option maxHeartbeats 4000000 in
set_option maxRecDepth 100000 in
theorem ct_X2_takesPerson (l : Launch) (g : KG) (a aT : Nat → Nat) (t : Nat → Nat) (lt : Nat → Int32) (tp : Nat → Nat) (tl q va : Nat)  (ht : tl ≤ 120) (htp : ∀ i, tp i < 256) (hq : q ≤ tl) (h0 : t 0 ≤ 8) : CT l yX2_takesPerson cX2_takesPerson 4 (some .int) (rmK 8) g [.ref (a 2), .ref (aT 0)] (hallW g aT t lt ++ tapW g a tp tl (tkE tp tl q) (tkK tp tl q) q va) (S := Nat) oI (fun r _ => r = if (hPj tp tl q t).1 then nI (t 0) else (-1 : Int32)) (fun u => hallW g aT ((hPj tp tl q t).2.2) lt ++ tapW g a tp tl (tkE tp tl ((hPj tp tl q t).2.1)) (tkK tp tl ((hPj tp tl q t).2.1)) ((hPj tp tl q t).2.1) u) := by
  refine k_bodyI (by decide) (Nat.le_of_ble_eq_true rfl) (fun _ _ _ => rfl) (fun J hJ hR => ?_)
  show J (hallW g aT t lt ++ tapW g a tp tl (tkE tp tl q) (tkK tp tl q) q va) [(0, .ref (a 2)), (1, .ref (aT 0))] 0 []
  refine k_aload_n hJ dX2_takesPerson_0 0 rfl ?_
  refine c_VI (As := []) (st := []) hJ (ct_X2_kindNamed l g a tp tl q va ht htp hq) tt_frt mv_X2_kindNamed ml_X2_77 13 rfl rfl rfl (kRm_ok (by decide) (by decide)) rfl rfl (Nat.le_of_ble_eq_true rfl) dX2_takesPerson_1 ?_
  refine k_istore_n (lv1 := [(0, .ref (a 2)), (1, .ref (aT 0)), (2, .int (kOpt (hKd tp tl q)))]) hJ dX2_takesPerson_4 (by decide) [1, 2, 0] rfl ?_
  rcases hO : hKd tp tl q with _ | kd
  · show J (hallW g aT t lt ++ tapW g a tp tl (tkE tp tl q) (tkK tp tl q) q va) [(0, .ref (a 2)), (1, .ref (aT 0)), (2, .int (-1))] 5 []
    refine k_iload_n hJ dX2_takesPerson_5 2 rfl ?_
    refine k_if_lt (tgt := 18) hJ dX2_takesPerson_6 (by decide) (fun c6 => ?_) (fun c6 => ?_)
    · refine k_iconst (v := (-1)) hJ dX2_takesPerson_18 (by decide) ?_
      have e : hPj tp tl q t = _ := hPj_n hO
      exact k_eqw (ws2 := hallW g aT ((hPj tp tl q t).2.2) lt ++ tapW g a tp tl (tkE tp tl ((hPj tp tl q t).2.1)) (tkK tp tl ((hPj tp tl q t).2.1)) ((hPj tp tl q t).2.1) va) (by rw [e]; first | done | rfl) (hR _ _ _ va dX2_takesPerson_19 (by rw [e]; first | done | rfl))
    · exact absurd (by decide) c6
  · show J (hallW g aT t lt ++ tapW g a tp tl (tkE tp tl q) (tkK tp tl q) q va) [(0, .ref (a 2)), (1, .ref (aT 0)), (2, .int (nI kd))] 5 []
    have hkd := (hKd_at hO).2
    refine k_iload_n hJ dX2_takesPerson_5 2 rfl ?_
    refine n_if_lt (tgt := 18) hJ dX2_takesPerson_6 (by decide) (by omega) (fun c6 => ?_) (fun c6 => ?_)
    · exact absurd c6 (by omega)
    · refine k_aload_n hJ dX2_takesPerson_9 1 rfl ?_
      refine gf_X2_81 (v := .int (nI (t 0))) hJ 0 rfl rfl dX2_takesPerson_10 ?_
      refine k_bipush (v := nI 8) hJ dX2_takesPerson_13 (by decide) ?_
      refine n_icmp_lt (tgt := 20) hJ dX2_takesPerson_15 (by decide) (by omega) (by omega) (fun c15 => ?_) (fun c15 => ?_)
      · refine k_aload_n hJ dX2_takesPerson_20 0 rfl ?_
        refine c_VV (As := []) (st := []) hJ (ct_X2_step l g a tp tl (tkE tp tl q) (tkK tp tl q) q va ht htp (tkE_le hq)) tt_frt mv_X2_step ml_X2_31 13 rfl rfl rfl (kRm_ok (by decide) (by decide)) rfl rfl (Nat.le_of_ble_eq_true rfl) dX2_takesPerson_21 ?_
        refine k_aload_n hJ dX2_takesPerson_24 0 rfl ?_
        refine k_ldcS hJ 2 rfl dX2_takesPerson_25 ?_
        refine c_VI (As := [.ref (g.2.2.1 2)]) (st := []) hJ (ct_X2_isWord l g a tp tl (tkN tp tl q) (vaN tp tl (tkN tp tl q) va) 2 ht htp (tkN_le hq) (by decide)) tt_frt mv_X2_isWord ml_X2_40 13 rfl rfl rfl (kRm_ok (by decide) (by decide)) rfl rfl (Nat.le_of_ble_eq_true rfl) dX2_takesPerson_27 ?_
        show J (hallW g aT t lt ++ tapW g a tp tl (tkE tp tl (tkN tp tl q)) (tkK tp tl (tkN tp tl q)) (tkN tp tl q) (vaN tp tl (tkN tp tl q) va)) [(0, .ref (a 2)), (1, .ref (aT 0)), (2, .int (nI kd))] 30 [.int (kb (hW tp tl wAt (tkN tp tl q)))]
        refine b_if_eq (tgt := 43) hJ dX2_takesPerson_30 (by decide) (fun c30 => ?_) (fun c30 => ?_)
        · refine k_iconst (v := (-1)) hJ dX2_takesPerson_43 (by decide) ?_
          have e : hPj tp tl q t = _ := hPj_s hO (hPk_a (show t 0 < 8 by omega) (Bool.eq_false_iff.mp c30))
          exact k_eqw (ws2 := hallW g aT ((hPj tp tl q t).2.2) lt ++ tapW g a tp tl (tkE tp tl ((hPj tp tl q t).2.1)) (tkK tp tl ((hPj tp tl q t).2.1)) ((hPj tp tl q t).2.1) (vaN tp tl (tkN tp tl q) va)) (by rw [e]; first | done | rfl) (hR _ _ _ (vaN tp tl (tkN tp tl q) va) dX2_takesPerson_44 (by rw [e]; first | done | rfl))
        · refine k_aload_n hJ dX2_takesPerson_33 0 rfl ?_
          refine k_iconst (v := nI 0) hJ dX2_takesPerson_34 (by decide) ?_
          refine k_bipush (v := nI 47) hJ dX2_takesPerson_35 (by decide) ?_
          refine c_VI (As := [.int (nI 0), .int (nI 47)]) (st := []) hJ (ct_X2_takesNumber l g a tp tl (tkN tp tl q) (vaN tp tl (tkN tp tl q) va) 0 47 ht htp (tkN_le hq) (by decide) (by decide)) tt_frt mv_X2_takesNumber ml_X2_67 13 rfl rfl rfl (kRm_ok (by decide) (by decide)) rfl rfl (Nat.le_of_ble_eq_true rfl) dX2_takesPerson_37 ?_
          refine b_if_ne (tgt := 45) hJ dX2_takesPerson_40 (by decide) (fun c40 => ?_) (fun c40 => ?_)
          · refine k_aload_n hJ dX2_takesPerson_45 1 rfl ?_
            refine k_iload_n hJ dX2_takesPerson_46 2 rfl ?_
            refine k_aload_n hJ dX2_takesPerson_47 0 rfl ?_
            refine gf_X2_28 (v := .int (nI (vaN tp tl (tkN tp tl (tkN tp tl q)) (vaN tp tl (tkN tp tl q) va)))) hJ 13 rfl rfl dX2_takesPerson_48 ?_
            refine k_eqs (st2 := [.int (nI (hVal tp tl (tkN tp tl (tkN tp tl q)))), .int (nI kd), .ref (aT 0)]) (by rw [vaN_t c40 (by decide)]) ?_
            refine c_VI (As := [.int (nI kd), .int (nI (hVal tp tl (tkN tp tl (tkN tp tl q))))]) (st := []) hJ (ct_X0_join l g aT t lt kd (hVal tp tl (tkN tp tl (tkN tp tl q))) (by omega)) tt_frH mv_X0_join ml_X2_86 0 rfl rfl rfl (kRm_ok (by decide) (by decide)) rfl rfl (Nat.le_of_ble_eq_true rfl) dX2_takesPerson_51 ?_
            refine k_istore_n (lv1 := [(0, .ref (a 2)), (1, .ref (aT 0)), (2, .int (nI kd)), (3, .int (nI (t 0)))]) hJ dX2_takesPerson_54 (by decide) [1, 2, 3, 0] rfl ?_
            refine k_aload_n hJ dX2_takesPerson_55 0 rfl ?_
            refine c_VV (As := []) (st := []) hJ (ct_X2_step l g a tp tl (tkE tp tl (tkN tp tl (tkN tp tl q))) (tkK tp tl (tkN tp tl (tkN tp tl q))) (tkN tp tl (tkN tp tl q)) (vaN tp tl (tkN tp tl (tkN tp tl q)) (vaN tp tl (tkN tp tl q) va)) ht htp (tkE_le (tkN_le (tkN_le hq)))) tt_frt mv_X2_step ml_X2_31 13 rfl rfl rfl (kRm_ok (by decide) (by decide)) rfl rfl (Nat.le_of_ble_eq_true rfl) dX2_takesPerson_56 ?_
            refine k_iload_n hJ dX2_takesPerson_59 3 rfl ?_
            have e : hPj tp tl q t = _ := hPj_s hO (hPk_ok (show t 0 < 8 by omega) c30 c40)
            exact k_eqw (ws2 := hallW g aT ((hPj tp tl q t).2.2) lt ++ tapW g a tp tl (tkE tp tl ((hPj tp tl q t).2.1)) (tkK tp tl ((hPj tp tl q t).2.1)) ((hPj tp tl q t).2.1) (vaN tp tl (tkN tp tl (tkN tp tl (tkN tp tl q))) (vaN tp tl (tkN tp tl (tkN tp tl q)) (vaN tp tl (tkN tp tl q) va)))) (by rw [e]; first | done | rfl) (hR _ _ _ (vaN tp tl (tkN tp tl (tkN tp tl (tkN tp tl q))) (vaN tp tl (tkN tp tl (tkN tp tl q)) (vaN tp tl (tkN tp tl q) va))) dX2_takesPerson_60 (by rw [e]; first | done | rfl))
          · refine k_iconst (v := (-1)) hJ dX2_takesPerson_43 (by decide) ?_
            have e : hPj tp tl q t = _ := hPj_s hO (hPk_p (show t 0 < 8 by omega) c30 c40)
            exact k_eqw (ws2 := hallW g aT ((hPj tp tl q t).2.2) lt ++ tapW g a tp tl (tkE tp tl ((hPj tp tl q t).2.1)) (tkK tp tl ((hPj tp tl q t).2.1)) ((hPj tp tl q t).2.1) (vaN tp tl (tkN tp tl (tkN tp tl q)) (vaN tp tl (tkN tp tl q) va))) (by rw [e]; first | done | rfl) (hR _ _ _ (vaN tp tl (tkN tp tl (tkN tp tl q)) (vaN tp tl (tkN tp tl q) va)) dX2_takesPerson_44 (by rw [e]; first | done | rfl))
      · refine k_iconst (v := (-1)) hJ dX2_takesPerson_18 (by decide) ?_
        have e : hPj tp tl q t = _ := hPj_s hO (hPk_8 (by omega))
        exact k_eqw (ws2 := hallW g aT ((hPj tp tl q t).2.2) lt ++ tapW g a tp tl (tkE tp tl ((hPj tp tl q t).2.1)) (tkK tp tl ((hPj tp tl q t).2.1)) ((hPj tp tl q t).2.1) va) (by rw [e]; first | done | rfl) (hR _ _ _ va dX2_takesPerson_19 (by rw [e]; first | done | rfl))
theorem hKd_w {tp : Nat → Nat} {tl q : Nat} (h : hW tp tl wWi q = true) : hKd tp tl q = none := by
  unfold hKd
  rw [hW_ne (v := wPe) h (Or.inl (by decide)), hW_ne (v := wCo) h (Or.inr ⟨0, by decide, by decide⟩), hW_ne (v := wBa) h (Or.inl (by decide)), hW_ne (v := wDo) h (Or.inl (by decide)), hW_ne (v := wPf) h (Or.inl (by decide)), hW_ne (v := wHo) h (Or.inl (by decide))]
  rfl
theorem hKd_d {tp : Nat → Nat} {tl q : Nat} (h : hW tp tl wDu q = true) : hKd tp tl q = none := by
  unfold hKd
  rw [hW_ne (v := wPe) h (Or.inl (by decide)), hW_ne (v := wCo) h (Or.inl (by decide)), hW_ne (v := wBa) h (Or.inl (by decide)), hW_ne (v := wDo) h (Or.inr ⟨1, by decide, by decide⟩), hW_ne (v := wPf) h (Or.inl (by decide)), hW_ne (v := wHo) h (Or.inl (by decide))]
  rfl
theorem hIt_x {tp : Nat → Nat} {tl q : Nat} {m : Nat → Nat} (h1 : ¬ hW tp tl wWi q = true) (h2 : ¬ hW tp tl wDu q = true) : hIt tp tl q m = hPx tp tl q m := by
  unfold hPx
  cases e : hKd tp tl q with
  | none => exact hIt_no e h1 h2
  | some kd => unfold hIt; rw [e]
set_option maxHeartbeats 4000000 in
set_option maxRecDepth 100000 in
theorem ct_X2_takesItem (l : Launch) (g : KG) (a aT : Nat → Nat) (t : Nat → Nat) (lt : Nat → Int32) (tp : Nat → Nat) (tl q va : Nat)  (ht : tl ≤ 120) (htp : ∀ i, tp i < 256) (hq : q ≤ tl) (h0 : t 0 ≤ 8) : CT l yX2_takesItem cX2_takesItem 3 (some .boolean) (rmK 9) g [.ref (a 2), .ref (aT 0)] (hallW g aT t lt ++ tapW g a tp tl (tkE tp tl q) (tkK tp tl q) q va) (S := Nat) oI (fun r _ => r = kb (hIt tp tl q t).1) (fun u => hallW g aT ((hIt tp tl q t).2.2) lt ++ tapW g a tp tl (tkE tp tl ((hIt tp tl q t).2.1)) (tkK tp tl ((hIt tp tl q t).2.1)) ((hIt tp tl q t).2.1) u) := by
  refine k_bodyI (by decide) (Nat.le_of_ble_eq_true rfl) (fun _ _ h => by rw [h]; exact kb_nar _) (fun J hJ hR => ?_)
  show J (hallW g aT t lt ++ tapW g a tp tl (tkE tp tl q) (tkK tp tl q) q va) [(0, .ref (a 2)), (1, .ref (aT 0))] 0 []
  refine k_aload_n hJ dX2_takesItem_0 0 rfl ?_
  refine k_ldcS hJ 0 rfl dX2_takesItem_1 ?_
  refine c_VI (As := [.ref (g.2.2.1 0)]) (st := []) hJ (ct_X2_isWord l g a tp tl q va 0 ht htp hq (by decide)) tt_frt mv_X2_isWord ml_X2_40 13 rfl rfl rfl (kRm_ok (by decide) (by decide)) rfl rfl (Nat.le_of_ble_eq_true rfl) dX2_takesItem_3 ?_
  show J (hallW g aT t lt ++ tapW g a tp tl (tkE tp tl q) (tkK tp tl q) q va) [(0, .ref (a 2)), (1, .ref (aT 0))] 6 [.int (kb (hW tp tl wWi q))]
  refine b_if_eq (tgt := 15) hJ dX2_takesItem_6 (by decide) (fun c6 => ?_) (fun c6 => ?_)
  · refine k_aload_n hJ dX2_takesItem_15 0 rfl ?_
    refine k_ldcS hJ 1 rfl dX2_takesItem_16 ?_
    refine c_VI (As := [.ref (g.2.2.1 1)]) (st := []) hJ (ct_X2_isWord l g a tp tl q va 1 ht htp hq (by decide)) tt_frt mv_X2_isWord ml_X2_40 13 rfl rfl rfl (kRm_ok (by decide) (by decide)) rfl rfl (Nat.le_of_ble_eq_true rfl) dX2_takesItem_18 ?_
    show J (hallW g aT t lt ++ tapW g a tp tl (tkE tp tl q) (tkK tp tl q) q va) [(0, .ref (a 2)), (1, .ref (aT 0))] 21 [.int (kb (hW tp tl wDu q))]
    refine b_if_eq (tgt := 30) hJ dX2_takesItem_21 (by decide) (fun c21 => ?_) (fun c21 => ?_)
    · refine k_aload_n hJ dX2_takesItem_30 0 rfl ?_
      refine k_aload_n hJ dX2_takesItem_31 1 rfl ?_
      refine k_callV (As := [.ref (aT 0)]) (st := []) hJ (ct_X2_takesPerson l g a aT t lt tp tl q va ht htp hq h0) (fun _ => Fr.all tt_map) mv_X2_takesPerson ml_X2_52 13 rfl rfl rfl (kRm_ok (by decide) (by decide)) rfl rfl (Nat.le_of_ble_eq_true rfl) dX2_takesItem_32 (fun r u hr => ?_)
      have hr : r = if (hPj tp tl q t).1 then nI (t 0) else (-1 : Int32) := hr
      show J (hallW g aT ((hPj tp tl q t).2.2) lt ++ tapW g a tp tl (tkE tp tl ((hPj tp tl q t).2.1)) (tkK tp tl ((hPj tp tl q t).2.1)) ((hPj tp tl q t).2.1) u) [(0, .ref (a 2)), (1, .ref (aT 0))] 35 [.int r]
      refine k_istore_n (lv1 := [(0, .ref (a 2)), (1, .ref (aT 0)), (2, .int r)]) hJ dX2_takesItem_35 (by decide) [1, 2, 0] rfl ?_
      rcases Bool.eq_false_or_eq_true (hPj tp tl q t).1 with cA | cA
      · have hr1 : r = nI (t 0) := by rw [hr, if_pos cA]
        subst hr1
        have h8 := hPj_8 cA
        have hg := hPj_g (tp := tp) t hq
        refine k_iload_n hJ dX2_takesItem_36 2 rfl ?_
        refine n_if_lt (tgt := 49) hJ dX2_takesItem_37 (by decide) (by omega) (fun c37 => ?_) (fun c37 => ?_)
        · exact absurd c37 (by omega)
        · refine k_aload_n hJ dX2_takesItem_40 0 rfl ?_
          refine k_aload_n hJ dX2_takesItem_41 1 rfl ?_
          refine k_iload_n hJ dX2_takesItem_42 2 rfl ?_
          refine k_callV (As := [.ref (aT 0), .int (nI (t 0))]) (st := []) hJ (ct_X2_takesNose l g a aT ((hPj tp tl q t).2.2) lt tp tl ((hPj tp tl q t).2.1) u (t 0) ht htp hg h8) (fun _ => Fr.all tt_map) mv_X2_takesNose ml_X2_56 13 rfl rfl rfl (kRm_ok (by decide) (by decide)) rfl rfl (Nat.le_of_ble_eq_true rfl) dX2_takesItem_43 (fun r2 u2 hr2 => ?_)
          subst hr2
          show J (hallW g aT ((hNo tp tl (t 0) (hPj tp tl q t).2.1 (hPj tp tl q t).2.2).2.2) lt ++ tapW g a tp tl (tkE tp tl ((hNo tp tl (t 0) (hPj tp tl q t).2.1 (hPj tp tl q t).2.2).2.1)) (tkK tp tl ((hNo tp tl (t 0) (hPj tp tl q t).2.1 (hPj tp tl q t).2.2).2.1)) ((hNo tp tl (t 0) (hPj tp tl q t).2.1 (hPj tp tl q t).2.2).2.1) u2) [(0, .ref (a 2)), (1, .ref (aT 0)), (2, .int (nI (t 0)))] 46 [.int (kb ((hNo tp tl (t 0) (hPj tp tl q t).2.1 (hPj tp tl q t).2.2).1))]
          refine b_if_ne (tgt := 51) hJ dX2_takesItem_46 (by decide) (fun c46 => ?_) (fun c46 => ?_)
          · refine k_aload_n hJ dX2_takesItem_51 0 rfl ?_
            refine k_aload_n hJ dX2_takesItem_52 1 rfl ?_
            refine k_iload_n hJ dX2_takesItem_53 2 rfl ?_
            have hgN := (hNo_g (tp := tp) (t 0) (hPj tp tl q t).2.1 (hPj tp tl q t).2.2 hg).2
            refine k_callV (As := [.ref (aT 0), .int (nI (t 0))]) (st := []) hJ (ct_X2_takeCold l g a aT ((hNo tp tl (t 0) (hPj tp tl q t).2.1 (hPj tp tl q t).2.2).2.2) lt tp tl ((hNo tp tl (t 0) (hPj tp tl q t).2.1 (hPj tp tl q t).2.2).2.1) u2 (t 0) ht htp hgN h8) (fun _ => Fr.all tt_map) mv_X2_takeCold ml_X2_60 13 rfl rfl rfl (kRm_ok (by decide) (by decide)) rfl rfl (Nat.le_of_ble_eq_true rfl) dX2_takesItem_54 (fun r3 u3 hr3 => ?_)
            show J (hallW g aT ((hCo tp tl (t 0) (hNo tp tl (t 0) (hPj tp tl q t).2.1 (hPj tp tl q t).2.2).2.1 (hNo tp tl (t 0) (hPj tp tl q t).2.1 (hPj tp tl q t).2.2).2.2).2) lt ++ tapW g a tp tl (tkE tp tl ((hCo tp tl (t 0) (hNo tp tl (t 0) (hPj tp tl q t).2.1 (hPj tp tl q t).2.2).2.1 (hNo tp tl (t 0) (hPj tp tl q t).2.1 (hPj tp tl q t).2.2).2.2).1)) (tkK tp tl ((hCo tp tl (t 0) (hNo tp tl (t 0) (hPj tp tl q t).2.1 (hPj tp tl q t).2.2).2.1 (hNo tp tl (t 0) (hPj tp tl q t).2.1 (hPj tp tl q t).2.2).2.2).1)) ((hCo tp tl (t 0) (hNo tp tl (t 0) (hPj tp tl q t).2.1 (hPj tp tl q t).2.2).2.1 (hNo tp tl (t 0) (hPj tp tl q t).2.1 (hPj tp tl q t).2.2).2.2).1) u3) [(0, .ref (a 2)), (1, .ref (aT 0)), (2, .int (nI (t 0)))] 57 []
            refine k_aload_n hJ dX2_takesItem_57 0 rfl ?_
            refine k_aload_n hJ dX2_takesItem_58 1 rfl ?_
            refine k_iload_n hJ dX2_takesItem_59 2 rfl ?_
            have hgC := (hCo_g (tp := tp) (t 0) (hNo tp tl (t 0) (hPj tp tl q t).2.1 (hPj tp tl q t).2.2).2.1 (hNo tp tl (t 0) (hPj tp tl q t).2.1 (hPj tp tl q t).2.2).2.2 hgN).2
            refine k_callV (As := [.ref (aT 0), .int (nI (t 0))]) (st := []) hJ (ct_X2_takesDeed l g a aT ((hCo tp tl (t 0) (hNo tp tl (t 0) (hPj tp tl q t).2.1 (hPj tp tl q t).2.2).2.1 (hNo tp tl (t 0) (hPj tp tl q t).2.1 (hPj tp tl q t).2.2).2.2).2) lt tp tl ((hCo tp tl (t 0) (hNo tp tl (t 0) (hPj tp tl q t).2.1 (hPj tp tl q t).2.2).2.1 (hNo tp tl (t 0) (hPj tp tl q t).2.1 (hPj tp tl q t).2.2).2.2).1) u3 (t 0) ht htp hgC h8) (fun _ => Fr.all tt_map) mv_X2_takesDeed ml_X2_64 13 rfl rfl rfl (kRm_ok (by decide) (by decide)) rfl rfl (Nat.le_of_ble_eq_true rfl) dX2_takesItem_60 (fun r4 u4 hr4 => ?_)
            subst hr4
            show J (hallW g aT ((hDi tp tl (t 0) (hCo tp tl (t 0) (hNo tp tl (t 0) (hPj tp tl q t).2.1 (hPj tp tl q t).2.2).2.1 (hNo tp tl (t 0) (hPj tp tl q t).2.1 (hPj tp tl q t).2.2).2.2).1 (hCo tp tl (t 0) (hNo tp tl (t 0) (hPj tp tl q t).2.1 (hPj tp tl q t).2.2).2.1 (hNo tp tl (t 0) (hPj tp tl q t).2.1 (hPj tp tl q t).2.2).2.2).2).2.2) lt ++ tapW g a tp tl (tkE tp tl ((hDi tp tl (t 0) (hCo tp tl (t 0) (hNo tp tl (t 0) (hPj tp tl q t).2.1 (hPj tp tl q t).2.2).2.1 (hNo tp tl (t 0) (hPj tp tl q t).2.1 (hPj tp tl q t).2.2).2.2).1 (hCo tp tl (t 0) (hNo tp tl (t 0) (hPj tp tl q t).2.1 (hPj tp tl q t).2.2).2.1 (hNo tp tl (t 0) (hPj tp tl q t).2.1 (hPj tp tl q t).2.2).2.2).2).2.1)) (tkK tp tl ((hDi tp tl (t 0) (hCo tp tl (t 0) (hNo tp tl (t 0) (hPj tp tl q t).2.1 (hPj tp tl q t).2.2).2.1 (hNo tp tl (t 0) (hPj tp tl q t).2.1 (hPj tp tl q t).2.2).2.2).1 (hCo tp tl (t 0) (hNo tp tl (t 0) (hPj tp tl q t).2.1 (hPj tp tl q t).2.2).2.1 (hNo tp tl (t 0) (hPj tp tl q t).2.1 (hPj tp tl q t).2.2).2.2).2).2.1)) ((hDi tp tl (t 0) (hCo tp tl (t 0) (hNo tp tl (t 0) (hPj tp tl q t).2.1 (hPj tp tl q t).2.2).2.1 (hNo tp tl (t 0) (hPj tp tl q t).2.1 (hPj tp tl q t).2.2).2.2).1 (hCo tp tl (t 0) (hNo tp tl (t 0) (hPj tp tl q t).2.1 (hPj tp tl q t).2.2).2.1 (hNo tp tl (t 0) (hPj tp tl q t).2.1 (hPj tp tl q t).2.2).2.2).2).2.1) u4) [(0, .ref (a 2)), (1, .ref (aT 0)), (2, .int (nI (t 0)))] 63 [.int (kb ((hDi tp tl (t 0) (hCo tp tl (t 0) (hNo tp tl (t 0) (hPj tp tl q t).2.1 (hPj tp tl q t).2.2).2.1 (hNo tp tl (t 0) (hPj tp tl q t).2.1 (hPj tp tl q t).2.2).2.2).1 (hCo tp tl (t 0) (hNo tp tl (t 0) (hPj tp tl q t).2.1 (hPj tp tl q t).2.2).2.1 (hNo tp tl (t 0) (hPj tp tl q t).2.1 (hPj tp tl q t).2.2).2.2).2).1))]
            have e : hIt tp tl q t = _ := (hIt_x (Bool.eq_false_iff.mp c6) (Bool.eq_false_iff.mp c21)).trans ((hPx_1 cA).trans (hP2_1 c46))
            exact k_eqw (ws2 := hallW g aT ((hIt tp tl q t).2.2) lt ++ tapW g a tp tl (tkE tp tl ((hIt tp tl q t).2.1)) (tkK tp tl ((hIt tp tl q t).2.1)) ((hIt tp tl q t).2.1) u4) (by rw [e]; first | done | rfl) (hR _ _ _ u4 dX2_takesItem_63 (by rw [e]; first | done | rfl))
          · refine k_iconst (v := nI 0) hJ dX2_takesItem_49 (by decide) ?_
            have e : hIt tp tl q t = _ := (hIt_x (Bool.eq_false_iff.mp c6) (Bool.eq_false_iff.mp c21)).trans ((hPx_1 cA).trans (hP2_0 c46))
            exact k_eqw (ws2 := hallW g aT ((hIt tp tl q t).2.2) lt ++ tapW g a tp tl (tkE tp tl ((hIt tp tl q t).2.1)) (tkK tp tl ((hIt tp tl q t).2.1)) ((hIt tp tl q t).2.1) u2) (by rw [e]; first | done | rfl) (hR _ _ _ u2 dX2_takesItem_50 (by rw [e, c46]; first | done | rfl))
      · have hr1 : r = (-1 : Int32) := by rw [hr, if_neg (by rw [cA]; decide)]
        subst hr1
        refine k_iload_n hJ dX2_takesItem_36 2 rfl ?_
        refine k_if_lt (tgt := 49) hJ dX2_takesItem_37 (by decide) (fun c37 => ?_) (fun c37 => ?_)
        · refine k_iconst (v := nI 0) hJ dX2_takesItem_49 (by decide) ?_
          have e : hIt tp tl q t = _ := (hIt_x (Bool.eq_false_iff.mp c6) (Bool.eq_false_iff.mp c21)).trans (hPx_0 cA)
          exact k_eqw (ws2 := hallW g aT ((hIt tp tl q t).2.2) lt ++ tapW g a tp tl (tkE tp tl ((hIt tp tl q t).2.1)) (tkK tp tl ((hIt tp tl q t).2.1)) ((hIt tp tl q t).2.1) u) (by rw [e]; first | done | rfl) (hR _ _ _ u dX2_takesItem_50 (by rw [e, cA]; first | done | rfl))
        · exact absurd (by decide) c37
    · refine k_aload_n hJ dX2_takesItem_24 0 rfl ?_
      refine k_aload_n hJ dX2_takesItem_25 1 rfl ?_
      refine k_callV (As := [.ref (aT 0)]) (st := []) hJ (ct_X2_takesDue l g a aT t lt tp tl q va ht htp hq) (fun _ => Fr.all tt_map) mv_X2_takesDue ml_X2_49 13 rfl rfl rfl (kRm_ok (by decide) (by decide)) rfl rfl (Nat.le_of_ble_eq_true rfl) dX2_takesItem_26 (fun r1 u1 hr1 => ?_)
      subst hr1
      show J (hallW g aT ((hDe tp tl q t).2.2) lt ++ tapW g a tp tl (tkE tp tl ((hDe tp tl q t).2.1)) (tkK tp tl ((hDe tp tl q t).2.1)) ((hDe tp tl q t).2.1) u1) [(0, .ref (a 2)), (1, .ref (aT 0))] 29 [.int (kb ((hDe tp tl q t).1))]
      have e : hIt tp tl q t = _ := hIt_d (hKd_d c21) (Bool.eq_false_iff.mp c6) c21
      exact k_eqw (ws2 := hallW g aT ((hIt tp tl q t).2.2) lt ++ tapW g a tp tl (tkE tp tl ((hIt tp tl q t).2.1)) (tkK tp tl ((hIt tp tl q t).2.1)) ((hIt tp tl q t).2.1) u1) (by rw [e]; first | done | rfl) (hR _ _ _ u1 dX2_takesItem_29 (by rw [e]; first | done | rfl))
  · refine k_aload_n hJ dX2_takesItem_9 0 rfl ?_
    refine k_aload_n hJ dX2_takesItem_10 1 rfl ?_
    refine k_callV (As := [.ref (aT 0)]) (st := []) hJ (ct_X2_takesWind l g a aT t lt tp tl q va ht htp hq) (fun _ => Fr.all tt_map) mv_X2_takesWind ml_X2_44 13 rfl rfl rfl (kRm_ok (by decide) (by decide)) rfl rfl (Nat.le_of_ble_eq_true rfl) dX2_takesItem_11 (fun r1 u1 hr1 => ?_)
    subst hr1
    show J (hallW g aT ((hWd tp tl q t).2.2) lt ++ tapW g a tp tl (tkE tp tl ((hWd tp tl q t).2.1)) (tkK tp tl ((hWd tp tl q t).2.1)) ((hWd tp tl q t).2.1) u1) [(0, .ref (a 2)), (1, .ref (aT 0))] 14 [.int (kb ((hWd tp tl q t).1))]
    have e : hIt tp tl q t = _ := hIt_w (hKd_w c6) c6
    exact k_eqw (ws2 := hallW g aT ((hIt tp tl q t).2.2) lt ++ tapW g a tp tl (tkE tp tl ((hIt tp tl q t).2.1)) (tkK tp tl ((hIt tp tl q t).2.1)) ((hIt tp tl q t).2.1) u1) (by rw [e]; first | done | rfl) (hR _ _ _ u1 dX2_takesItem_14 (by rw [e]; first | done | rfl))
