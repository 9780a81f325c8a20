section TTW
variable {g : KG} {a aT : Nat → Nat} {t t2 : Nat → Nat} {lt lt2 : Nat → Int32} {tp tp2 : Nat → Nat} {tl nx tk sr va tl2 nx2 tk2 sr2 va2 : Nat}
theorem tt_frt : Fr (hallW g aT t lt ++ tapW g a tp tl nx tk sr va) (tapW g a tp tl nx tk sr va) (tapW g a tp2 tl2 nx2 tk2 sr2 va2) (hallW g aT t lt ++ tapW g a tp2 tl2 nx2 tk2 sr2 va2) := ⟨hallW g aT t lt, [], by simp, by simp, rfl⟩
theorem tt_frH : Fr (hallW g aT t lt ++ tapW g a tp tl nx tk sr va) (hallW g aT t lt) (hallW g aT t2 lt2) (hallW g aT t2 lt2 ++ tapW g a tp tl nx tk sr va) := ⟨[], tapW g a tp tl nx tk sr va, by simp, by simp, rfl⟩
theorem tt_map : (hallW g aT t2 lt2 ++ tapW g a tp2 tl2 nx2 tk2 sr2 va2).map Prod.fst = (hallW g aT t lt ++ tapW g a tp tl nx tk sr va).map Prod.fst := rfl
theorem tt_set {i : Nat} {e : Nat × va_E} (hi : i < 13) (h : (hallW g aT t lt).set i e = hallW g aT t2 lt2) : (hallW g aT t lt ++ tapW g a tp tl nx tk sr va).set i e = hallW g aT t2 lt2 ++ tapW g a tp tl nx tk sr va := by rw [List.set_append_left _ _ (by rw [hallW_len]; exact hi), h]
theorem tt_row {d : Nat} (hd : d < 6) : (hallW g aT t lt ++ tapW g a tp tl nx tk sr va)[7 + d]? = some (aT (7 + d), .inl (kI g, 8, .inl (fun i => nI (t (4 + 10 * i + (4 + d)))))) := by
  rw [List.getElem?_append_left (by rw [hallW_len]; omega)]
  exact hallW_row g aT t lt hd
end TTW
/-- an item that must tell of a person -/
def hPx (tp : Nat → Nat) (tl q : Nat) (m : Nat → Nat) : Bool × Nat × (Nat → Nat) := match hKd tp tl q with
  | some kd => hPe tp tl kd q m
  | none => (false, q, m)
theorem hPx_n {tp : Nat → Nat} {tl q : Nat} {m : Nat → Nat} (h : hKd tp tl q = none) : hPx tp tl q m = (false, q, m) := by unfold hPx; rw [h]
theorem hPx_s {tp : Nat → Nat} {tl q kd : Nat} {m : Nat → Nat} {r : Bool × Nat × (Nat → Nat)} (h : hKd tp tl q = some kd) (e : hPe tp tl kd q m = r) : hPx tp tl q m = r := by unfold hPx; rw [h]; exact e
set_option maxHeartbeats 4000000 in
set_option maxRecDepth 100000 in
theorem ct_X2_takesDeed (l : Launch) (g : KG) (a aT : Nat → Nat) (t : Nat → Nat) (lt : Nat → Int32) (tp : Nat → Nat) (tl q va : Nat) (p : Nat)  (ht : tl ≤ 120) (htp : ∀ i, tp i < 256) (hq : q ≤ tl) (hp : p < 8) (hw : hW tp tl wDi q = true) : CT l yX2_takesDeed cX2_takesDeed 4 (some .boolean) (rmK 4) g [.ref (a 2), .ref (aT 0), .int (nI p)] (hallW g aT t lt ++ tapW g a tp tl (tkE tp tl q) (tkK tp tl q) q va) (S := Nat) oI (fun r _ => r = kb (hDi tp tl p q t).1) (fun u => hallW g aT ((hDi tp tl p q t).2.2) lt ++ tapW g a tp tl (tkE tp tl ((hDi tp tl p q t).2.1)) (tkK tp tl ((hDi tp tl p q t).2.1)) ((hDi tp tl p q t).2.1) u) := by
  refine k_bodyI (by decide) (Nat.le_of_ble_eq_true rfl) (fun _ _ h => by rw [h]; exact kb_nar _) (fun J hJ hR => ?_)
  show J (hallW g aT t lt ++ tapW g a tp tl (tkE tp tl q) (tkK tp tl q) q va) [(0, .ref (a 2)), (1, .ref (aT 0)), (2, .int (nI p))] 0 []
  refine k_aload_n hJ dX2_takesDeed_0 0 rfl ?_
  refine k_iconst (v := nI 0) hJ dX2_takesDeed_1 (by decide) ?_
  refine k_iconst (v := nI 5) hJ dX2_takesDeed_2 (by decide) ?_
  refine c_VI (As := [.int (nI 0), .int (nI 5)]) (st := []) hJ (ct_X2_takesNumber l g a tp tl q va 0 5 ht htp hq (by decide) (by decide)) tt_frt mv_X2_takesNumber ml_X2_44 13 rfl rfl rfl (kRm_ok (by decide) (by decide)) rfl rfl (Nat.le_of_ble_eq_true rfl) dX2_takesDeed_3 ?_
  refine b_if_ne (tgt := 11) hJ dX2_takesDeed_6 (by decide) (fun c6 => ?_) (fun c6 => ?_)
  · have hv6 := hNum_v c6
    refine k_aload_n hJ dX2_takesDeed_11 0 rfl ?_
    refine gf_X2_28 (v := .int (nI (vaN tp tl (tkN tp tl q) va))) hJ 13 rfl rfl dX2_takesDeed_12 ?_
    refine k_eqs (st2 := [.int (nI (hVal tp tl (tkN tp tl q)))]) (by rw [vaN_t c6 (by decide)]) ?_
    refine k_istore_n (lv1 := [(0, .ref (a 2)), (1, .ref (aT 0)), (2, .int (nI p)), (3, .int (nI (hVal tp tl (tkN tp tl q))))]) hJ dX2_takesDeed_15 (by decide) [1, 2, 3, 0] rfl ?_
    refine k_aload_n hJ dX2_takesDeed_16 0 rfl ?_
    refine k_iconst (v := nI 0) hJ dX2_takesDeed_17 (by decide) ?_
    refine k_bipush (v := nI 99) hJ dX2_takesDeed_18 (by decide) ?_
    refine c_VI (As := [.int (nI 0), .int (nI 99)]) (st := []) hJ (ct_X2_takesNumber l g a tp tl (tkN tp tl q) (vaN tp tl (tkN tp tl q) va) 0 99 ht htp (tkN_le hq) (by decide) (by decide)) tt_frt mv_X2_takesNumber ml_X2_44 13 rfl rfl rfl (kRm_ok (by decide) (by decide)) rfl rfl (Nat.le_of_ble_eq_true rfl) dX2_takesDeed_20 ?_
    refine b_if_ne (tgt := 28) hJ dX2_takesDeed_23 (by decide) (fun c23 => ?_) (fun c23 => ?_)
    · refine k_aload_n hJ dX2_takesDeed_28 1 rfl ?_
      refine gf_X2_88 (v := .ref (aT 5)) hJ 0 rfl rfl dX2_takesDeed_29 ?_
      refine k_iload_n hJ dX2_takesDeed_32 3 rfl ?_
      refine k_aald (f := fun i => some (aT (7 + i))) (b := aT (7 + (hVal tp tl (tkN tp tl q)))) hJ 5 rfl (hVal tp tl (tkN tp tl q)) (by omega) (by decide) rfl dX2_takesDeed_33 ?_
      refine k_iload_n hJ dX2_takesDeed_34 2 rfl ?_
      refine k_aload_n hJ dX2_takesDeed_35 0 rfl ?_
      refine gf_X2_28 (v := .int (nI (vaN tp tl (tkN tp tl (tkN tp tl q)) (vaN tp tl (tkN tp tl q) va)))) hJ 13 rfl rfl dX2_takesDeed_36 ?_
      refine k_eqs (st2 := [.int (nI (hVal tp tl (tkN tp tl (tkN tp tl q)))), .int (nI p), .ref (aT (7 + (hVal tp tl (tkN tp tl q))))]) (by rw [vaN_t c23 (by decide)]) ?_
      refine k_iast (ws2 := hallW g aT (vUp t (4 + 10 * p + (4 + (hVal tp tl (tkN tp tl q)))) (hVal tp tl (tkN tp tl (tkN tp tl q)))) lt ++ tapW g a tp tl (tkE tp tl (tkN tp tl (tkN tp tl q))) (tkK tp tl (tkN tp tl (tkN tp tl q))) (tkN tp tl (tkN tp tl q)) (vaN tp tl (tkN tp tl (tkN tp tl q)) (vaN tp tl (tkN tp tl q) va))) hJ (7 + (hVal tp tl (tkN tp tl q))) (tt_row (by omega)) p (by omega) (by decide) (tt_set (by omega) (hs_row g aT t lt p (hVal tp tl (tkN tp tl (tkN tp tl q))) (by omega))) dX2_takesDeed_39 ?_
      refine k_aload_n hJ dX2_takesDeed_40 0 rfl ?_
      refine c_VV (As := []) (st := []) hJ (ct_X2_step l g a tp tl (tkE tp tl (tkN tp tl (tkN tp tl q))) (tkK tp tl (tkN tp tl (tkN tp tl q))) (tkN tp tl (tkN tp tl q)) (vaN tp tl (tkN tp tl (tkN tp tl q)) (vaN tp tl (tkN tp tl q) va)) ht htp (tkE_le (tkN_le (tkN_le hq)))) tt_frt mv_X2_step ml_X2_31 13 rfl rfl rfl (kRm_ok (by decide) (by decide)) rfl rfl (Nat.le_of_ble_eq_true rfl) dX2_takesDeed_41 ?_
      refine k_iconst (v := nI 1) hJ dX2_takesDeed_44 (by decide) ?_
      have e : hDi tp tl p q t = _ := hDi_t hw c6 c23
      exact k_eqw (ws2 := hallW g aT ((hDi tp tl p q t).2.2) lt ++ tapW g a tp tl (tkE tp tl ((hDi tp tl p q t).2.1)) (tkK tp tl ((hDi tp tl p q t).2.1)) ((hDi tp tl p q t).2.1) (vaN tp tl (tkN tp tl (tkN tp tl (tkN tp tl q))) (vaN tp tl (tkN tp tl (tkN tp tl q)) (vaN tp tl (tkN tp tl q) va)))) (by rw [e]; first | done | rfl) (hR _ _ _ (vaN tp tl (tkN tp tl (tkN tp tl (tkN tp tl q))) (vaN tp tl (tkN tp tl (tkN tp tl q)) (vaN tp tl (tkN tp tl q) va))) dX2_takesDeed_45 (by rw [e]; rfl))
    · refine k_iconst (v := nI 0) hJ dX2_takesDeed_26 (by decide) ?_
      have e : hDi tp tl p q t = _ := hDi_g2 hw c6 c23
      exact k_eqw (ws2 := hallW g aT ((hDi tp tl p q t).2.2) lt ++ tapW g a tp tl (tkE tp tl ((hDi tp tl p q t).2.1)) (tkK tp tl ((hDi tp tl p q t).2.1)) ((hDi tp tl p q t).2.1) (vaN tp tl (tkN tp tl (tkN tp tl q)) (vaN tp tl (tkN tp tl q) va))) (by rw [e]; first | done | rfl) (hR _ _ _ (vaN tp tl (tkN tp tl (tkN tp tl q)) (vaN tp tl (tkN tp tl q) va)) dX2_takesDeed_27 (by rw [e]; rfl))
  · refine k_iconst (v := nI 0) hJ dX2_takesDeed_9 (by decide) ?_
    have e : hDi tp tl p q t = _ := hDi_f hw c6
    exact k_eqw (ws2 := hallW g aT ((hDi tp tl p q t).2.2) lt ++ tapW g a tp tl (tkE tp tl ((hDi tp tl p q t).2.1)) (tkK tp tl ((hDi tp tl p q t).2.1)) ((hDi tp tl p q t).2.1) (vaN tp tl (tkN tp tl q) va)) (by rw [e]; first | done | rfl) (hR _ _ _ (vaN tp tl (tkN tp tl q) va) dX2_takesDeed_10 (by rw [e]; rfl))
