section TTW
variable {g : KG} {a aT : Nat → Nat} {t t2 : Nat → Nat} {lt lt2 : Nat → Int32} {tp tp2 : Nat → Nat} {tl nx tk sr va tl2 nx2 tk2 sr2 va2 : Nat}
theorem tt_frt : Fr (hallW g aT t lt ++ tapW g a tp tl nx tk sr va) (tapW g a tp tl nx tk sr va) (tapW g a tp2 tl2 nx2 tk2 sr2 va2) (hallW g aT t lt ++ tapW g a tp2 tl2 nx2 tk2 sr2 va2) := ⟨hallW g aT t lt, [], by simp, by simp, rfl⟩
theorem tt_frH : Fr (hallW g aT t lt ++ tapW g a tp tl nx tk sr va) (hallW g aT t lt) (hallW g aT t2 lt2) (hallW g aT t2 lt2 ++ tapW g a tp tl nx tk sr va) := ⟨[], tapW g a tp tl nx tk sr va, by simp, by simp, rfl⟩
theorem tt_map : (hallW g aT t2 lt2 ++ tapW g a tp2 tl2 nx2 tk2 sr2 va2).map Prod.fst = (hallW g aT t lt ++ tapW g a tp tl nx tk sr va).map Prod.fst := rfl
theorem tt_set {i : Nat} {e : Nat × va_E} (hi : i < 13) (h : (hallW g aT t lt).set i e = hallW g aT t2 lt2) : (hallW g aT t lt ++ tapW g a tp tl nx tk sr va).set i e = hallW g aT t2 lt2 ++ tapW g a tp tl nx tk sr va := by rw [List.set_append_left _ _ (by rw [hallW_len]; exact hi), h]
theorem tt_row {d : Nat} (hd : d < 6) : (hallW g aT t lt ++ tapW g a tp tl nx tk sr va)[7 + d]? = some (aT (7 + d), .inl (kI g, 8, .inl (fun i => nI (t (4 + 10 * i + (4 + d)))))) := by
  rw [List.getElem?_append_left (by rw [hallW_len]; omega)]
  exact hallW_row g aT t lt hd
end TTW
/-- an item that must tell of a person -/
def hPx (tp : Nat → Nat) (tl q : Nat) (m : Nat → Nat) : Bool × Nat × (Nat → Nat) := match hKd tp tl q with
  | some kd => hPe tp tl kd q m
  | none => (false, q, m)
theorem hPx_n {tp : Nat → Nat} {tl q : Nat} {m : Nat → Nat} (h : hKd tp tl q = none) : hPx tp tl q m = (false, q, m) := by unfold hPx; rw [h]
theorem hPx_s {tp : Nat → Nat} {tl q kd : Nat} {m : Nat → Nat} {r : Bool × Nat × (Nat → Nat)} (h : hKd tp tl q = some kd) (e : hPe tp tl kd q m = r) : hPx tp tl q m = r := by unfold hPx; rw [h]; exact e
/-- a person's kind and place: whether they could stand there, the token that is looked at then, the hall with the new one -/
def hPk (tp : Nat → Nat) (tl kd q : Nat) (m : Nat → Nat) : Bool × Nat × (Nat → Nat) := if m 0 < 8 then (if hW tp tl wAt (tkN tp tl q) then (if hNum tp tl 0 47 (tkN tp tl (tkN tp tl q)) then (true, tkN tp tl (tkN tp tl (tkN tp tl q)), vJoin m kd (hVal tp tl (tkN tp tl (tkN tp tl q)))) else (false, tkN tp tl (tkN tp tl q), m)) else (false, tkN tp tl q, m)) else (false, q, m)
def hPj (tp : Nat → Nat) (tl q : Nat) (m : Nat → Nat) : Bool × Nat × (Nat → Nat) := match hKd tp tl q with
  | some kd => hPk tp tl kd q m
  | none => (false, q, m)
def hWd (tp : Nat → Nat) (tl q : Nat) (m : Nat → Nat) : Bool × Nat × (Nat → Nat) := if hNum tp tl 0 4 (tkN tp tl q) then (true, tkN tp tl (tkN tp tl q), vUp m 2 (hVal tp tl (tkN tp tl q))) else (false, tkN tp tl q, m)
def hDe (tp : Nat → Nat) (tl q : Nat) (m : Nat → Nat) : Bool × Nat × (Nat → Nat) := if hNum tp tl 1 99 (tkN tp tl q) then (true, tkN tp tl (tkN tp tl q), vUp m 3 (hVal tp tl (tkN tp tl q))) else (false, tkN tp tl q, m)
section HJ
variable {tp : Nat → Nat} {tl p q kd : Nat} {m : Nat → Nat}
theorem hWd_t (n : hNum tp tl 0 4 (tkN tp tl q) = true) : hWd tp tl q m = (true, tkN tp tl (tkN tp tl q), vUp m 2 (hVal tp tl (tkN tp tl q))) := if_pos n
theorem hWd_f (n : hNum tp tl 0 4 (tkN tp tl q) = false) : hWd tp tl q m = (false, tkN tp tl q, m) := if_neg (by rw [n]; decide)
theorem hDe_t (n : hNum tp tl 1 99 (tkN tp tl q) = true) : hDe tp tl q m = (true, tkN tp tl (tkN tp tl q), vUp m 3 (hVal tp tl (tkN tp tl q))) := if_pos n
theorem hDe_f (n : hNum tp tl 1 99 (tkN tp tl q) = false) : hDe tp tl q m = (false, tkN tp tl q, m) := if_neg (by rw [n]; decide)
theorem hIt_w (h : hKd tp tl q = none) (c : hW tp tl wWi q = true) : hIt tp tl q m = hWd tp tl q m := by
  rcases Bool.eq_false_or_eq_true (hNum tp tl 0 4 (tkN tp tl q)) with n | n
  · rw [hIt_wt h c n, hWd_t n]
  · rw [hIt_wf h c n, hWd_f n]
theorem hIt_d (h : hKd tp tl q = none) (c : ¬ hW tp tl wWi q = true) (c2 : hW tp tl wDu q = true) : hIt tp tl q m = hDe tp tl q m := by
  rcases Bool.eq_false_or_eq_true (hNum tp tl 1 99 (tkN tp tl q)) with n | n
  · rw [hIt_dt h c c2 n, hDe_t n]
  · rw [hIt_df h c c2 n, hDe_f n]
theorem hPk_8 (h : ¬ m 0 < 8) : hPk tp tl kd q m = (false, q, m) := if_neg h
theorem hPk_a (h : m 0 < 8) (c : ¬ hW tp tl wAt (tkN tp tl q) = true) : hPk tp tl kd q m = (false, tkN tp tl q, m) := by unfold hPk; rw [if_pos h, if_neg c]
theorem hPk_p (h : m 0 < 8) (c : hW tp tl wAt (tkN tp tl q) = true) (n : hNum tp tl 0 47 (tkN tp tl (tkN tp tl q)) = false) : hPk tp tl kd q m = (false, tkN tp tl (tkN tp tl q), m) := by unfold hPk; rw [if_pos h, if_pos c, if_neg (by rw [n]; decide)]
theorem hPk_ok (h : m 0 < 8) (c : hW tp tl wAt (tkN tp tl q) = true) (n : hNum tp tl 0 47 (tkN tp tl (tkN tp tl q)) = true) : hPk tp tl kd q m = (true, tkN tp tl (tkN tp tl (tkN tp tl q)), vJoin m kd (hVal tp tl (tkN tp tl (tkN tp tl q)))) := by unfold hPk; rw [if_pos h, if_pos c, if_pos n]
/-- the four ways of hPk, and hPe along each -/
theorem hPk_c (tp : Nat → Nat) (tl kd q : Nat) (m : Nat → Nat) : (∃ q1, hPk tp tl kd q m = (false, q1, m) ∧ hPe tp tl kd q m = (false, q1, m) ∧ (q ≤ tl → q1 ≤ tl)) ∨ (m 0 < 8 ∧ ∃ q1 m1, hPk tp tl kd q m = (true, q1, m1) ∧ hPe tp tl kd q m = hP2 tp tl (m 0) q1 m1 ∧ (q ≤ tl → q1 ≤ tl)) := by
  by_cases h : m 0 < 8
  · by_cases c : hW tp tl wAt (tkN tp tl q) = true
    · rcases Bool.eq_false_or_eq_true (hNum tp tl 0 47 (tkN tp tl (tkN tp tl q))) with n | n
      · exact Or.inr ⟨h, _, _, hPk_ok h c n, hPe_ok h c n rfl, fun z => tkN_le (tkN_le (tkN_le z))⟩
      · exact Or.inl ⟨_, hPk_p h c n, hPe_p h c n, fun z => tkN_le (tkN_le z)⟩
    · exact Or.inl ⟨_, hPk_a h c, hPe_a h c, fun z => tkN_le z⟩
  · exact Or.inl ⟨_, hPk_8 h, hPe_8 h, fun z => z⟩
theorem hPj_n (h : hKd tp tl q = none) : hPj tp tl q m = (false, q, m) := by unfold hPj; rw [h]
theorem hPj_s {r : Bool × Nat × (Nat → Nat)} (h : hKd tp tl q = some kd) (e : hPk tp tl kd q m = r) : hPj tp tl q m = r := by unfold hPj; rw [h]; exact e
theorem hPj_c (tp : Nat → Nat) (tl q : Nat) (m : Nat → Nat) : (∃ q1, hPj tp tl q m = (false, q1, m) ∧ hPx tp tl q m = (false, q1, m) ∧ (q ≤ tl → q1 ≤ tl)) ∨ (m 0 < 8 ∧ ∃ q1 m1, hPj tp tl q m = (true, q1, m1) ∧ hPx tp tl q m = hP2 tp tl (m 0) q1 m1 ∧ (q ≤ tl → q1 ≤ tl)) := by
  cases e : hKd tp tl q with
  | none => exact Or.inl ⟨q, hPj_n e, hPx_n e, fun z => z⟩
  | some kd =>
    rcases hPk_c tp tl kd q m with ⟨q1, a, b, c⟩ | ⟨h, q1, m1, a, b, c⟩
    · exact Or.inl ⟨q1, hPj_s e a, hPx_s e b, c⟩
    · exact Or.inr ⟨h, q1, m1, hPj_s e a, hPx_s e b, c⟩
theorem hPj_8 (h : (hPj tp tl q m).1 = true) : m 0 < 8 := by
  rcases hPj_c tp tl q m with ⟨q1, a, b, c⟩ | ⟨h8, _⟩
  · rw [a] at h; cases h
  · exact h8
theorem hPj_g (m : Nat → Nat) (h : q ≤ tl) : (hPj tp tl q m).2.1 ≤ tl := by
  rcases hPj_c tp tl q m with ⟨q1, a, b, c⟩ | ⟨h8, q1, m1, a, b, c⟩
  · rw [a]; exact c h
  · rw [a]; exact c h
theorem hPx_0 (h : (hPj tp tl q m).1 = false) : hPx tp tl q m = hPj tp tl q m := by
  rcases hPj_c tp tl q m with ⟨q1, a, b, c⟩ | ⟨h8, q1, m1, a, b, c⟩
  · rw [a, b]
  · rw [a] at h; cases h
theorem hPx_1 (h : (hPj tp tl q m).1 = true) : hPx tp tl q m = hP2 tp tl (m 0) (hPj tp tl q m).2.1 (hPj tp tl q m).2.2 := by
  rcases hPj_c tp tl q m with ⟨q1, a, b, c⟩ | ⟨h8, q1, m1, a, b, c⟩
  · rw [a] at h; cases h
  · rw [a, b]
theorem hP2_1 (h : (hNo tp tl p q m).1 = true) : hP2 tp tl p q m = hDi tp tl p (hCo tp tl p (hNo tp tl p q m).2.1 (hNo tp tl p q m).2.2).1 (hCo tp tl p (hNo tp tl p q m).2.1 (hNo tp tl p q m).2.2).2 := by unfold hP2; rw [if_pos h]
theorem hP2_0 (h : (hNo tp tl p q m).1 = false) : hP2 tp tl p q m = hNo tp tl p q m := by unfold hP2; rw [if_neg (by rw [h]; decide)]
end HJ
set_option maxHeartbeats 4000000 in
set_option maxRecDepth 100000 in
theorem ct_X2_takesDeed (l : Launch) (g : KG) (a aT : Nat → Nat) (t : Nat → Nat) (lt : Nat → Int32) (tp : Nat → Nat) (tl q va : Nat) (p : Nat)  (ht : tl ≤ 120) (htp : ∀ i, tp i < 256) (hq : q ≤ tl) (hp : p < 8) : CT l yX2_takesDeed cX2_takesDeed 4 (some .boolean) (rmK 7) g [.ref (a 2), .ref (aT 0), .int (nI p)] (hallW g aT t lt ++ tapW g a tp tl (tkE tp tl q) (tkK tp tl q) q va) (S := Nat) oI (fun r _ => r = kb (hDi tp tl p q t).1) (fun u => hallW g aT ((hDi tp tl p q t).2.2) lt ++ tapW g a tp tl (tkE tp tl ((hDi tp tl p q t).2.1)) (tkK tp tl ((hDi tp tl p q t).2.1)) ((hDi tp tl p q t).2.1) u) := by
  refine k_bodyI (by decide) (Nat.le_of_ble_eq_true rfl) (fun _ _ h => by rw [h]; exact kb_nar _) (fun J hJ hR => ?_)
  show J (hallW g aT t lt ++ tapW g a tp tl (tkE tp tl q) (tkK tp tl q) q va) [(0, .ref (a 2)), (1, .ref (aT 0)), (2, .int (nI p))] 0 []
  refine k_aload_n hJ dX2_takesDeed_0 0 rfl ?_
  refine k_ldcS hJ 5 rfl dX2_takesDeed_1 ?_
  refine c_VI (As := [.ref (g.2.2.1 5)]) (st := []) hJ (ct_X2_isWord l g a tp tl q va 5 ht htp hq (by decide)) tt_frt mv_X2_isWord ml_X2_40 13 rfl rfl rfl (kRm_ok (by decide) (by decide)) rfl rfl (Nat.le_of_ble_eq_true rfl) dX2_takesDeed_3 ?_
  show J (hallW g aT t lt ++ tapW g a tp tl (tkE tp tl q) (tkK tp tl q) q va) [(0, .ref (a 2)), (1, .ref (aT 0)), (2, .int (nI p))] 6 [.int (kb (hW tp tl wDi q))]
  refine b_if_ne (tgt := 11) hJ dX2_takesDeed_6 (by decide) (fun c6 => ?_) (fun c6 => ?_)
  · refine k_aload_n hJ dX2_takesDeed_11 0 rfl ?_
    refine k_iconst (v := nI 0) hJ dX2_takesDeed_12 (by decide) ?_
    refine k_iconst (v := nI 5) hJ dX2_takesDeed_13 (by decide) ?_
    refine c_VI (As := [.int (nI 0), .int (nI 5)]) (st := []) hJ (ct_X2_takesNumber l g a tp tl q va 0 5 ht htp hq (by decide) (by decide)) tt_frt mv_X2_takesNumber ml_X2_67 13 rfl rfl rfl (kRm_ok (by decide) (by decide)) rfl rfl (Nat.le_of_ble_eq_true rfl) dX2_takesDeed_14 ?_
    refine b_if_ne (tgt := 22) hJ dX2_takesDeed_17 (by decide) (fun c17 => ?_) (fun c17 => ?_)
    · have hv17 := hNum_v c17
      refine k_aload_n hJ dX2_takesDeed_22 0 rfl ?_
      refine gf_X2_28 (v := .int (nI (vaN tp tl (tkN tp tl q) va))) hJ 13 rfl rfl dX2_takesDeed_23 ?_
      refine k_eqs (st2 := [.int (nI (hVal tp tl (tkN tp tl q)))]) (by rw [vaN_t c17 (by decide)]) ?_
      refine k_istore_n (lv1 := [(0, .ref (a 2)), (1, .ref (aT 0)), (2, .int (nI p)), (3, .int (nI (hVal tp tl (tkN tp tl q))))]) hJ dX2_takesDeed_26 (by decide) [1, 2, 3, 0] rfl ?_
      refine k_aload_n hJ dX2_takesDeed_27 0 rfl ?_
      refine k_iconst (v := nI 0) hJ dX2_takesDeed_28 (by decide) ?_
      refine k_bipush (v := nI 99) hJ dX2_takesDeed_29 (by decide) ?_
      refine c_VI (As := [.int (nI 0), .int (nI 99)]) (st := []) hJ (ct_X2_takesNumber l g a tp tl (tkN tp tl q) (vaN tp tl (tkN tp tl q) va) 0 99 ht htp (tkN_le hq) (by decide) (by decide)) tt_frt mv_X2_takesNumber ml_X2_67 13 rfl rfl rfl (kRm_ok (by decide) (by decide)) rfl rfl (Nat.le_of_ble_eq_true rfl) dX2_takesDeed_31 ?_
      refine b_if_ne (tgt := 39) hJ dX2_takesDeed_34 (by decide) (fun c34 => ?_) (fun c34 => ?_)
      · refine k_aload_n hJ dX2_takesDeed_39 1 rfl ?_
        refine gf_X2_102 (v := .ref (aT 5)) hJ 0 rfl rfl dX2_takesDeed_40 ?_
        refine k_iload_n hJ dX2_takesDeed_43 3 rfl ?_
        refine k_aald (f := fun i => some (aT (7 + i))) (b := aT (7 + (hVal tp tl (tkN tp tl q)))) hJ 5 rfl (hVal tp tl (tkN tp tl q)) (by omega) (by decide) rfl dX2_takesDeed_44 ?_
        refine k_iload_n hJ dX2_takesDeed_45 2 rfl ?_
        refine k_aload_n hJ dX2_takesDeed_46 0 rfl ?_
        refine gf_X2_28 (v := .int (nI (vaN tp tl (tkN tp tl (tkN tp tl q)) (vaN tp tl (tkN tp tl q) va)))) hJ 13 rfl rfl dX2_takesDeed_47 ?_
        refine k_eqs (st2 := [.int (nI (hVal tp tl (tkN tp tl (tkN tp tl q)))), .int (nI p), .ref (aT (7 + (hVal tp tl (tkN tp tl q))))]) (by rw [vaN_t c34 (by decide)]) ?_
        refine k_iast (ws2 := hallW g aT (vUp t (4 + 10 * p + (4 + (hVal tp tl (tkN tp tl q)))) (hVal tp tl (tkN tp tl (tkN tp tl q)))) lt ++ tapW g a tp tl (tkE tp tl (tkN tp tl (tkN tp tl q))) (tkK tp tl (tkN tp tl (tkN tp tl q))) (tkN tp tl (tkN tp tl q)) (vaN tp tl (tkN tp tl (tkN tp tl q)) (vaN tp tl (tkN tp tl q) va))) hJ (7 + (hVal tp tl (tkN tp tl q))) (tt_row (by omega)) p (by omega) (by decide) (tt_set (by omega) (hs_row g aT t lt p (hVal tp tl (tkN tp tl (tkN tp tl q))) (by omega))) dX2_takesDeed_50 ?_
        refine k_aload_n hJ dX2_takesDeed_51 0 rfl ?_
        refine c_VV (As := []) (st := []) hJ (ct_X2_step l g a tp tl (tkE tp tl (tkN tp tl (tkN tp tl q))) (tkK tp tl (tkN tp tl (tkN tp tl q))) (tkN tp tl (tkN tp tl q)) (vaN tp tl (tkN tp tl (tkN tp tl q)) (vaN tp tl (tkN tp tl q) va)) ht htp (tkE_le (tkN_le (tkN_le hq)))) tt_frt mv_X2_step ml_X2_31 13 rfl rfl rfl (kRm_ok (by decide) (by decide)) rfl rfl (Nat.le_of_ble_eq_true rfl) dX2_takesDeed_52 ?_
        refine k_iconst (v := nI 1) hJ dX2_takesDeed_55 (by decide) ?_
        have e : hDi tp tl p q t = _ := hDi_t c6 c17 c34
        exact k_eqw (ws2 := hallW g aT ((hDi tp tl p q t).2.2) lt ++ tapW g a tp tl (tkE tp tl ((hDi tp tl p q t).2.1)) (tkK tp tl ((hDi tp tl p q t).2.1)) ((hDi tp tl p q t).2.1) (vaN tp tl (tkN tp tl (tkN tp tl (tkN tp tl q))) (vaN tp tl (tkN tp tl (tkN tp tl q)) (vaN tp tl (tkN tp tl q) va)))) (by rw [e]; first | done | rfl) (hR _ _ _ (vaN tp tl (tkN tp tl (tkN tp tl (tkN tp tl q))) (vaN tp tl (tkN tp tl (tkN tp tl q)) (vaN tp tl (tkN tp tl q) va))) dX2_takesDeed_56 (by rw [e]; first | done | rfl))
      · refine k_iconst (v := nI 0) hJ dX2_takesDeed_37 (by decide) ?_
        have e : hDi tp tl p q t = _ := hDi_g2 c6 c17 c34
        exact k_eqw (ws2 := hallW g aT ((hDi tp tl p q t).2.2) lt ++ tapW g a tp tl (tkE tp tl ((hDi tp tl p q t).2.1)) (tkK tp tl ((hDi tp tl p q t).2.1)) ((hDi tp tl p q t).2.1) (vaN tp tl (tkN tp tl (tkN tp tl q)) (vaN tp tl (tkN tp tl q) va))) (by rw [e]; first | done | rfl) (hR _ _ _ (vaN tp tl (tkN tp tl (tkN tp tl q)) (vaN tp tl (tkN tp tl q) va)) dX2_takesDeed_38 (by rw [e]; first | done | rfl))
    · refine k_iconst (v := nI 0) hJ dX2_takesDeed_20 (by decide) ?_
      have e : hDi tp tl p q t = _ := hDi_f c6 c17
      exact k_eqw (ws2 := hallW g aT ((hDi tp tl p q t).2.2) lt ++ tapW g a tp tl (tkE tp tl ((hDi tp tl p q t).2.1)) (tkK tp tl ((hDi tp tl p q t).2.1)) ((hDi tp tl p q t).2.1) (vaN tp tl (tkN tp tl q) va)) (by rw [e]; first | done | rfl) (hR _ _ _ (vaN tp tl (tkN tp tl q) va) dX2_takesDeed_21 (by rw [e]; first | done | rfl))
  · refine k_iconst (v := nI 1) hJ dX2_takesDeed_9 (by decide) ?_
    have e : hDi tp tl p q t = _ := hDi_n (Bool.eq_false_iff.mp c6)
    exact k_eqw (ws2 := hallW g aT ((hDi tp tl p q t).2.2) lt ++ tapW g a tp tl (tkE tp tl ((hDi tp tl p q t).2.1)) (tkK tp tl ((hDi tp tl p q t).2.1)) ((hDi tp tl p q t).2.1) va) (by rw [e]; first | done | rfl) (hR _ _ _ va dX2_takesDeed_10 (by rw [e]; first | done | rfl))
set_option maxHeartbeats 4000000 in
set_option maxRecDepth 100000 in
theorem ct_X2_takesWind (l : Launch) (g : KG) (a aT : Nat → Nat) (t : Nat → Nat) (lt : Nat → Int32) (tp : Nat → Nat) (tl q va : Nat)  (ht : tl ≤ 120) (htp : ∀ i, tp i < 256) (hq : q ≤ tl) : CT l yX2_takesWind cX2_takesWind 2 (some .boolean) (rmK 4) g [.ref (a 2), .ref (aT 0)] (hallW g aT t lt ++ tapW g a tp tl (tkE tp tl q) (tkK tp tl q) q va) (S := Nat) oI (fun r _ => r = kb (hWd tp tl q t).1) (fun u => hallW g aT ((hWd tp tl q t).2.2) lt ++ tapW g a tp tl (tkE tp tl ((hWd tp tl q t).2.1)) (tkK tp tl ((hWd tp tl q t).2.1)) ((hWd tp tl q t).2.1) u) := by
  refine k_bodyI (by decide) (Nat.le_of_ble_eq_true rfl) (fun _ _ h => by rw [h]; exact kb_nar _) (fun J hJ hR => ?_)
  show J (hallW g aT t lt ++ tapW g a tp tl (tkE tp tl q) (tkK tp tl q) q va) [(0, .ref (a 2)), (1, .ref (aT 0))] 0 []
  refine k_aload_n hJ dX2_takesWind_0 0 rfl ?_
  refine k_iconst (v := nI 0) hJ dX2_takesWind_1 (by decide) ?_
  refine k_iconst (v := nI 4) hJ dX2_takesWind_2 (by decide) ?_
  refine c_VI (As := [.int (nI 0), .int (nI 4)]) (st := []) hJ (ct_X2_takesNumber l g a tp tl q va 0 4 ht htp hq (by decide) (by decide)) tt_frt mv_X2_takesNumber ml_X2_67 13 rfl rfl rfl (kRm_ok (by decide) (by decide)) rfl rfl (Nat.le_of_ble_eq_true rfl) dX2_takesWind_3 ?_
  refine b_if_ne (tgt := 11) hJ dX2_takesWind_6 (by decide) (fun c6 => ?_) (fun c6 => ?_)
  · refine k_aload_n hJ dX2_takesWind_11 1 rfl ?_
    refine k_aload_n hJ dX2_takesWind_12 0 rfl ?_
    refine gf_X2_28 (v := .int (nI (vaN tp tl (tkN tp tl q) va))) hJ 13 rfl rfl dX2_takesWind_13 ?_
    refine k_eqs (st2 := [.int (nI (hVal tp tl (tkN tp tl q))), .ref (aT 0)]) (by rw [vaN_t c6 (by decide)]) ?_
    refine pf_X2_71 (ws2 := hallW g aT (vUp t 2 (hVal tp tl (tkN tp tl q))) lt ++ tapW g a tp tl (tkE tp tl (tkN tp tl q)) (tkK tp tl (tkN tp tl q)) (tkN tp tl q) (vaN tp tl (tkN tp tl q) va)) hJ 0 rfl (tt_set (i := 0) (by decide) (hs_wind g aT t lt (hVal tp tl (tkN tp tl q)))) (Nat.le_of_ble_eq_true rfl) dX2_takesWind_16 ?_
    refine k_aload_n hJ dX2_takesWind_19 0 rfl ?_
    refine c_VV (As := []) (st := []) hJ (ct_X2_step l g a tp tl (tkE tp tl (tkN tp tl q)) (tkK tp tl (tkN tp tl q)) (tkN tp tl q) (vaN tp tl (tkN tp tl q) va) ht htp (tkE_le (tkN_le hq))) tt_frt mv_X2_step ml_X2_31 13 rfl rfl rfl (kRm_ok (by decide) (by decide)) rfl rfl (Nat.le_of_ble_eq_true rfl) dX2_takesWind_20 ?_
    refine k_iconst (v := nI 1) hJ dX2_takesWind_23 (by decide) ?_
    have e : hWd tp tl q t = _ := hWd_t c6
    exact k_eqw (ws2 := hallW g aT ((hWd tp tl q t).2.2) lt ++ tapW g a tp tl (tkE tp tl ((hWd tp tl q t).2.1)) (tkK tp tl ((hWd tp tl q t).2.1)) ((hWd tp tl q t).2.1) (vaN tp tl (tkN tp tl (tkN tp tl q)) (vaN tp tl (tkN tp tl q) va))) (by rw [e]; first | done | rfl) (hR _ _ _ (vaN tp tl (tkN tp tl (tkN tp tl q)) (vaN tp tl (tkN tp tl q) va)) dX2_takesWind_24 (by rw [e]; first | done | rfl))
  · refine k_iconst (v := nI 0) hJ dX2_takesWind_9 (by decide) ?_
    have e : hWd tp tl q t = _ := hWd_f c6
    exact k_eqw (ws2 := hallW g aT ((hWd tp tl q t).2.2) lt ++ tapW g a tp tl (tkE tp tl ((hWd tp tl q t).2.1)) (tkK tp tl ((hWd tp tl q t).2.1)) ((hWd tp tl q t).2.1) (vaN tp tl (tkN tp tl q) va)) (by rw [e]; first | done | rfl) (hR _ _ _ (vaN tp tl (tkN tp tl q) va) dX2_takesWind_10 (by rw [e]; first | done | rfl))
set_option maxHeartbeats 4000000 in
set_option maxRecDepth 100000 in
theorem ct_X2_takesDue (l : Launch) (g : KG) (a aT : Nat → Nat) (t : Nat → Nat) (lt : Nat → Int32) (tp : Nat → Nat) (tl q va : Nat)  (ht : tl ≤ 120) (htp : ∀ i, tp i < 256) (hq : q ≤ tl) : CT l yX2_takesDue cX2_takesDue 2 (some .boolean) (rmK 4) g [.ref (a 2), .ref (aT 0)] (hallW g aT t lt ++ tapW g a tp tl (tkE tp tl q) (tkK tp tl q) q va) (S := Nat) oI (fun r _ => r = kb (hDe tp tl q t).1) (fun u => hallW g aT ((hDe tp tl q t).2.2) lt ++ tapW g a tp tl (tkE tp tl ((hDe tp tl q t).2.1)) (tkK tp tl ((hDe tp tl q t).2.1)) ((hDe tp tl q t).2.1) u) := by
  refine k_bodyI (by decide) (Nat.le_of_ble_eq_true rfl) (fun _ _ h => by rw [h]; exact kb_nar _) (fun J hJ hR => ?_)
  show J (hallW g aT t lt ++ tapW g a tp tl (tkE tp tl q) (tkK tp tl q) q va) [(0, .ref (a 2)), (1, .ref (aT 0))] 0 []
  refine k_aload_n hJ dX2_takesDue_0 0 rfl ?_
  refine k_iconst (v := nI 1) hJ dX2_takesDue_1 (by decide) ?_
  refine k_bipush (v := nI 99) hJ dX2_takesDue_2 (by decide) ?_
  refine c_VI (As := [.int (nI 1), .int (nI 99)]) (st := []) hJ (ct_X2_takesNumber l g a tp tl q va 1 99 ht htp hq (by decide) (by decide)) tt_frt mv_X2_takesNumber ml_X2_67 13 rfl rfl rfl (kRm_ok (by decide) (by decide)) rfl rfl (Nat.le_of_ble_eq_true rfl) dX2_takesDue_4 ?_
  refine b_if_ne (tgt := 12) hJ dX2_takesDue_7 (by decide) (fun c7 => ?_) (fun c7 => ?_)
  · refine k_aload_n hJ dX2_takesDue_12 1 rfl ?_
    refine k_aload_n hJ dX2_takesDue_13 0 rfl ?_
    refine gf_X2_28 (v := .int (nI (vaN tp tl (tkN tp tl q) va))) hJ 13 rfl rfl dX2_takesDue_14 ?_
    refine k_eqs (st2 := [.int (nI (hVal tp tl (tkN tp tl q))), .ref (aT 0)]) (by rw [vaN_t c7 (by decide)]) ?_
    refine pf_X2_75 (ws2 := hallW g aT (vUp t 3 (hVal tp tl (tkN tp tl q))) lt ++ tapW g a tp tl (tkE tp tl (tkN tp tl q)) (tkK tp tl (tkN tp tl q)) (tkN tp tl q) (vaN tp tl (tkN tp tl q) va)) hJ 0 rfl (tt_set (i := 0) (by decide) (hs_due g aT t lt (hVal tp tl (tkN tp tl q)))) (Nat.le_of_ble_eq_true rfl) dX2_takesDue_17 ?_
    refine k_aload_n hJ dX2_takesDue_20 0 rfl ?_
    refine c_VV (As := []) (st := []) hJ (ct_X2_step l g a tp tl (tkE tp tl (tkN tp tl q)) (tkK tp tl (tkN tp tl q)) (tkN tp tl q) (vaN tp tl (tkN tp tl q) va) ht htp (tkE_le (tkN_le hq))) tt_frt mv_X2_step ml_X2_31 13 rfl rfl rfl (kRm_ok (by decide) (by decide)) rfl rfl (Nat.le_of_ble_eq_true rfl) dX2_takesDue_21 ?_
    refine k_iconst (v := nI 1) hJ dX2_takesDue_24 (by decide) ?_
    have e : hDe tp tl q t = _ := hDe_t c7
    exact k_eqw (ws2 := hallW g aT ((hDe tp tl q t).2.2) lt ++ tapW g a tp tl (tkE tp tl ((hDe tp tl q t).2.1)) (tkK tp tl ((hDe tp tl q t).2.1)) ((hDe tp tl q t).2.1) (vaN tp tl (tkN tp tl (tkN tp tl q)) (vaN tp tl (tkN tp tl q) va))) (by rw [e]; first | done | rfl) (hR _ _ _ (vaN tp tl (tkN tp tl (tkN tp tl q)) (vaN tp tl (tkN tp tl q) va)) dX2_takesDue_25 (by rw [e]; first | done | rfl))
  · refine k_iconst (v := nI 0) hJ dX2_takesDue_10 (by decide) ?_
    have e : hDe tp tl q t = _ := hDe_f c7
    exact k_eqw (ws2 := hallW g aT ((hDe tp tl q t).2.2) lt ++ tapW g a tp tl (tkE tp tl ((hDe tp tl q t).2.1)) (tkK tp tl ((hDe tp tl q t).2.1)) ((hDe tp tl q t).2.1) (vaN tp tl (tkN tp tl q) va)) (by rw [e]; first | done | rfl) (hR _ _ _ (vaN tp tl (tkN tp tl q) va) dX2_takesDue_11 (by rw [e]; first | done | rfl))
set_option maxHeartbeats 4000000 in
set_option maxRecDepth 100000 in
theorem ct_X2_takesNose (l : Launch) (g : KG) (a aT : Nat → Nat) (t : Nat → Nat) (lt : Nat → Int32) (tp : Nat → Nat) (tl q va : Nat) (p : Nat)  (ht : tl ≤ 120) (htp : ∀ i, tp i < 256) (hq : q ≤ tl) (hp : p < 8) : CT l yX2_takesNose cX2_takesNose 3 (some .boolean) (rmK 7) g [.ref (a 2), .ref (aT 0), .int (nI p)] (hallW g aT t lt ++ tapW g a tp tl (tkE tp tl q) (tkK tp tl q) q va) (S := Nat) oI (fun r _ => r = kb (hNo tp tl p q t).1) (fun u => hallW g aT ((hNo tp tl p q t).2.2) lt ++ tapW g a tp tl (tkE tp tl ((hNo tp tl p q t).2.1)) (tkK tp tl ((hNo tp tl p q t).2.1)) ((hNo tp tl p q t).2.1) u) := by
  refine k_bodyI (by decide) (Nat.le_of_ble_eq_true rfl) (fun _ _ h => by rw [h]; exact kb_nar _) (fun J hJ hR => ?_)
  show J (hallW g aT t lt ++ tapW g a tp tl (tkE tp tl q) (tkK tp tl q) q va) [(0, .ref (a 2)), (1, .ref (aT 0)), (2, .int (nI p))] 0 []
  refine k_aload_n hJ dX2_takesNose_0 0 rfl ?_
  refine k_ldcS hJ 3 rfl dX2_takesNose_1 ?_
  refine c_VI (As := [.ref (g.2.2.1 3)]) (st := []) hJ (ct_X2_isWord l g a tp tl q va 3 ht htp hq (by decide)) tt_frt mv_X2_isWord ml_X2_40 13 rfl rfl rfl (kRm_ok (by decide) (by decide)) rfl rfl (Nat.le_of_ble_eq_true rfl) dX2_takesNose_3 ?_
  show J (hallW g aT t lt ++ tapW g a tp tl (tkE tp tl q) (tkK tp tl q) q va) [(0, .ref (a 2)), (1, .ref (aT 0)), (2, .int (nI p))] 6 [.int (kb (hW tp tl wNo q))]
  refine b_if_ne (tgt := 11) hJ dX2_takesNose_6 (by decide) (fun c6 => ?_) (fun c6 => ?_)
  · refine k_aload_n hJ dX2_takesNose_11 0 rfl ?_
    refine k_iconst (v := nI 0) hJ dX2_takesNose_12 (by decide) ?_
    refine k_bipush (v := nI 9) hJ dX2_takesNose_13 (by decide) ?_
    refine c_VI (As := [.int (nI 0), .int (nI 9)]) (st := []) hJ (ct_X2_takesNumber l g a tp tl q va 0 9 ht htp hq (by decide) (by decide)) tt_frt mv_X2_takesNumber ml_X2_67 13 rfl rfl rfl (kRm_ok (by decide) (by decide)) rfl rfl (Nat.le_of_ble_eq_true rfl) dX2_takesNose_15 ?_
    refine b_if_ne (tgt := 23) hJ dX2_takesNose_18 (by decide) (fun c18 => ?_) (fun c18 => ?_)
    · refine k_aload_n hJ dX2_takesNose_23 1 rfl ?_
      refine gf_X2_92 (v := .ref (aT 3)) hJ 0 rfl rfl dX2_takesNose_24 ?_
      refine k_iload_n hJ dX2_takesNose_27 2 rfl ?_
      refine k_aload_n hJ dX2_takesNose_28 0 rfl ?_
      refine gf_X2_28 (v := .int (nI (vaN tp tl (tkN tp tl q) va))) hJ 13 rfl rfl dX2_takesNose_29 ?_
      refine k_eqs (st2 := [.int (nI (hVal tp tl (tkN tp tl q))), .int (nI p), .ref (aT 3)]) (by rw [vaN_t c18 (by decide)]) ?_
      refine k_iast (ws2 := hallW g aT (vUp t (4 + 10 * p + 2) (hVal tp tl (tkN tp tl q))) lt ++ tapW g a tp tl (tkE tp tl (tkN tp tl q)) (tkK tp tl (tkN tp tl q)) (tkN tp tl q) (vaN tp tl (tkN tp tl q) va)) hJ 3 rfl p (by omega) (by decide) (tt_set (i := 3) (by decide) (hs_noses g aT t lt p (hVal tp tl (tkN tp tl q)))) dX2_takesNose_32 ?_
      refine k_aload_n hJ dX2_takesNose_33 0 rfl ?_
      refine c_VV (As := []) (st := []) hJ (ct_X2_step l g a tp tl (tkE tp tl (tkN tp tl q)) (tkK tp tl (tkN tp tl q)) (tkN tp tl q) (vaN tp tl (tkN tp tl q) va) ht htp (tkE_le (tkN_le hq))) tt_frt mv_X2_step ml_X2_31 13 rfl rfl rfl (kRm_ok (by decide) (by decide)) rfl rfl (Nat.le_of_ble_eq_true rfl) dX2_takesNose_34 ?_
      refine k_iconst (v := nI 1) hJ dX2_takesNose_37 (by decide) ?_
      have e : hNo tp tl p q t = _ := hNo_t c6 c18
      exact k_eqw (ws2 := hallW g aT ((hNo tp tl p q t).2.2) lt ++ tapW g a tp tl (tkE tp tl ((hNo tp tl p q t).2.1)) (tkK tp tl ((hNo tp tl p q t).2.1)) ((hNo tp tl p q t).2.1) (vaN tp tl (tkN tp tl (tkN tp tl q)) (vaN tp tl (tkN tp tl q) va))) (by rw [e]; first | done | rfl) (hR _ _ _ (vaN tp tl (tkN tp tl (tkN tp tl q)) (vaN tp tl (tkN tp tl q) va)) dX2_takesNose_38 (by rw [e]; first | done | rfl))
    · refine k_iconst (v := nI 0) hJ dX2_takesNose_21 (by decide) ?_
      have e : hNo tp tl p q t = _ := hNo_f c6 c18
      exact k_eqw (ws2 := hallW g aT ((hNo tp tl p q t).2.2) lt ++ tapW g a tp tl (tkE tp tl ((hNo tp tl p q t).2.1)) (tkK tp tl ((hNo tp tl p q t).2.1)) ((hNo tp tl p q t).2.1) (vaN tp tl (tkN tp tl q) va)) (by rw [e]; first | done | rfl) (hR _ _ _ (vaN tp tl (tkN tp tl q) va) dX2_takesNose_22 (by rw [e]; first | done | rfl))
  · refine k_iconst (v := nI 1) hJ dX2_takesNose_9 (by decide) ?_
    have e : hNo tp tl p q t = _ := hNo_n (Bool.eq_false_iff.mp c6)
    exact k_eqw (ws2 := hallW g aT ((hNo tp tl p q t).2.2) lt ++ tapW g a tp tl (tkE tp tl ((hNo tp tl p q t).2.1)) (tkK tp tl ((hNo tp tl p q t).2.1)) ((hNo tp tl p q t).2.1) va) (by rw [e]; first | done | rfl) (hR _ _ _ va dX2_takesNose_10 (by rw [e]; first | done | rfl))
set_option maxHeartbeats 4000000 in
set_option maxRecDepth 100000 in
theorem ct_X2_takeCold (l : Launch) (g : KG) (a aT : Nat → Nat) (t : Nat → Nat) (lt : Nat → Int32) (tp : Nat → Nat) (tl q va : Nat) (p : Nat)  (ht : tl ≤ 120) (htp : ∀ i, tp i < 256) (hq : q ≤ tl) (hp : p < 8) : CT l yX2_takeCold cX2_takeCold 3 none (rmK 7) g [.ref (a 2), .ref (aT 0), .int (nI p)] (hallW g aT t lt ++ tapW g a tp tl (tkE tp tl q) (tkK tp tl q) q va) (S := Nat) oV (fun _ _ => True) (fun u => hallW g aT ((hCo tp tl p q t).2) lt ++ tapW g a tp tl (tkE tp tl ((hCo tp tl p q t).1)) (tkK tp tl ((hCo tp tl p q t).1)) ((hCo tp tl p q t).1) u) := by
  refine k_bodyV (by decide) (Nat.le_of_ble_eq_true rfl) (fun J hJ hR => ?_)
  show J (hallW g aT t lt ++ tapW g a tp tl (tkE tp tl q) (tkK tp tl q) q va) [(0, .ref (a 2)), (1, .ref (aT 0)), (2, .int (nI p))] 0 []
  refine k_aload_n hJ dX2_takeCold_0 0 rfl ?_
  refine k_ldcS hJ 4 rfl dX2_takeCold_1 ?_
  refine c_VI (As := [.ref (g.2.2.1 4)]) (st := []) hJ (ct_X2_isWord l g a tp tl q va 4 ht htp hq (by decide)) tt_frt mv_X2_isWord ml_X2_40 13 rfl rfl rfl (kRm_ok (by decide) (by decide)) rfl rfl (Nat.le_of_ble_eq_true rfl) dX2_takeCold_3 ?_
  show J (hallW g aT t lt ++ tapW g a tp tl (tkE tp tl q) (tkK tp tl q) q va) [(0, .ref (a 2)), (1, .ref (aT 0)), (2, .int (nI p))] 6 [.int (kb (hW tp tl wCd q))]
  refine b_if_eq (tgt := 20) hJ dX2_takeCold_6 (by decide) (fun c6 => ?_) (fun c6 => ?_)
  · have e : hCo tp tl p q t = _ := hCo_n (Bool.eq_false_iff.mp c6)
    exact k_eqw (ws2 := hallW g aT ((hCo tp tl p q t).2) lt ++ tapW g a tp tl (tkE tp tl ((hCo tp tl p q t).1)) (tkK tp tl ((hCo tp tl p q t).1)) ((hCo tp tl p q t).1) va) (by rw [e]; first | done | rfl) (hR _ _ () va dX2_takeCold_20 trivial)
  · refine k_aload_n hJ dX2_takeCold_9 1 rfl ?_
    refine gf_X2_97 (v := .ref (aT 4)) hJ 0 rfl rfl dX2_takeCold_10 ?_
    refine k_iload_n hJ dX2_takeCold_13 2 rfl ?_
    refine k_iconst (v := nI 1) hJ dX2_takeCold_14 (by decide) ?_
    refine k_iast (ws2 := hallW g aT (vUp t (4 + 10 * p + 3) 1) lt ++ tapW g a tp tl (tkE tp tl q) (tkK tp tl q) q va) hJ 4 rfl p (by omega) (by decide) (tt_set (i := 4) (by decide) (hs_colds g aT t lt p 1)) dX2_takeCold_15 ?_
    refine k_aload_n hJ dX2_takeCold_16 0 rfl ?_
    refine c_VV (As := []) (st := []) hJ (ct_X2_step l g a tp tl (tkE tp tl q) (tkK tp tl q) q va ht htp (tkE_le hq)) tt_frt mv_X2_step ml_X2_31 13 rfl rfl rfl (kRm_ok (by decide) (by decide)) rfl rfl (Nat.le_of_ble_eq_true rfl) dX2_takeCold_17 ?_
    have e : hCo tp tl p q t = _ := hCo_t c6
    exact k_eqw (ws2 := hallW g aT ((hCo tp tl p q t).2) lt ++ tapW g a tp tl (tkE tp tl ((hCo tp tl p q t).1)) (tkK tp tl ((hCo tp tl p q t).1)) ((hCo tp tl p q t).1) (vaN tp tl (tkN tp tl q) va)) (by rw [e]; first | done | rfl) (hR _ _ () (vaN tp tl (tkN tp tl q) va) dX2_takeCold_20 trivial)
