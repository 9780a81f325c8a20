/-- a new hall -/
def vm0 : Nat → Nat := vUp (fun _ => 0) 3 20
abbrev z0 : Nat → Int32 := fun _ => nI 0
abbrev aOf (L : List Nat) : Nat → Nat := fun i => L.getD i 0
theorem vm0_row (k : Nat) : (fun i => nI (vm0 (4 + 10 * i + k))) = fun _ => nI 0 := by
  funext i
  unfold vm0
  rw [vUp_ne (by omega)]
theorem vm0_all : (fun i => nI (vm0 i)) = upd (fun _ => nI 0) 3 (nI 20) := (nI_upd (fun _ => 0) 3 20).symm
theorem hall0_eq (g : KG) (a : Nat → Nat) : hallW g a vm0 z0 = [(a 0, .inr (0, [.int (nI 0), .int (nI 20), .int (nI 0), .int (nI 0), .ref (a 1), .ref (a 2), .ref (a 3), .ref (a 4), .ref (a 5), .ref (a 6)])), (a 1, .inl (kI g, 8, .inl (fun _ => nI 0))), (a 2, .inl (kI g, 8, .inl (fun _ => nI 0))), (a 3, .inl (kI g, 8, .inl (fun _ => nI 0))), (a 4, .inl (kI g, 8, .inl (fun _ => nI 0))), (a 5, .inl (kO g, 6, .inr (.inr (.inr (.inr (fun i => some (a (7 + i)))))))), (a 6, .inl (kI g, 8, .inl (fun _ => nI 0))), (a 7, .inl (kI g, 8, .inl (fun _ => nI 0))), (a 8, .inl (kI g, 8, .inl (fun _ => nI 0))), (a 9, .inl (kI g, 8, .inl (fun _ => nI 0))), (a 10, .inl (kI g, 8, .inl (fun _ => nI 0))), (a 11, .inl (kI g, 8, .inl (fun _ => nI 0))), (a 12, .inl (kI g, 8, .inl (fun _ => nI 0)))] := by
  unfold hallW
  rw [vm0_row 0, vm0_row 1, vm0_row 2, vm0_row 3, vm0_row (4 + 0), vm0_row (4 + 1), vm0_row (4 + 2), vm0_row (4 + 3), vm0_row (4 + 4), vm0_row (4 + 5)]
  rfl
theorem df_X0 : ∀ j, j < 10 → defaultValue (tyX0 j) = vp_V [.int (nI 0), .int (nI 0), .int (nI 0), .int (nI 0), .null, .null, .null, .null, .null, .null] j := by
  intro j hj
  rcases (show j = 0 ∨ j = 1 ∨ j = 2 ∨ j = 3 ∨ j = 4 ∨ j = 5 ∨ j = 6 ∨ j = 7 ∨ j = 8 ∨ j = 9 by omega) with rfl | rfl | rfl | rfl | rfl | rfl | rfl | rfl | rfl | rfl <;> rfl
theorem df_X1 : ∀ j, j < 3 → defaultValue (tyX1 j) = vp_V [.int (nI 0), .int (nI 0), .null] j := by
  intro j hj
  rcases (show j = 0 ∨ j = 1 ∨ j = 2 by omega) with rfl | rfl | rfl <;> rfl
theorem df_X2 : ∀ j, j < 6 → defaultValue (tyX2 j) = vp_V [.int (nI 0), .null, .int (nI 0), .int (nI 0), .int (nI 0), .int (nI 0)] j := by
  intro j hj
  rcases (show j = 0 ∨ j = 1 ∨ j = 2 ∨ j = 3 ∨ j = 4 ∨ j = 5 by omega) with rfl | rfl | rfl | rfl | rfl | rfl <;> rfl
theorem df_X3 : ∀ j, j < 7 → defaultValue (tyX3 j) = vp_V [.null, .null, .null, .null, .null, .null, .int (kb false)] j := by
  intro j hj
  rcases (show j = 0 ∨ j = 1 ∨ j = 2 ∨ j = 3 ∨ j = 4 ∨ j = 5 ∨ j = 6 by omega) with rfl | rfl | rfl | rfl | rfl | rfl | rfl <;> rfl
theorem df_X4 : ∀ j, j < 19 → defaultValue (tyX4 j) = vp_V [.null, .null, .null, .null, .null, .int (kb false), .null, .int (nI 0), .int (nI 0), .null, .int (nI 0), .int (nI 0), .int (nI 0), .int (nI 0), .int (kb false), .null, .null, .null, .null] j := by
  intro j hj
  rcases (show j = 0 ∨ j = 1 ∨ j = 2 ∨ j = 3 ∨ j = 4 ∨ j = 5 ∨ j = 6 ∨ j = 7 ∨ j = 8 ∨ j = 9 ∨ j = 10 ∨ j = 11 ∨ j = 12 ∨ j = 13 ∨ j = 14 ∨ j = 15 ∨ j = 16 ∨ j = 17 ∨ j = 18 by omega) with rfl | rfl | rfl | rfl | rfl | rfl | rfl | rfl | rfl | rfl | rfl | rfl | rfl | rfl | rfl | rfl | rfl | rfl | rfl <;> rfl
set_option maxHeartbeats 4000000 in
set_option maxRecDepth 100000 in
theorem cc_X0 (l : Launch) (g : KG) (b : Nat) : CC l yX0_init cX0_init 1 (rmC 1 12 94) g [.ref b] [(b, .inr (0, [.int (nI 0), .int (nI 0), .int (nI 0), .int (nI 0), .null, .null, .null, .null, .null, .null]))] (S := Nat → Nat) (fun a => a 0 = b) (fun a => hallW g a vm0 z0) 12 94 := by
  refine m_body (by decide) rfl (Nat.le_of_ble_eq_true rfl) (fun J hM hR => ?_)
  show J 0 0 [(b, .inr (0, [.int (nI 0), .int (nI 0), .int (nI 0), .int (nI 0), .null, .null, .null, .null, .null, .null]))] [(0, .ref b)] 0 []
  refine k_aload_n (hM.at (Nat.le_of_ble_eq_true rfl) (Nat.le_of_ble_eq_true rfl)) dX0_init_0 0 rfl ?_
  refine m_obj hM (inr_2 _ (List.mem_of_getElem? (i := 9) rfl)) (Nat.le_of_ble_eq_true rfl) (Nat.le_of_ble_eq_true rfl) (Nat.le_of_ble_eq_true rfl) dX0_init_1 ?_
  refine k_aload_n (hM.at (Nat.le_of_ble_eq_true rfl) (Nat.le_of_ble_eq_true rfl)) dX0_init_4 0 rfl ?_
  refine k_iconst (v := nI 0) (hM.at (Nat.le_of_ble_eq_true rfl) (Nat.le_of_ble_eq_true rfl)) dX0_init_5 (by decide) ?_
  refine pf_X0_9 (ws2 := [(b, .inr (0, [.int (nI 0), .int (nI 0), .int (nI 0), .int (nI 0), .null, .null, .null, .null, .null, .null]))]) (hM.at (Nat.le_of_ble_eq_true rfl) (Nat.le_of_ble_eq_true rfl)) 0 rfl rfl (Nat.le_of_ble_eq_true rfl) dX0_init_6 ?_
  refine k_aload_n (hM.at (Nat.le_of_ble_eq_true rfl) (Nat.le_of_ble_eq_true rfl)) dX0_init_9 0 rfl ?_
  refine k_bipush (v := nI 20) (hM.at (Nat.le_of_ble_eq_true rfl) (Nat.le_of_ble_eq_true rfl)) dX0_init_10 (by decide) ?_
  refine pf_X0_15 (ws2 := [(b, .inr (0, [.int (nI 0), .int (nI 20), .int (nI 0), .int (nI 0), .null, .null, .null, .null, .null, .null]))]) (hM.at (Nat.le_of_ble_eq_true rfl) (Nat.le_of_ble_eq_true rfl)) 0 rfl rfl (Nat.le_of_ble_eq_true rfl) dX0_init_12 ?_
  refine k_aload_n (hM.at (Nat.le_of_ble_eq_true rfl) (Nat.le_of_ble_eq_true rfl)) dX0_init_15 0 rfl ?_
  refine k_iconst (v := nI 0) (hM.at (Nat.le_of_ble_eq_true rfl) (Nat.le_of_ble_eq_true rfl)) dX0_init_16 (by decide) ?_
  refine pf_X0_18 (ws2 := [(b, .inr (0, [.int (nI 0), .int (nI 20), .int (nI 0), .int (nI 0), .null, .null, .null, .null, .null, .null]))]) (hM.at (Nat.le_of_ble_eq_true rfl) (Nat.le_of_ble_eq_true rfl)) 0 rfl rfl (Nat.le_of_ble_eq_true rfl) dX0_init_17 ?_
  refine k_aload_n (hM.at (Nat.le_of_ble_eq_true rfl) (Nat.le_of_ble_eq_true rfl)) dX0_init_20 0 rfl ?_
  refine k_iconst (v := nI 0) (hM.at (Nat.le_of_ble_eq_true rfl) (Nat.le_of_ble_eq_true rfl)) dX0_init_21 (by decide) ?_
  refine pf_X0_21 (ws2 := [(b, .inr (0, [.int (nI 0), .int (nI 20), .int (nI 0), .int (nI 0), .null, .null, .null, .null, .null, .null]))]) (hM.at (Nat.le_of_ble_eq_true rfl) (Nat.le_of_ble_eq_true rfl)) 0 rfl rfl (Nat.le_of_ble_eq_true rfl) dX0_init_22 ?_
  refine k_aload_n (hM.at (Nat.le_of_ble_eq_true rfl) (Nat.le_of_ble_eq_true rfl)) dX0_init_25 0 rfl ?_
  refine k_bipush (v := nI 8) (hM.at (Nat.le_of_ble_eq_true rfl) (Nat.le_of_ble_eq_true rfl)) dX0_init_26 (by decide) ?_
  refine m_newI hM 8 (by decide) (Nat.le_of_ble_eq_true rfl) (Nat.le_of_ble_eq_true rfl) dX0_init_28 (fun q1 => ?_)
  refine m_putF (ty := (.array .int)) (C := RX0) (T := TX0) (N := 10) (ci := 0) (ws2 := [(b, .inr (0, [.int (nI 0), .int (nI 20), .int (nI 0), .int (nI 0), .ref (q1), .null, .null, .null, .null, .null])), (q1, .inl (kI g, 8, .inl (fun _ => nI 0)))]) hM 0 rfl 4 rfl rfl inlX0 tyX0 tyX0_ok nmX0 (Nat.le_of_ble_eq_true rfl) fl_X0_24 rfl rfl (by decide +kernel) rfl rfl (Nat.le_of_ble_eq_true rfl) dX0_init_30 ?_
  refine k_aload_n (hM.at (Nat.le_of_ble_eq_true rfl) (Nat.le_of_ble_eq_true rfl)) dX0_init_33 0 rfl ?_
  refine k_bipush (v := nI 8) (hM.at (Nat.le_of_ble_eq_true rfl) (Nat.le_of_ble_eq_true rfl)) dX0_init_34 (by decide) ?_
  refine m_newI hM 8 (by decide) (Nat.le_of_ble_eq_true rfl) (Nat.le_of_ble_eq_true rfl) dX0_init_36 (fun q2 => ?_)
  refine m_putF (ty := (.array .int)) (C := RX0) (T := TX0) (N := 10) (ci := 0) (ws2 := [(b, .inr (0, [.int (nI 0), .int (nI 20), .int (nI 0), .int (nI 0), .ref (q1), .ref (q2), .null, .null, .null, .null])), (q1, .inl (kI g, 8, .inl (fun _ => nI 0))), (q2, .inl (kI g, 8, .inl (fun _ => nI 0)))]) hM 0 rfl 5 rfl rfl inlX0 tyX0 tyX0_ok nmX0 (Nat.le_of_ble_eq_true rfl) fl_X0_28 rfl rfl (by decide +kernel) rfl rfl (Nat.le_of_ble_eq_true rfl) dX0_init_38 ?_
  refine k_aload_n (hM.at (Nat.le_of_ble_eq_true rfl) (Nat.le_of_ble_eq_true rfl)) dX0_init_41 0 rfl ?_
  refine k_bipush (v := nI 8) (hM.at (Nat.le_of_ble_eq_true rfl) (Nat.le_of_ble_eq_true rfl)) dX0_init_42 (by decide) ?_
  refine m_newI hM 8 (by decide) (Nat.le_of_ble_eq_true rfl) (Nat.le_of_ble_eq_true rfl) dX0_init_44 (fun q3 => ?_)
  refine m_putF (ty := (.array .int)) (C := RX0) (T := TX0) (N := 10) (ci := 0) (ws2 := [(b, .inr (0, [.int (nI 0), .int (nI 20), .int (nI 0), .int (nI 0), .ref (q1), .ref (q2), .ref (q3), .null, .null, .null])), (q1, .inl (kI g, 8, .inl (fun _ => nI 0))), (q2, .inl (kI g, 8, .inl (fun _ => nI 0))), (q3, .inl (kI g, 8, .inl (fun _ => nI 0)))]) hM 0 rfl 6 rfl rfl inlX0 tyX0 tyX0_ok nmX0 (Nat.le_of_ble_eq_true rfl) fl_X0_31 rfl rfl (by decide +kernel) rfl rfl (Nat.le_of_ble_eq_true rfl) dX0_init_46 ?_
  refine k_aload_n (hM.at (Nat.le_of_ble_eq_true rfl) (Nat.le_of_ble_eq_true rfl)) dX0_init_49 0 rfl ?_
  refine k_bipush (v := nI 8) (hM.at (Nat.le_of_ble_eq_true rfl) (Nat.le_of_ble_eq_true rfl)) dX0_init_50 (by decide) ?_
  refine m_newI hM 8 (by decide) (Nat.le_of_ble_eq_true rfl) (Nat.le_of_ble_eq_true rfl) dX0_init_52 (fun q4 => ?_)
  refine m_putF (ty := (.array .int)) (C := RX0) (T := TX0) (N := 10) (ci := 0) (ws2 := [(b, .inr (0, [.int (nI 0), .int (nI 20), .int (nI 0), .int (nI 0), .ref (q1), .ref (q2), .ref (q3), .ref (q4), .null, .null])), (q1, .inl (kI g, 8, .inl (fun _ => nI 0))), (q2, .inl (kI g, 8, .inl (fun _ => nI 0))), (q3, .inl (kI g, 8, .inl (fun _ => nI 0))), (q4, .inl (kI g, 8, .inl (fun _ => nI 0)))]) hM 0 rfl 7 rfl rfl inlX0 tyX0 tyX0_ok nmX0 (Nat.le_of_ble_eq_true rfl) fl_X0_34 rfl rfl (by decide +kernel) rfl rfl (Nat.le_of_ble_eq_true rfl) dX0_init_54 ?_
  refine k_aload_n (hM.at (Nat.le_of_ble_eq_true rfl) (Nat.le_of_ble_eq_true rfl)) dX0_init_57 0 rfl ?_
  refine k_bipush (v := nI 6) (hM.at (Nat.le_of_ble_eq_true rfl) (Nat.le_of_ble_eq_true rfl)) dX0_init_58 (by decide) ?_
  refine k_bipush (v := nI 8) (hM.at (Nat.le_of_ble_eq_true rfl) (Nat.le_of_ble_eq_true rfl)) dX0_init_60 (by decide) ?_
  refine m_mna hM (inr_2 _ (List.mem_of_getElem? (i := 18) rfl)) (Nat.le_of_ble_eq_true rfl) (Nat.le_of_ble_eq_true rfl) dX0_init_62 (fun q5 r6 => ?_)
  refine m_putF (ty := (.array (.array .int))) (C := RX0) (T := TX0) (N := 10) (ci := 0) (ws2 := [(b, .inr (0, [.int (nI 0), .int (nI 20), .int (nI 0), .int (nI 0), .ref (q1), .ref (q2), .ref (q3), .ref (q4), .ref (q5), .null])), (q1, .inl (kI g, 8, .inl (fun _ => nI 0))), (q2, .inl (kI g, 8, .inl (fun _ => nI 0))), (q3, .inl (kI g, 8, .inl (fun _ => nI 0))), (q4, .inl (kI g, 8, .inl (fun _ => nI 0))), (q5, .inl (kO g, 6, .inr (.inr (.inr (.inr (fun i => some (r6 i))))))), (r6 0, .inl (kI g, 8, .inl (fun _ => nI 0))), (r6 1, .inl (kI g, 8, .inl (fun _ => nI 0))), (r6 2, .inl (kI g, 8, .inl (fun _ => nI 0))), (r6 3, .inl (kI g, 8, .inl (fun _ => nI 0))), (r6 4, .inl (kI g, 8, .inl (fun _ => nI 0))), (r6 5, .inl (kI g, 8, .inl (fun _ => nI 0)))]) hM 0 rfl 8 rfl rfl inlX0 tyX0 tyX0_ok nmX0 (Nat.le_of_ble_eq_true rfl) fl_X0_39 rfl rfl (by decide +kernel) rfl rfl (Nat.le_of_ble_eq_true rfl) dX0_init_66 ?_
  refine k_aload_n (hM.at (Nat.le_of_ble_eq_true rfl) (Nat.le_of_ble_eq_true rfl)) dX0_init_69 0 rfl ?_
  refine k_bipush (v := nI 8) (hM.at (Nat.le_of_ble_eq_true rfl) (Nat.le_of_ble_eq_true rfl)) dX0_init_70 (by decide) ?_
  refine m_newI hM 8 (by decide) (Nat.le_of_ble_eq_true rfl) (Nat.le_of_ble_eq_true rfl) dX0_init_72 (fun q7 => ?_)
  refine m_putF (ty := (.array .int)) (C := RX0) (T := TX0) (N := 10) (ci := 0) (ws2 := [(b, .inr (0, [.int (nI 0), .int (nI 20), .int (nI 0), .int (nI 0), .ref (q1), .ref (q2), .ref (q3), .ref (q4), .ref (q5), .ref (q7)])), (q1, .inl (kI g, 8, .inl (fun _ => nI 0))), (q2, .inl (kI g, 8, .inl (fun _ => nI 0))), (q3, .inl (kI g, 8, .inl (fun _ => nI 0))), (q4, .inl (kI g, 8, .inl (fun _ => nI 0))), (q5, .inl (kO g, 6, .inr (.inr (.inr (.inr (fun i => some (r6 i))))))), (r6 0, .inl (kI g, 8, .inl (fun _ => nI 0))), (r6 1, .inl (kI g, 8, .inl (fun _ => nI 0))), (r6 2, .inl (kI g, 8, .inl (fun _ => nI 0))), (r6 3, .inl (kI g, 8, .inl (fun _ => nI 0))), (r6 4, .inl (kI g, 8, .inl (fun _ => nI 0))), (r6 5, .inl (kI g, 8, .inl (fun _ => nI 0))), (q7, .inl (kI g, 8, .inl (fun _ => nI 0)))]) hM 0 rfl 9 rfl rfl inlX0 tyX0 tyX0_ok nmX0 (Nat.le_of_ble_eq_true rfl) fl_X0_42 rfl rfl (by decide +kernel) rfl rfl (Nat.le_of_ble_eq_true rfl) dX0_init_74 ?_
  refine m_cell (x2 := (6, .inr (.inr (.inr (.inr (fun i => some ((aOf [b, q1, q2, q3, q4, q5, q7, r6 0, r6 1, r6 2, r6 3, r6 4, r6 5]) (7 + i)))))))) (ws2 := [(b, .inr (0, [.int (nI 0), .int (nI 20), .int (nI 0), .int (nI 0), .ref (q1), .ref (q2), .ref (q3), .ref (q4), .ref (q5), .ref (q7)])), (q1, .inl (kI g, 8, .inl (fun _ => nI 0))), (q2, .inl (kI g, 8, .inl (fun _ => nI 0))), (q3, .inl (kI g, 8, .inl (fun _ => nI 0))), (q4, .inl (kI g, 8, .inl (fun _ => nI 0))), (q5, .inl (kO g, 6, .inr (.inr (.inr (.inr (fun i => some ((aOf [b, q1, q2, q3, q4, q5, q7, r6 0, r6 1, r6 2, r6 3, r6 4, r6 5]) (7 + i)))))))), (r6 0, .inl (kI g, 8, .inl (fun _ => nI 0))), (r6 1, .inl (kI g, 8, .inl (fun _ => nI 0))), (r6 2, .inl (kI g, 8, .inl (fun _ => nI 0))), (r6 3, .inl (kI g, 8, .inl (fun _ => nI 0))), (r6 4, .inl (kI g, 8, .inl (fun _ => nI 0))), (r6 5, .inl (kI g, 8, .inl (fun _ => nI 0))), (q7, .inl (kI g, 8, .inl (fun _ => nI 0)))]) hM 5 rfl ?_ rfl ?_
  · exact arrV_cong (N := 6) (f := fun j => va_rf (some (r6 j))) (f2 := fun j => va_rf (some ((aOf [b, q1, q2, q3, q4, q5, q7, r6 0, r6 1, r6 2, r6 3, r6 4, r6 5]) (7 + j)))) (fun j hj => by rcases (show j = 0 ∨ j = 1 ∨ j = 2 ∨ j = 3 ∨ j = 4 ∨ j = 5 by omega) with rfl | rfl | rfl | rfl | rfl | rfl <;> rfl)
  refine m_sub (ws2 := hallW g (aOf [b, q1, q2, q3, q4, q5, q7, r6 0, r6 1, r6 2, r6 3, r6 4, r6 5]) vm0 z0) hM [0, 1, 2, 3, 4, 5, 12, 6, 7, 8, 9, 10, 11] (by decide) (by rw [hall0_eq]; rfl) ?_
  exact hR _ _ (aOf [b, q1, q2, q3, q4, q5, q7, r6 0, r6 1, r6 2, r6 3, r6 4, r6 5]) dX0_init_77 rfl
set_option maxHeartbeats 4000000 in
set_option maxRecDepth 100000 in
theorem cc_X1 (l : Launch) (g : KG) (b : Nat) : CC l yX1_init cX1_init 1 (rmC 1 1 40) g [.ref b] [(b, .inr (1, [.int (nI 0), .int (nI 0), .null]))] (S := Nat) (fun _ => True) (fun q => [(b, .inr (1, [.int (nI 0), .int (nI 0), .ref q])), (q, .inl (kL g, 40, .inr (.inl (fun _ => 0))))]) 1 40 := by
  refine m_body (by decide) rfl (Nat.le_of_ble_eq_true rfl) (fun J hM hR => ?_)
  show J 0 0 [(b, .inr (1, [.int (nI 0), .int (nI 0), .null]))] [(0, .ref b)] 0 []
  refine k_aload_n (hM.at (Nat.le_of_ble_eq_true rfl) (Nat.le_of_ble_eq_true rfl)) dX1_init_0 0 rfl ?_
  refine m_obj hM (inr_3 _ (List.mem_of_getElem? (i := 10) rfl)) (Nat.le_of_ble_eq_true rfl) (Nat.le_of_ble_eq_true rfl) (Nat.le_of_ble_eq_true rfl) dX1_init_1 ?_
  refine k_aload_n (hM.at (Nat.le_of_ble_eq_true rfl) (Nat.le_of_ble_eq_true rfl)) dX1_init_4 0 rfl ?_
  refine k_iconst (v := nI 0) (hM.at (Nat.le_of_ble_eq_true rfl) (Nat.le_of_ble_eq_true rfl)) dX1_init_5 (by decide) ?_
  refine pf_X1_9 (ws2 := [(b, .inr (1, [.int (nI 0), .int (nI 0), .null]))]) (hM.at (Nat.le_of_ble_eq_true rfl) (Nat.le_of_ble_eq_true rfl)) 0 rfl rfl (Nat.le_of_ble_eq_true rfl) dX1_init_6 ?_
  refine k_aload_n (hM.at (Nat.le_of_ble_eq_true rfl) (Nat.le_of_ble_eq_true rfl)) dX1_init_9 0 rfl ?_
  refine k_iconst (v := nI 0) (hM.at (Nat.le_of_ble_eq_true rfl) (Nat.le_of_ble_eq_true rfl)) dX1_init_10 (by decide) ?_
  refine pf_X1_15 (ws2 := [(b, .inr (1, [.int (nI 0), .int (nI 0), .null]))]) (hM.at (Nat.le_of_ble_eq_true rfl) (Nat.le_of_ble_eq_true rfl)) 0 rfl rfl (Nat.le_of_ble_eq_true rfl) dX1_init_11 ?_
  refine k_aload_n (hM.at (Nat.le_of_ble_eq_true rfl) (Nat.le_of_ble_eq_true rfl)) dX1_init_14 0 rfl ?_
  refine k_bipush (v := nI 40) (hM.at (Nat.le_of_ble_eq_true rfl) (Nat.le_of_ble_eq_true rfl)) dX1_init_15 (by decide) ?_
  refine m_newL hM 40 (by decide) (Nat.le_of_ble_eq_true rfl) (Nat.le_of_ble_eq_true rfl) dX1_init_17 (fun q1 => ?_)
  refine m_putF (ty := (.array .long)) (C := RX1) (T := TX1) (N := 3) (ci := 1) (ws2 := [(b, .inr (1, [.int (nI 0), .int (nI 0), .ref (q1)])), (q1, .inl (kL g, 40, .inr (.inl (fun _ => 0))))]) hM 0 rfl 2 rfl rfl inlX1 tyX1 tyX1_ok nmX1 (Nat.le_of_ble_eq_true rfl) fl_X1_18 rfl rfl (by decide +kernel) rfl rfl (Nat.le_of_ble_eq_true rfl) dX1_init_19 ?_
  exact hR _ _ q1 dX1_init_22 trivial
set_option maxHeartbeats 4000000 in
set_option maxRecDepth 100000 in
theorem cc_X2 (l : Launch) (g : KG) (b : Nat) : CC l yX2_init cX2_init 1 (rmC 1 1 120) g [.ref b] [(b, .inr (2, [.int (nI 0), .null, .int (nI 0), .int (nI 0), .int (nI 0), .int (nI 0)]))] (S := Nat → Nat) (fun a => a 2 = b) (fun a => tapW g a (fun _ => 0) 0 0 0 0 0) 1 120 := by
  refine m_body (by decide) rfl (Nat.le_of_ble_eq_true rfl) (fun J hM hR => ?_)
  show J 0 0 [(b, .inr (2, [.int (nI 0), .null, .int (nI 0), .int (nI 0), .int (nI 0), .int (nI 0)]))] [(0, .ref b)] 0 []
  refine k_aload_n (hM.at (Nat.le_of_ble_eq_true rfl) (Nat.le_of_ble_eq_true rfl)) dX2_init_0 0 rfl ?_
  refine m_obj hM (inr_3 _ (List.mem_of_getElem? (i := 0) rfl)) (Nat.le_of_ble_eq_true rfl) (Nat.le_of_ble_eq_true rfl) (Nat.le_of_ble_eq_true rfl) dX2_init_1 ?_
  refine k_aload_n (hM.at (Nat.le_of_ble_eq_true rfl) (Nat.le_of_ble_eq_true rfl)) dX2_init_4 0 rfl ?_
  refine k_iconst (v := nI 0) (hM.at (Nat.le_of_ble_eq_true rfl) (Nat.le_of_ble_eq_true rfl)) dX2_init_5 (by decide) ?_
  refine pf_X2_9 (ws2 := [(b, .inr (2, [.int (nI 0), .null, .int (nI 0), .int (nI 0), .int (nI 0), .int (nI 0)]))]) (hM.at (Nat.le_of_ble_eq_true rfl) (Nat.le_of_ble_eq_true rfl)) 0 rfl rfl (Nat.le_of_ble_eq_true rfl) dX2_init_6 ?_
  refine k_aload_n (hM.at (Nat.le_of_ble_eq_true rfl) (Nat.le_of_ble_eq_true rfl)) dX2_init_9 0 rfl ?_
  refine k_bipush (v := nI 120) (hM.at (Nat.le_of_ble_eq_true rfl) (Nat.le_of_ble_eq_true rfl)) dX2_init_10 (by decide) ?_
  refine m_newI hM 120 (by decide) (Nat.le_of_ble_eq_true rfl) (Nat.le_of_ble_eq_true rfl) dX2_init_12 (fun q1 => ?_)
  refine m_putF (ty := (.array .int)) (C := RX2) (T := TX2) (N := 6) (ci := 2) (ws2 := [(b, .inr (2, [.int (nI 0), .ref (q1), .int (nI 0), .int (nI 0), .int (nI 0), .int (nI 0)])), (q1, .inl (kI g, 120, .inl (fun _ => nI 0)))]) hM 0 rfl 1 rfl rfl inlX2 tyX2 tyX2_ok nmX2 (Nat.le_of_ble_eq_true rfl) fl_X2_15 rfl rfl (by decide +kernel) rfl rfl (Nat.le_of_ble_eq_true rfl) dX2_init_14 ?_
  refine k_aload_n (hM.at (Nat.le_of_ble_eq_true rfl) (Nat.le_of_ble_eq_true rfl)) dX2_init_17 0 rfl ?_
  refine k_iconst (v := nI 0) (hM.at (Nat.le_of_ble_eq_true rfl) (Nat.le_of_ble_eq_true rfl)) dX2_init_18 (by decide) ?_
  refine pf_X2_19 (ws2 := [(b, .inr (2, [.int (nI 0), .ref (q1), .int (nI 0), .int (nI 0), .int (nI 0), .int (nI 0)])), (q1, .inl (kI g, 120, .inl (fun _ => nI 0)))]) (hM.at (Nat.le_of_ble_eq_true rfl) (Nat.le_of_ble_eq_true rfl)) 0 rfl rfl (Nat.le_of_ble_eq_true rfl) dX2_init_19 ?_
  refine k_aload_n (hM.at (Nat.le_of_ble_eq_true rfl) (Nat.le_of_ble_eq_true rfl)) dX2_init_22 0 rfl ?_
  refine k_iconst (v := nI 0) (hM.at (Nat.le_of_ble_eq_true rfl) (Nat.le_of_ble_eq_true rfl)) dX2_init_23 (by decide) ?_
  refine pf_X2_22 (ws2 := [(b, .inr (2, [.int (nI 0), .ref (q1), .int (nI 0), .int (nI 0), .int (nI 0), .int (nI 0)])), (q1, .inl (kI g, 120, .inl (fun _ => nI 0)))]) (hM.at (Nat.le_of_ble_eq_true rfl) (Nat.le_of_ble_eq_true rfl)) 0 rfl rfl (Nat.le_of_ble_eq_true rfl) dX2_init_24 ?_
  refine k_aload_n (hM.at (Nat.le_of_ble_eq_true rfl) (Nat.le_of_ble_eq_true rfl)) dX2_init_27 0 rfl ?_
  refine k_iconst (v := nI 0) (hM.at (Nat.le_of_ble_eq_true rfl) (Nat.le_of_ble_eq_true rfl)) dX2_init_28 (by decide) ?_
  refine pf_X2_25 (ws2 := [(b, .inr (2, [.int (nI 0), .ref (q1), .int (nI 0), .int (nI 0), .int (nI 0), .int (nI 0)])), (q1, .inl (kI g, 120, .inl (fun _ => nI 0)))]) (hM.at (Nat.le_of_ble_eq_true rfl) (Nat.le_of_ble_eq_true rfl)) 0 rfl rfl (Nat.le_of_ble_eq_true rfl) dX2_init_29 ?_
  refine k_aload_n (hM.at (Nat.le_of_ble_eq_true rfl) (Nat.le_of_ble_eq_true rfl)) dX2_init_32 0 rfl ?_
  refine k_iconst (v := nI 0) (hM.at (Nat.le_of_ble_eq_true rfl) (Nat.le_of_ble_eq_true rfl)) dX2_init_33 (by decide) ?_
  refine pf_X2_28 (ws2 := [(b, .inr (2, [.int (nI 0), .ref (q1), .int (nI 0), .int (nI 0), .int (nI 0), .int (nI 0)])), (q1, .inl (kI g, 120, .inl (fun _ => nI 0)))]) (hM.at (Nat.le_of_ble_eq_true rfl) (Nat.le_of_ble_eq_true rfl)) 0 rfl rfl (Nat.le_of_ble_eq_true rfl) dX2_init_34 ?_
  exact hR _ _ (aOf [0, 0, b, q1]) dX2_init_37 rfl
