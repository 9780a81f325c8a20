set_option maxHeartbeats 4000000 in
set_option maxRecDepth 100000 in
theorem lw_main {l : Launch} {g : KG} {sc L : Nat} {xs : Nat → Int32} {J : Nat → Nat → KT} (hM : KO2 false l room_1 cL_law RL 4 g J) (hJ : KLw l room_1 cL_law RL 4 g sc L xs (J 64 1366)) (hL : L ≤ 3072) (hEnd : ∀ (ws : va_W) (lv : List (Nat × Value)), J 64 1366 ws lv 1512 []) : J 0 0 [] [(0, .ref sc)] 0 [] := by
  refine m_new (N := 7) (ci := 3) hM [.null, .null, .null, .null, .null, .null, .int (kb false)] rfl inlX3 tyX3 tyX3_ok (inr_1 _ (List.mem_of_getElem? (i := 0) rfl)) (inr_1 _ (List.mem_of_getElem? (i := 1) rfl)) (inr_1 _ (List.mem_of_getElem? (i := 2) rfl)) df_X3 (Nat.le_of_ble_eq_true rfl) (Nat.le_of_ble_eq_true rfl) dL_law_0 (fun q1 => ?_)
  refine k_dup (hM.at (Nat.le_of_ble_eq_true rfl) (Nat.le_of_ble_eq_true rfl)) dL_law_3 rfl ?_
  refine m_callI hM (cc_X3 l g q1) ⟨rfl, by decide +kernel, by decide +kernel, by decide +kernel⟩ (inr_1 _ (List.mem_of_getElem? (i := 8) rfl)) (inr_1 _ (List.mem_of_getElem? (i := 2) rfl)) (inr_1 _ (List.mem_of_getElem? (i := 9) rfl)) ml_L_9 rfl rfl ⟨(Nat.le_of_ble_eq_true rfl), (Nat.le_of_ble_eq_true rfl)⟩ (Nat.le_of_ble_eq_true rfl) (Nat.le_of_ble_eq_true rfl) (Nat.le_of_ble_eq_true rfl) dL_law_4 (fun u hu => ?_)
  obtain ⟨a, aK, aL, aT⟩ := u
  have hu : a 0 = q1 := hu
  subst hu
  refine k_astore_n (lv1 := [(0, .ref sc), (1, .ref (a 0))]) (hM.at (Nat.le_of_ble_eq_true rfl) (Nat.le_of_ble_eq_true rfl)) dL_law_7 (by decide) [1, 0] rfl ?_
  refine m_new (N := 19) (ci := 4) hM [.null, .null, .null, .null, .null, .int (kb false), .null, .int (nI 0), .int (nI 0), .null, .int (nI 0), .int (nI 0), .int (nI 0), .int (nI 0), .int (kb false), .null, .null, .null, .null] rfl inlX4 tyX4 tyX4_ok (inr_1 _ (List.mem_of_getElem? (i := 3) rfl)) (inr_1 _ (List.mem_of_getElem? (i := 4) rfl)) (inr_1 _ (List.mem_of_getElem? (i := 5) rfl)) df_X4 (Nat.le_of_ble_eq_true rfl) (Nat.le_of_ble_eq_true rfl) dL_law_8 (fun q2 => ?_)
  refine k_dup (hM.at (Nat.le_of_ble_eq_true rfl) (Nat.le_of_ble_eq_true rfl)) dL_law_11 rfl ?_
  refine m_callI hM (cc_X4 l g q2) ⟨rfl, by decide +kernel, by decide +kernel, by decide +kernel⟩ (inr_3 _ (List.mem_of_getElem? (i := 16) rfl)) (inr_1 _ (List.mem_of_getElem? (i := 5) rfl)) (inr_3 _ (List.mem_of_getElem? (i := 17) rfl)) ml_L_12 rfl rfl ⟨(Nat.le_of_ble_eq_true rfl), (Nat.le_of_ble_eq_true rfl)⟩ (Nat.le_of_ble_eq_true rfl) (Nat.le_of_ble_eq_true rfl) (Nat.le_of_ble_eq_true rfl) dL_law_12 (fun b hb => ?_)
  have hb : b 0 = q2 := hb
  subst hb
  refine k_astore_n (lv1 := [(0, .ref sc), (1, .ref (a 0)), (2, .ref (b 0))]) (hM.at (Nat.le_of_ble_eq_true rfl) (Nat.le_of_ble_eq_true rfl)) dL_law_15 (by decide) [1, 2, 0] rfl ?_
  refine k_iconst (v := nI 0) (hM.at (Nat.le_of_ble_eq_true rfl) (Nat.le_of_ble_eq_true rfl)) dL_law_16 (by decide) ?_
  refine k_istore_n (lv1 := [(0, .ref sc), (1, .ref (a 0)), (2, .ref (b 0)), (3, .int (nI 0))]) (hM.at (Nat.le_of_ble_eq_true rfl) (Nat.le_of_ble_eq_true rfl)) dL_law_17 (by decide) [1, 2, 3, 0] rfl ?_
  show J 64 1366 (clsA g a aK aL aT ks0 cj0 ++ modA g b ks0 mj0) [(0, .ref sc), (1, .ref (a 0)), (2, .ref (b 0)), (3, .int (nI 0))] 18 []
  exact lw_loop hJ hL hEnd L 0 ks0 cj0 mj0 (by decide) (by omega) kOk0
