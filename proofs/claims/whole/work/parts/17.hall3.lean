theorem hb_cp {D : va_G} {cl : List vw_C} {ws : va_W} {H : Heap} {q a : Nat} {c : ClassId} {f f1 : Nat → Int32} (he : ws[q]? = some (a, .inl (c, 8, .inl f1))) (hP : va_P D cl (ws.set q (a, .inl (c, 8, .inl (va_cpy f f1 0 0 8)))) H) : va_P D cl (ws.set q (a, .inl (c, 8, .inl f))) H := by
  have := kP_arr (q := q) (f2 := f) (by rw [List.getElem?_set_self (List.getElem?_eq_some_iff.mp he).1]) (fun i hi => by
    rw [pk_cpy_in (by omega) (by omega)]
    simp only [Nat.zero_add, Nat.sub_zero]) hP
  rwa [List.set_set] at this
theorem k_copy8 {l : Launch} {cc : ByteArray} {own : String} {nL : Nat} {g : KG} {J : KT} {ws ws2 : va_W} {lv : List (Nat × Value)} {pc : Nat} {st : List Value} {h : Nat} (hJ : KO l (rmK (h + 1)) cc own nL g J) {index a0 a1 : Nat} {f f1 : Nat → Int32} (hlk : Cond.methodLink own index arraycopyName ∈ wsL_law) (q0 q1 : Nat) (he0 : ws[q0]? = some (a0, .inl (kI g, 8, .inl f))) (he1 : ws[q1]? = some (a1, .inl (kI g, 8, .inl f1))) (hws : ws.set q1 (a1, .inl (kI g, 8, .inl f)) = ws2) (hdep : (st.map (fun v => v.category)).sum ≤ 8) (hd : decode cc pc = .ok (.invokestatic index, 3)) (k : J ws2 lv (pc + 3) st) : J ws lv pc (.int (nI 8) :: .int (nI 0) :: .ref a1 :: .int (nI 0) :: .ref a0 :: st) :=
  k_copyi hJ hlk q0 q1 he0 he1 (by omega) (by omega) (by decide) (by decide) rfl hdep hd (k_ws hJ (fun H hP => by rw [← hws]; exact hb_cp he1 hP) (by rw [← hws, hs_set_addr he1, hs_set_addr he1]) k)
def vCol (m k : Nat → Nat) (c : Nat) : Nat → Nat := fun j => if 4 ≤ j ∧ (j - 4) % 10 = c then k j else m j
theorem vCol_ne {m k : Nat → Nat} {c j : Nat} (h : ¬ (4 ≤ j ∧ (j - 4) % 10 = c)) : vCol m k c j = m j := if_neg h
theorem hs_col0 (g : KG) (a m k : Nat → Nat) (lt : Nat → Int32) : (hallW g a m lt).set 1 (a 1, .inl (kI g, 8, .inl (fun i => nI (k (4 + 10 * i + 0))))) = hallW g a (vCol m k 0) lt := by
  conv => rhs; unfold hallW
  rw [show vCol m k 0 0 = m 0 from vCol_ne (by omega), show vCol m k 0 1 = m 1 from vCol_ne (by omega), show vCol m k 0 2 = m 2 from vCol_ne (by omega), show vCol m k 0 3 = m 3 from vCol_ne (by omega), show (fun i => nI (vCol m k 0 (4 + 10 * i + 1))) = (fun i => nI (m (4 + 10 * i + 1))) from funext fun i => by rw [vCol_ne (by omega)], show (fun i => nI (vCol m k 0 (4 + 10 * i + 2))) = (fun i => nI (m (4 + 10 * i + 2))) from funext fun i => by rw [vCol_ne (by omega)], show (fun i => nI (vCol m k 0 (4 + 10 * i + 3))) = (fun i => nI (m (4 + 10 * i + 3))) from funext fun i => by rw [vCol_ne (by omega)], show (fun i => nI (vCol m k 0 (4 + 10 * i + 0))) = (fun i => nI (k (4 + 10 * i + 0))) from funext fun i => congrArg nI (if_pos (by omega)), show (fun i => nI (vCol m k 0 (4 + 10 * i + (4 + 0)))) = (fun i => nI (m (4 + 10 * i + (4 + 0)))) from funext fun i => by rw [vCol_ne (by omega)], show (fun i => nI (vCol m k 0 (4 + 10 * i + (4 + 1)))) = (fun i => nI (m (4 + 10 * i + (4 + 1)))) from funext fun i => by rw [vCol_ne (by omega)], show (fun i => nI (vCol m k 0 (4 + 10 * i + (4 + 2)))) = (fun i => nI (m (4 + 10 * i + (4 + 2)))) from funext fun i => by rw [vCol_ne (by omega)], show (fun i => nI (vCol m k 0 (4 + 10 * i + (4 + 3)))) = (fun i => nI (m (4 + 10 * i + (4 + 3)))) from funext fun i => by rw [vCol_ne (by omega)], show (fun i => nI (vCol m k 0 (4 + 10 * i + (4 + 4)))) = (fun i => nI (m (4 + 10 * i + (4 + 4)))) from funext fun i => by rw [vCol_ne (by omega)], show (fun i => nI (vCol m k 0 (4 + 10 * i + (4 + 5)))) = (fun i => nI (m (4 + 10 * i + (4 + 5)))) from funext fun i => by rw [vCol_ne (by omega)]]
  rfl
theorem hs_col1 (g : KG) (a m k : Nat → Nat) (lt : Nat → Int32) : (hallW g a m lt).set 2 (a 2, .inl (kI g, 8, .inl (fun i => nI (k (4 + 10 * i + 1))))) = hallW g a (vCol m k 1) lt := by
  conv => rhs; unfold hallW
  rw [show vCol m k 1 0 = m 0 from vCol_ne (by omega), show vCol m k 1 1 = m 1 from vCol_ne (by omega), show vCol m k 1 2 = m 2 from vCol_ne (by omega), show vCol m k 1 3 = m 3 from vCol_ne (by omega), show (fun i => nI (vCol m k 1 (4 + 10 * i + 0))) = (fun i => nI (m (4 + 10 * i + 0))) from funext fun i => by rw [vCol_ne (by omega)], show (fun i => nI (vCol m k 1 (4 + 10 * i + 2))) = (fun i => nI (m (4 + 10 * i + 2))) from funext fun i => by rw [vCol_ne (by omega)], show (fun i => nI (vCol m k 1 (4 + 10 * i + 3))) = (fun i => nI (m (4 + 10 * i + 3))) from funext fun i => by rw [vCol_ne (by omega)], show (fun i => nI (vCol m k 1 (4 + 10 * i + 1))) = (fun i => nI (k (4 + 10 * i + 1))) from funext fun i => congrArg nI (if_pos (by omega)), show (fun i => nI (vCol m k 1 (4 + 10 * i + (4 + 0)))) = (fun i => nI (m (4 + 10 * i + (4 + 0)))) from funext fun i => by rw [vCol_ne (by omega)], show (fun i => nI (vCol m k 1 (4 + 10 * i + (4 + 1)))) = (fun i => nI (m (4 + 10 * i + (4 + 1)))) from funext fun i => by rw [vCol_ne (by omega)], show (fun i => nI (vCol m k 1 (4 + 10 * i + (4 + 2)))) = (fun i => nI (m (4 + 10 * i + (4 + 2)))) from funext fun i => by rw [vCol_ne (by omega)], show (fun i => nI (vCol m k 1 (4 + 10 * i + (4 + 3)))) = (fun i => nI (m (4 + 10 * i + (4 + 3)))) from funext fun i => by rw [vCol_ne (by omega)], show (fun i => nI (vCol m k 1 (4 + 10 * i + (4 + 4)))) = (fun i => nI (m (4 + 10 * i + (4 + 4)))) from funext fun i => by rw [vCol_ne (by omega)], show (fun i => nI (vCol m k 1 (4 + 10 * i + (4 + 5)))) = (fun i => nI (m (4 + 10 * i + (4 + 5)))) from funext fun i => by rw [vCol_ne (by omega)]]
  rfl
theorem hs_col2 (g : KG) (a m k : Nat → Nat) (lt : Nat → Int32) : (hallW g a m lt).set 3 (a 3, .inl (kI g, 8, .inl (fun i => nI (k (4 + 10 * i + 2))))) = hallW g a (vCol m k 2) lt := by
  conv => rhs; unfold hallW
  rw [show vCol m k 2 0 = m 0 from vCol_ne (by omega), show vCol m k 2 1 = m 1 from vCol_ne (by omega), show vCol m k 2 2 = m 2 from vCol_ne (by omega), show vCol m k 2 3 = m 3 from vCol_ne (by omega), show (fun i => nI (vCol m k 2 (4 + 10 * i + 0))) = (fun i => nI (m (4 + 10 * i + 0))) from funext fun i => by rw [vCol_ne (by omega)], show (fun i => nI (vCol m k 2 (4 + 10 * i + 1))) = (fun i => nI (m (4 + 10 * i + 1))) from funext fun i => by rw [vCol_ne (by omega)], show (fun i => nI (vCol m k 2 (4 + 10 * i + 3))) = (fun i => nI (m (4 + 10 * i + 3))) from funext fun i => by rw [vCol_ne (by omega)], show (fun i => nI (vCol m k 2 (4 + 10 * i + 2))) = (fun i => nI (k (4 + 10 * i + 2))) from funext fun i => congrArg nI (if_pos (by omega)), show (fun i => nI (vCol m k 2 (4 + 10 * i + (4 + 0)))) = (fun i => nI (m (4 + 10 * i + (4 + 0)))) from funext fun i => by rw [vCol_ne (by omega)], show (fun i => nI (vCol m k 2 (4 + 10 * i + (4 + 1)))) = (fun i => nI (m (4 + 10 * i + (4 + 1)))) from funext fun i => by rw [vCol_ne (by omega)], show (fun i => nI (vCol m k 2 (4 + 10 * i + (4 + 2)))) = (fun i => nI (m (4 + 10 * i + (4 + 2)))) from funext fun i => by rw [vCol_ne (by omega)], show (fun i => nI (vCol m k 2 (4 + 10 * i + (4 + 3)))) = (fun i => nI (m (4 + 10 * i + (4 + 3)))) from funext fun i => by rw [vCol_ne (by omega)], show (fun i => nI (vCol m k 2 (4 + 10 * i + (4 + 4)))) = (fun i => nI (m (4 + 10 * i + (4 + 4)))) from funext fun i => by rw [vCol_ne (by omega)], show (fun i => nI (vCol m k 2 (4 + 10 * i + (4 + 5)))) = (fun i => nI (m (4 + 10 * i + (4 + 5)))) from funext fun i => by rw [vCol_ne (by omega)]]
  rfl
theorem hs_col3 (g : KG) (a m k : Nat → Nat) (lt : Nat → Int32) : (hallW g a m lt).set 4 (a 4, .inl (kI g, 8, .inl (fun i => nI (k (4 + 10 * i + 3))))) = hallW g a (vCol m k 3) lt := by
  conv => rhs; unfold hallW
  rw [show vCol m k 3 0 = m 0 from vCol_ne (by omega), show vCol m k 3 1 = m 1 from vCol_ne (by omega), show vCol m k 3 2 = m 2 from vCol_ne (by omega), show vCol m k 3 3 = m 3 from vCol_ne (by omega), show (fun i => nI (vCol m k 3 (4 + 10 * i + 0))) = (fun i => nI (m (4 + 10 * i + 0))) from funext fun i => by rw [vCol_ne (by omega)], show (fun i => nI (vCol m k 3 (4 + 10 * i + 1))) = (fun i => nI (m (4 + 10 * i + 1))) from funext fun i => by rw [vCol_ne (by omega)], show (fun i => nI (vCol m k 3 (4 + 10 * i + 2))) = (fun i => nI (m (4 + 10 * i + 2))) from funext fun i => by rw [vCol_ne (by omega)], show (fun i => nI (vCol m k 3 (4 + 10 * i + 3))) = (fun i => nI (k (4 + 10 * i + 3))) from funext fun i => congrArg nI (if_pos (by omega)), show (fun i => nI (vCol m k 3 (4 + 10 * i + (4 + 0)))) = (fun i => nI (m (4 + 10 * i + (4 + 0)))) from funext fun i => by rw [vCol_ne (by omega)], show (fun i => nI (vCol m k 3 (4 + 10 * i + (4 + 1)))) = (fun i => nI (m (4 + 10 * i + (4 + 1)))) from funext fun i => by rw [vCol_ne (by omega)], show (fun i => nI (vCol m k 3 (4 + 10 * i + (4 + 2)))) = (fun i => nI (m (4 + 10 * i + (4 + 2)))) from funext fun i => by rw [vCol_ne (by omega)], show (fun i => nI (vCol m k 3 (4 + 10 * i + (4 + 3)))) = (fun i => nI (m (4 + 10 * i + (4 + 3)))) from funext fun i => by rw [vCol_ne (by omega)], show (fun i => nI (vCol m k 3 (4 + 10 * i + (4 + 4)))) = (fun i => nI (m (4 + 10 * i + (4 + 4)))) from funext fun i => by rw [vCol_ne (by omega)], show (fun i => nI (vCol m k 3 (4 + 10 * i + (4 + 5)))) = (fun i => nI (m (4 + 10 * i + (4 + 5)))) from funext fun i => by rw [vCol_ne (by omega)]]
  rfl
theorem hs_colr (g : KG) (a m k : Nat → Nat) (lt : Nat → Int32) {d : Nat} (hd : d < 6) : (hallW g a m lt).set (7 + d) (a (7 + d), .inl (kI g, 8, .inl (fun i => nI (k (4 + 10 * i + (4 + d)))))) = hallW g a (vCol m k (4 + d)) lt := by
  rw [hs_rowfn g a m (vCol m k (4 + d)) lt hd (fun j hj => vCol_ne hj), show (fun i => nI (vCol m k (4 + d) (4 + 10 * i + (4 + d)))) = (fun i => nI (k (4 + 10 * i + (4 + d)))) from funext fun i => congrArg nI (if_pos (by omega))]
set_option maxHeartbeats 4000000 in
set_option maxRecDepth 100000 in
theorem ct_X0_fade (l : Launch) (g : KG) (a m : Nat → Nat) (lt : Nat → Int32) (d : Nat)  {B : Nat} (hB : B < 2 ^ 30) (hm : vOk B m) (hd : d < 6) : CT l yX0_fade cX0_fade 6 none (rmK 2) g [.ref (a 0), .int (nI d)] (hallW g a m lt) (S := Nat → Int32) oV (fun _ _ => True) (fun u => hallW g a (vRow m d) u) := by
  refine k_bodyV (by decide) (Nat.le_of_ble_eq_true rfl) (fun J hJ hR => ?_)
  have h0 := hm.1
  show J (hallW g a m lt) [(0, .ref (a 0)), (1, .int (nI d))] 0 []
  have L9 : ∀ (k : Nat) (i : Nat) (L : Nat → Int32), (i ≤ m 0) → (m 0 + 1 ≤ i + k) → (∀ j, j < i → L j = nI (vNew m j d)) → J (hallW g a m L) [(0, .ref (a 0)), (1, .int (nI d)), (2, .ref (a (7 + d))), (3, .int (nI i))] 9 [] := by
    intro k
    induction k with
    | zero => intro i L hi hf hl; exfalso; omega
    | succ k ih =>
      intro i L hi hf hl
      refine k_iload_n hJ dX0_fade_9 3 rfl ?_
      refine k_aload_n hJ dX0_fade_10 0 rfl ?_
      refine gf_X0_21 hJ 0 rfl rfl dX0_fade_11 ?_
      refine n_icmp_ge (tgt := 66) hJ dX0_fade_14 (by decide) (by omega) (by omega) (fun c14 => ?_) (fun c14 => ?_)
      · refine k_aload_n hJ dX0_fade_66 0 rfl ?_
        refine gf_X0_42 hJ 0 rfl rfl dX0_fade_67 ?_
        refine k_iconst (v := nI 0) hJ dX0_fade_70 (by decide) ?_
        refine k_aload_n hJ dX0_fade_71 2 rfl ?_
        refine k_iconst (v := nI 0) hJ dX0_fade_72 (by decide) ?_
        refine k_aload_n hJ dX0_fade_73 0 rfl ?_
        refine gf_X0_21 hJ 0 rfl rfl dX0_fade_74 ?_
        refine k_copyi hJ ml_X0_45 6 (7 + d) rfl (hallW_row g a m L hd) (by omega) (by omega) (by decide) (by decide) rfl (Nat.le_of_ble_eq_true rfl) dX0_fade_77 ?_
        refine k_ws (ws2 := hallW g a (vRow m d) L) hJ (fun H hP => hs_fade hd h0 (fun j hj => hl j (by omega)) hP) ((hallW_addr g a _ _ _ _).trans (hs_set_addr (hallW_row g a m L hd)).symm) ?_
        exact hR _ _ () L dX0_fade_80 trivial
      · refine k_aload_n hJ dX0_fade_17 0 rfl ?_
        refine k_iload_n hJ dX0_fade_18 3 rfl ?_
        refine k_iload_n hJ dX0_fade_19 1 rfl ?_
        refine c_VI (As := [.int (nI i), .int (nI d)]) (st := []) hJ (ct_X0_strongestBeside l g a m L i d hB hm (by omega) (by omega)) (Fr.all rfl) mv_X0_strongestBeside ml_X0_96 0 rfl rfl rfl (kRm_ok (by decide) (by decide)) rfl rfl (Nat.le_of_ble_eq_true rfl) dX0_fade_20 ?_
        refine k_istore (lv1 := [(0, .ref (a 0)), (1, .int (nI d)), (2, .ref (a (7 + d))), (3, .int (nI i)), (4, .int (kOpt (vStrong m i d (m 0))))]) hJ dX0_fade_23 (by decide) [1, 2, 3, 4, 0] rfl ?_
        rcases hO : vStrong m i d (m 0) with _ | b
        · show J (hallW g a m L) [(0, .ref (a 0)), (1, .int (nI d)), (2, .ref (a (7 + d))), (3, .int (nI i)), (4, .int (-1))] 25 []
          refine k_iload hJ dX0_fade_25 4 rfl ?_
          refine k_if_ge (tgt := 34) hJ dX0_fade_27 (by decide) (fun c27 => ?_) (fun c27 => ?_)
          · exact absurd c27 (by decide)
          · refine k_iconst (v := nI 0) hJ dX0_fade_30 (by decide) ?_
            refine k_goto (tgt := 40) hJ dX0_fade_31 (by decide) ?_
            refine k_istore (lv1 := [(0, .ref (a 0)), (1, .int (nI d)), (2, .ref (a (7 + d))), (3, .int (nI i)), (4, .int (-1)), (5, .int (nI 0))]) hJ dX0_fade_40 (by decide) [1, 2, 3, 4, 5, 0] rfl ?_
            refine k_aload_n hJ dX0_fade_42 0 rfl ?_
            refine gf_X0_42 hJ 0 rfl rfl dX0_fade_43 ?_
            refine k_iload_n hJ dX0_fade_46 3 rfl ?_
            refine k_iload_n hJ dX0_fade_47 1 rfl ?_
            refine k_aload_n hJ dX0_fade_48 2 rfl ?_
            refine k_iload_n hJ dX0_fade_49 3 rfl ?_
            refine k_iald hJ (7 + d) (hallW_row g a m L (by omega)) i (by omega) (by decide) rfl dX0_fade_50 ?_
            have hb50 : m (4 + 10 * i + (4 + d)) ≤ 99 := hm.sc (show i < 8 by omega) (show d < 6 by omega)
            refine c_NI (As := [.int (nI d), .int (nI (m (4 + 10 * i + (4 + d))))]) (st := [.int (nI i), .ref (a 6)]) hJ (ct_X3_faded l g d (m (4 + 10 * i + (4 + d))) (by omega) (by omega)) Fr.none ms_X3_faded (fun _ _ h => h.2.2.1) (kRm_ok (by decide) (by decide)) rfl rfl (Nat.le_of_ble_eq_true rfl) dX0_fade_51 ?_
            refine k_iload hJ dX0_fade_54 5 rfl ?_
            refine k_mmax hJ ml_X0_59 (Nat.le_of_ble_eq_true rfl) dX0_fade_56 ?_
            refine k_eqs (st2 := [.int (nI (max (vFade d (m (4 + 10 * i + (4 + d)))) (0))), .int (nI i), .ref (a 6)]) (by rw [nI_max (by have := vFade_le (d := d) (v := m (4 + 10 * i + (4 + d))); omega) (by omega)]) ?_
            refine k_iast hJ 6 rfl i (by omega) (by decide) rfl dX0_fade_59 ?_
            refine n_iinc (b := 1) (lv1 := [(0, .ref (a 0)), (1, .int (nI d)), (2, .ref (a (7 + d))), (3, .int (nI (i + 1))), (4, .int (-1)), (5, .int (nI 0))]) hJ dX0_fade_60 3 rfl (by decide) (by decide) [1, 2, 3, 0, 4, 5] rfl ?_
            refine k_goto (tgt := 9) hJ dX0_fade_63 (by decide) ?_
            refine k_lv (lv1 := [(0, .ref (a 0)), (1, .int (nI d)), (2, .ref (a (7 + d))), (3, .int (nI (i + 1)))]) hJ [0, 1, 2, 3] rfl ?_
            refine ih (i + 1) _ (by omega) (by omega) (fun j hj => ?_)
            by_cases e : j = i
            · rw [e, pk_us]; refine congrArg nI ?_; unfold vNew; rw [vMax_strong, hO]; show max _ 0 = max _ (0 / 4); rw [Nat.zero_div]
            · rw [pk_un e]; exact hl j (by omega)
        · show J (hallW g a m L) [(0, .ref (a 0)), (1, .int (nI d)), (2, .ref (a (7 + d))), (3, .int (nI i)), (4, .int (nI b))] 25 []
          have hbi := vStrong_lt hO
          refine k_iload hJ dX0_fade_25 4 rfl ?_
          refine n_if_ge (tgt := 34) hJ dX0_fade_27 (by decide) (by omega) (fun c27 => ?_) (fun c27 => ?_)
          · refine k_aload_n hJ dX0_fade_34 2 rfl ?_
            refine k_iload hJ dX0_fade_35 4 rfl ?_
            refine k_iald hJ (7 + d) (hallW_row g a m L (by omega)) b (by omega) (by decide) rfl dX0_fade_37 ?_
            have hb37 : m (4 + 10 * b + (4 + d)) ≤ 99 := hm.sc (show b < 8 by omega) (show d < 6 by omega)
            refine k_iconst (v := nI 4) hJ dX0_fade_38 (by decide) ?_
            refine n_idiv hJ dX0_fade_39 (by omega) (by omega) (by omega) ?_
            refine k_istore (lv1 := [(0, .ref (a 0)), (1, .int (nI d)), (2, .ref (a (7 + d))), (3, .int (nI i)), (4, .int (nI b)), (5, .int (nI ((m (4 + 10 * b + (4 + d))) / 4)))]) hJ dX0_fade_40 (by decide) [1, 2, 3, 4, 5, 0] rfl ?_
            refine k_aload_n hJ dX0_fade_42 0 rfl ?_
            refine gf_X0_42 hJ 0 rfl rfl dX0_fade_43 ?_
            refine k_iload_n hJ dX0_fade_46 3 rfl ?_
            refine k_iload_n hJ dX0_fade_47 1 rfl ?_
            refine k_aload_n hJ dX0_fade_48 2 rfl ?_
            refine k_iload_n hJ dX0_fade_49 3 rfl ?_
            refine k_iald hJ (7 + d) (hallW_row g a m L (by omega)) i (by omega) (by decide) rfl dX0_fade_50 ?_
            have hb50 : m (4 + 10 * i + (4 + d)) ≤ 99 := hm.sc (show i < 8 by omega) (show d < 6 by omega)
            refine c_NI (As := [.int (nI d), .int (nI (m (4 + 10 * i + (4 + d))))]) (st := [.int (nI i), .ref (a 6)]) hJ (ct_X3_faded l g d (m (4 + 10 * i + (4 + d))) (by omega) (by omega)) Fr.none ms_X3_faded (fun _ _ h => h.2.2.1) (kRm_ok (by decide) (by decide)) rfl rfl (Nat.le_of_ble_eq_true rfl) dX0_fade_51 ?_
            refine k_iload hJ dX0_fade_54 5 rfl ?_
            refine k_mmax hJ ml_X0_59 (Nat.le_of_ble_eq_true rfl) dX0_fade_56 ?_
            refine k_eqs (st2 := [.int (nI (max (vFade d (m (4 + 10 * i + (4 + d)))) (m (4 + 10 * b + (4 + d)) / 4))), .int (nI i), .ref (a 6)]) (by rw [nI_max (by have := vFade_le (d := d) (v := m (4 + 10 * i + (4 + d))); omega) (by omega)]) ?_
            refine k_iast hJ 6 rfl i (by omega) (by decide) rfl dX0_fade_59 ?_
            refine n_iinc (b := 1) (lv1 := [(0, .ref (a 0)), (1, .int (nI d)), (2, .ref (a (7 + d))), (3, .int (nI (i + 1))), (4, .int (nI b)), (5, .int (nI ((m (4 + 10 * b + (4 + d))) / 4)))]) hJ dX0_fade_60 3 rfl (by decide) (by decide) [1, 2, 3, 0, 4, 5] rfl ?_
            refine k_goto (tgt := 9) hJ dX0_fade_63 (by decide) ?_
            refine k_lv (lv1 := [(0, .ref (a 0)), (1, .int (nI d)), (2, .ref (a (7 + d))), (3, .int (nI (i + 1)))]) hJ [0, 1, 2, 3] rfl ?_
            refine ih (i + 1) _ (by omega) (by omega) (fun j hj => ?_)
            by_cases e : j = i
            · rw [e, pk_us]; refine congrArg nI ?_; unfold vNew; rw [vMax_strong, hO]
            · rw [pk_un e]; exact hl j (by omega)
          · exfalso; omega
  refine k_aload_n hJ dX0_fade_0 0 rfl ?_
  refine gf_X0_39 hJ 0 rfl rfl dX0_fade_1 ?_
  refine k_iload_n hJ dX0_fade_4 1 rfl ?_
  refine k_aald (f := fun i => some (a (7 + i))) (b := a (7 + d)) hJ 5 rfl d (by omega) (by decide) rfl dX0_fade_5 ?_
  refine k_astore_n (lv1 := [(0, .ref (a 0)), (1, .int (nI d)), (2, .ref (a (7 + d)))]) hJ dX0_fade_6 (by decide) [1, 2, 0] rfl ?_
  refine k_iconst (v := nI 0) hJ dX0_fade_7 (by decide) ?_
  refine k_istore_n (lv1 := [(0, .ref (a 0)), (1, .int (nI d)), (2, .ref (a (7 + d))), (3, .int (nI 0))]) hJ dX0_fade_8 (by decide) [1, 2, 3, 0] rfl ?_
  exact L9 (m 0 + 1) 0 lt (by omega) (by omega) (fun j hj => absurd hj (by omega))
set_option maxHeartbeats 4000000 in
set_option maxRecDepth 100000 in
theorem ct_X0_hourGoes (l : Launch) (g : KG) (a m : Nat → Nat) (lt : Nat → Int32)  {B : Nat} (hB : B < 2 ^ 30) (hm : vOk B m) : CT l yX0_hourGoes cX0_hourGoes 2 none (rmK 3) g [.ref (a 0)] (hallW g a m lt) (S := Nat → Int32) oV (fun _ _ => True) (fun u => hallW g a (vHour m) u) := by
  refine k_bodyV (by decide) (Nat.le_of_ble_eq_true rfl) (fun J hJ hR => ?_)
  show J (hallW g a m lt) [(0, .ref (a 0))] 0 []
  have L2 : ∀ (k : Nat) (d : Nat) (L : Nat → Int32), (d ≤ 6) → (7 ≤ d + k) → J (hallW g a (vRows m d) L) [(0, .ref (a 0)), (1, .int (nI d))] 2 [] := by
    intro k
    induction k with
    | zero => intro d L hd hf; exfalso; omega
    | succ k ih =>
      intro d L hd hf
      refine k_iload_n hJ dX0_hourGoes_2 1 rfl ?_
      refine k_bipush (v := nI 6) hJ dX0_hourGoes_3 (by decide) ?_
      refine n_icmp_ge (tgt := 19) hJ dX0_hourGoes_5 (by decide) (by omega) (by omega) (fun c5 => ?_) (fun c5 => ?_)
      · refine k_aload_n hJ dX0_hourGoes_19 0 rfl ?_
        refine k_dup hJ dX0_hourGoes_20 rfl ?_
        refine gf_X0_18 hJ 0 rfl rfl dX0_hourGoes_21 ?_
        refine k_iconst (v := nI 1) hJ dX0_hourGoes_24 (by decide) ?_
        refine n_iadd hJ dX0_hourGoes_25 ?_
        refine pf_X0_18 hJ 0 rfl (hs_hour g a (vRows m d) L (((vRows m d) 1) + 1)) (Nat.le_of_ble_eq_true rfl) dX0_hourGoes_26 ?_
        exact k_eqw (ws2 := hallW g a (vHour m) L) (by unfold vHour; rw [show d = 6 by omega, show vRows m 6 1 = m 1 from if_neg (by omega)]) (hR _ _ () L dX0_hourGoes_29 trivial)
      · refine k_aload_n hJ dX0_hourGoes_8 0 rfl ?_
        refine k_iload_n hJ dX0_hourGoes_9 1 rfl ?_
        refine k_callV (As := [.int (nI d)]) (st := []) hJ (ct_X0_fade l g a (vRows m d) L d hB (vOk_rows hm (by omega)) (by omega)) (fun _ => Fr.all rfl) mv_X0_fade ml_X0_92 0 rfl rfl rfl (kRm_ok (by decide) (by decide)) rfl rfl (Nat.le_of_ble_eq_true rfl) dX0_hourGoes_10 (fun _ u _ => ?_)
        refine n_iinc (b := 1) (lv1 := [(0, .ref (a 0)), (1, .int (nI (d + 1)))]) hJ dX0_hourGoes_13 1 rfl (by decide) (by decide) [1, 0] rfl ?_
        refine k_goto (tgt := 2) hJ dX0_hourGoes_16 (by decide) ?_
        refine k_eqw (ws2 := hallW g a (vRows m (d + 1)) u) (by rw [vRow_rows m d (by omega)]) ?_
        exact ih (d + 1) u (by omega) (by omega)
  refine k_iconst (v := nI 0) hJ dX0_hourGoes_0 (by decide) ?_
  refine k_istore_n (lv1 := [(0, .ref (a 0)), (1, .int (nI 0))]) hJ dX0_hourGoes_1 (by decide) [1, 0] rfl ?_
  exact k_eqw (ws2 := hallW g a (vRows m 0) lt) (by rw [vRows_0]) (L2 7 0 lt (by omega) (by omega))
set_option maxHeartbeats 4000000 in
set_option maxRecDepth 100000 in
theorem ct_X0_hourGoesFor (l : Launch) (g : KG) (a m : Nat → Nat) (lt : Nat → Int32) (d : Nat)  {B : Nat} (hB : B < 2 ^ 30) (hm : vOk B m) (hd : d < 6) : CT l yX0_hourGoesFor cX0_hourGoesFor 2 none (rmK 3) g [.ref (a 0), .int (nI d)] (hallW g a m lt) (S := Nat → Int32) oV (fun _ _ => True) (fun u => hallW g a (vHourFor m d) u) := by
  refine k_bodyV (by decide) (Nat.le_of_ble_eq_true rfl) (fun J hJ hR => ?_)
  show J (hallW g a m lt) [(0, .ref (a 0)), (1, .int (nI d))] 0 []
  refine k_aload_n hJ dX0_hourGoesFor_0 0 rfl ?_
  refine k_iload_n hJ dX0_hourGoesFor_1 1 rfl ?_
  refine k_callV (As := [.int (nI d)]) (st := []) hJ (ct_X0_fade l g a m lt d hB hm hd) (fun _ => Fr.all rfl) mv_X0_fade ml_X0_92 0 rfl rfl rfl (kRm_ok (by decide) (by decide)) rfl rfl (Nat.le_of_ble_eq_true rfl) dX0_hourGoesFor_2 (fun _ u _ => ?_)
  refine k_aload_n hJ dX0_hourGoesFor_5 0 rfl ?_
  refine k_dup hJ dX0_hourGoesFor_6 rfl ?_
  refine gf_X0_18 hJ 0 rfl rfl dX0_hourGoesFor_7 ?_
  refine k_iconst (v := nI 1) hJ dX0_hourGoesFor_10 (by decide) ?_
  refine n_iadd hJ dX0_hourGoesFor_11 ?_
  refine pf_X0_18 hJ 0 rfl (hs_hour g a (vRow m d) u (((vRow m d) 1) + 1)) (Nat.le_of_ble_eq_true rfl) dX0_hourGoesFor_12 ?_
  exact k_eqw (ws2 := hallW g a (vHourFor m d) u) (by unfold vHourFor; rw [show vRow m d 1 = m 1 from vRow_ne (by omega)]) (hR _ _ () u dX0_hourGoesFor_15 trivial)
theorem hb_rowL {g : KG} {a m : Nat → Nat} {lt : Nat → Int32} {Y : va_W} {d : Nat} (hd : d < 6) : (hallW g a m lt ++ Y)[7 + d]? = some (a (7 + d), .inl (kI g, 8, .inl (fun i => nI (m (4 + 10 * i + (4 + d)))))) := by
  rw [List.getElem?_append_left (by rw [hallW_len]; omega)]
  exact hallW_row g a m lt hd
theorem hb_rowR {g : KG} {a m b k : Nat → Nat} {lt lk : Nat → Int32} {d : Nat} (hd : d < 6) : (hallW g a m lt ++ hallW g b k lk)[20 + d]? = some (b (7 + d), .inl (kI g, 8, .inl (fun i => nI (k (4 + 10 * i + (4 + d)))))) := by
  rw [List.getElem?_append_right (by rw [hallW_len]; omega), hallW_len, show 20 + d - 13 = 7 + d by omega]
  exact hallW_row g b k lk hd
set_option maxHeartbeats 4000000 in
set_option maxRecDepth 100000 in
theorem ct_X0_become (l : Launch) (g : KG) (a b m k : Nat → Nat) (lt lk : Nat → Int32)  : CV l yX0_become cX0_become 3 none (rmK 1) g [.ref (a 0), .ref (b 0)] (hallW g a m lt ++ hallW g b k lk) (hallW g a k lt ++ hallW g b k lk) := by
  refine k_bodyV (by decide) (Nat.le_of_ble_eq_true rfl) (fun J hJ hR => ?_)
  show J (hallW g a m lt ++ hallW g b k lk) [(0, .ref (a 0)), (1, .ref (b 0))] 0 []
  have L : ∀ (q d : Nat) (M : Nat → Nat), d ≤ 6 → 7 ≤ d + q → ((∀ j, j < 4 → M j = k j) ∧ ∀ j, 4 ≤ j → (j - 4) % 10 < 4 + d → M j = k j) → J (hallW g a M lt ++ hallW g b k lk) [(0, .ref (a 0)), (1, .ref (b 0)), (2, .int (nI d))] 94 [] := by
    intro q
    induction q with
    | zero => intro d M hd hf hM; exfalso; omega
    | succ q ih =>
      intro d M hd hf hM
      refine k_iload_n hJ dX0_become_94 2 rfl ?_
      refine k_bipush (v := nI 6) hJ dX0_become_95 (by decide) ?_
      refine n_icmp_ge (tgt := 125) hJ dX0_become_97 (by decide) (by omega) (by omega) (fun c97 => ?_) (fun c97 => ?_)
      · exact k_eqw (ws2 := hallW g a k lt ++ hallW g b k lk) (by rw [show M = k from funext fun j => by by_cases h : j < 4; exact hM.1 j h; exact hM.2 j (by omega) (by omega)]) (hR _ _ () () dX0_become_125 trivial)
      · refine k_aload_n hJ dX0_become_100 1 rfl ?_
        refine gf_X0_39 hJ 13 rfl rfl dX0_become_101 ?_
        refine k_iload_n hJ dX0_become_104 2 rfl ?_
        refine k_aald (f := fun i => some (b (7 + i))) (b := b (7 + d)) hJ 18 rfl d (by omega) (by decide) rfl dX0_become_105 ?_
        refine k_iconst (v := nI 0) hJ dX0_become_106 (by decide) ?_
        refine k_aload_n hJ dX0_become_107 0 rfl ?_
        refine gf_X0_39 hJ 0 rfl rfl dX0_become_108 ?_
        refine k_iload_n hJ dX0_become_111 2 rfl ?_
        refine k_aald (f := fun i => some (a (7 + i))) (b := a (7 + d)) hJ 5 rfl d (by omega) (by decide) rfl dX0_become_112 ?_
        refine k_iconst (v := nI 0) hJ dX0_become_113 (by decide) ?_
        refine k_bipush (v := nI 8) hJ dX0_become_114 (by decide) ?_
        refine k_copy8 hJ ml_X0_45 (20 + d) (7 + d) (hb_rowR (by omega)) (hb_rowL (by omega)) ((List.set_append_left _ _ (by rw [hallW_len]; omega)).trans (congrArg (· ++ hallW g b k lk) (hs_colr g a M k lt (by omega)))) (Nat.le_of_ble_eq_true rfl) dX0_become_116 ?_
        refine n_iinc (b := 1) (lv1 := [(0, .ref (a 0)), (1, .ref (b 0)), (2, .int (nI (d + 1)))]) hJ dX0_become_119 2 rfl (by decide) (by decide) [1, 2, 0] rfl ?_
        refine k_goto (tgt := 94) hJ dX0_become_122 (by decide) ?_
        refine ih (d + 1) _ (by omega) (by omega) ⟨fun j hj => by rw [vCol_ne (by omega)]; exact hM.1 j hj, fun j h4 hj => ?_⟩
        by_cases e : (j - 4) % 10 = 4 + d
        · exact if_pos ⟨h4, e⟩
        · rw [vCol_ne (fun q => e q.2)]; exact hM.2 j h4 (by omega)
  refine k_aload_n hJ dX0_become_0 0 rfl ?_
  refine k_aload_n hJ dX0_become_1 1 rfl ?_
  refine gf_X0_9 hJ 13 rfl rfl dX0_become_2 ?_
  refine pf_X0_9 hJ 0 rfl ((List.set_append_left _ _ (Nat.le_of_ble_eq_true rfl)).trans (congrArg (· ++ hallW g b k lk) (hs_wind g a m lt (k 2)))) (Nat.le_of_ble_eq_true rfl) dX0_become_5 ?_
  refine k_aload_n hJ dX0_become_8 0 rfl ?_
  refine k_aload_n hJ dX0_become_9 1 rfl ?_
  refine gf_X0_15 hJ 13 rfl rfl dX0_become_10 ?_
  refine pf_X0_15 hJ 0 rfl ((List.set_append_left _ _ (Nat.le_of_ble_eq_true rfl)).trans (congrArg (· ++ hallW g b k lk) (hs_due g a (vUp m 2 (k 2)) lt (k 3)))) (Nat.le_of_ble_eq_true rfl) dX0_become_13 ?_
  refine k_aload_n hJ dX0_become_16 0 rfl ?_
  refine k_aload_n hJ dX0_become_17 1 rfl ?_
  refine gf_X0_18 hJ 13 rfl rfl dX0_become_18 ?_
  refine pf_X0_18 hJ 0 rfl ((List.set_append_left _ _ (Nat.le_of_ble_eq_true rfl)).trans (congrArg (· ++ hallW g b k lk) (hs_hour g a (vUp (vUp m 2 (k 2)) 3 (k 3)) lt (k 1)))) (Nat.le_of_ble_eq_true rfl) dX0_become_21 ?_
  refine k_aload_n hJ dX0_become_24 0 rfl ?_
  refine k_aload_n hJ dX0_become_25 1 rfl ?_
  refine gf_X0_21 hJ 13 rfl rfl dX0_become_26 ?_
  refine pf_X0_21 hJ 0 rfl ((List.set_append_left _ _ (Nat.le_of_ble_eq_true rfl)).trans (congrArg (· ++ hallW g b k lk) (hs_people g a (vUp (vUp (vUp m 2 (k 2)) 3 (k 3)) 1 (k 1)) lt (k 0)))) (Nat.le_of_ble_eq_true rfl) dX0_become_29 ?_
  refine k_aload_n hJ dX0_become_32 1 rfl ?_
  refine gf_X0_24 hJ 13 rfl rfl dX0_become_33 ?_
  refine k_iconst (v := nI 0) hJ dX0_become_36 (by decide) ?_
  refine k_aload_n hJ dX0_become_37 0 rfl ?_
  refine gf_X0_24 hJ 0 rfl rfl dX0_become_38 ?_
  refine k_iconst (v := nI 0) hJ dX0_become_41 (by decide) ?_
  refine k_bipush (v := nI 8) hJ dX0_become_42 (by decide) ?_
  refine k_copy8 hJ ml_X0_45 14 1 rfl rfl ((List.set_append_left _ _ (Nat.le_of_ble_eq_true rfl)).trans (congrArg (· ++ hallW g b k lk) (hs_col0 g a (vUp (vUp (vUp (vUp m 2 (k 2)) 3 (k 3)) 1 (k 1)) 0 (k 0)) k lt))) (Nat.le_of_ble_eq_true rfl) dX0_become_44 ?_
  refine k_aload_n hJ dX0_become_47 1 rfl ?_
  refine gf_X0_28 hJ 13 rfl rfl dX0_become_48 ?_
  refine k_iconst (v := nI 0) hJ dX0_become_51 (by decide) ?_
  refine k_aload_n hJ dX0_become_52 0 rfl ?_
  refine gf_X0_28 hJ 0 rfl rfl dX0_become_53 ?_
  refine k_iconst (v := nI 0) hJ dX0_become_56 (by decide) ?_
  refine k_bipush (v := nI 8) hJ dX0_become_57 (by decide) ?_
  refine k_copy8 hJ ml_X0_45 15 2 rfl rfl ((List.set_append_left _ _ (Nat.le_of_ble_eq_true rfl)).trans (congrArg (· ++ hallW g b k lk) (hs_col1 g a (vCol (vUp (vUp (vUp (vUp m 2 (k 2)) 3 (k 3)) 1 (k 1)) 0 (k 0)) k 0) k lt))) (Nat.le_of_ble_eq_true rfl) dX0_become_59 ?_
  refine k_aload_n hJ dX0_become_62 1 rfl ?_
  refine gf_X0_31 hJ 13 rfl rfl dX0_become_63 ?_
  refine k_iconst (v := nI 0) hJ dX0_become_66 (by decide) ?_
  refine k_aload_n hJ dX0_become_67 0 rfl ?_
  refine gf_X0_31 hJ 0 rfl rfl dX0_become_68 ?_
  refine k_iconst (v := nI 0) hJ dX0_become_71 (by decide) ?_
  refine k_bipush (v := nI 8) hJ dX0_become_72 (by decide) ?_
  refine k_copy8 hJ ml_X0_45 16 3 rfl rfl ((List.set_append_left _ _ (Nat.le_of_ble_eq_true rfl)).trans (congrArg (· ++ hallW g b k lk) (hs_col2 g a (vCol (vCol (vUp (vUp (vUp (vUp m 2 (k 2)) 3 (k 3)) 1 (k 1)) 0 (k 0)) k 0) k 1) k lt))) (Nat.le_of_ble_eq_true rfl) dX0_become_74 ?_
  refine k_aload_n hJ dX0_become_77 1 rfl ?_
  refine gf_X0_34 hJ 13 rfl rfl dX0_become_78 ?_
  refine k_iconst (v := nI 0) hJ dX0_become_81 (by decide) ?_
  refine k_aload_n hJ dX0_become_82 0 rfl ?_
  refine gf_X0_34 hJ 0 rfl rfl dX0_become_83 ?_
  refine k_iconst (v := nI 0) hJ dX0_become_86 (by decide) ?_
  refine k_bipush (v := nI 8) hJ dX0_become_87 (by decide) ?_
  refine k_copy8 hJ ml_X0_45 17 4 rfl rfl ((List.set_append_left _ _ (Nat.le_of_ble_eq_true rfl)).trans (congrArg (· ++ hallW g b k lk) (hs_col3 g a (vCol (vCol (vCol (vUp (vUp (vUp (vUp m 2 (k 2)) 3 (k 3)) 1 (k 1)) 0 (k 0)) k 0) k 1) k 2) k lt))) (Nat.le_of_ble_eq_true rfl) dX0_become_89 ?_
  refine k_iconst (v := nI 0) hJ dX0_become_92 (by decide) ?_
  refine k_istore_n (lv1 := [(0, .ref (a 0)), (1, .ref (b 0)), (2, .int (nI 0))]) hJ dX0_become_93 (by decide) [1, 2, 0] rfl ?_
  refine L 7 0 _ (by omega) (by omega) ⟨fun j hj => ?_, fun j h4 hj => ?_⟩
  · unfold vCol vUp; rcases (show j = 0 ∨ j = 1 ∨ j = 2 ∨ j = 3 by omega) with rfl | rfl | rfl | rfl <;> rfl
  · unfold vCol vUp; (repeat' split) <;> first | rfl | omega
