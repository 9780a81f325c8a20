set_option maxHeartbeats 4000000 in
set_option maxRecDepth 100000 in
theorem mp_bath (l : Launch) (g : KG) (b : Nat → Nat) (j : MJ) (s : KS) (hs : kOk s) (x : Int32) : CT l yX4_bath cX4_bath 7 (some .int) (rmK 7) g [.ref (b 0), .int x] (modA g b s j) (S := MJ) oI (fun r _ => r = (sp_bath s x).1) (fun j => modA g b (sp_bath s x).2 j) := by
  obtain ⟨m, k, kf, tp, tl, sb, sz, nu, ct⟩ := s
  obtain ⟨fj, mj, fr, to, va, iw, jk, th, ai, ot, mo⟩ := j
  obtain ⟨hm, hk, htl, htp, hsh⟩ := hs
  have h0 : m 0 ≤ 8 := hm.1
  have h1 : m 1 ≤ 9999 := hm.2.1
  have h2 : m 2 ≤ 4 := hm.2.2.1
  have h3 : m 3 ≤ 99 := hm.2.2.2.2.1
  have hB : 9999 < 2 ^ 30 := by decide
  refine k_bodyI (by decide) (Nat.le_of_ble_eq_true rfl) (fun _ _ _ => rfl) (fun J hJ hR => ?_)
  show J (modW g b (mE kf fj mj tl fr to va iw) m th ai ct (fun i => nI ((if kf then k else jk) i)) ot tp sb sz nu mo) [(0, .ref (b 0)), (1, .int x)] 0 []
  refine k_aload_n hJ dX4_bath_0 0 rfl ?_
  refine k_iload_n hJ dX4_bath_1 1 rfl ?_
  refine c_VI (As := [.int x]) (st := []) hJ (ct_X4_isPerson l g b (mE kf fj mj tl fr to va iw) m x (by omega)) (frS rfl) mv_X4_isPerson ml_X4_51 0 rfl rfl rfl (kRm_ok (by decide) (by decide)) rfl rfl (Nat.le_of_ble_eq_true rfl) dX4_bath_2 ?_
  refine b_if_ne (tgt := 15) hJ dX4_bath_5 (by decide) (fun c5 => ?_) (fun c5 => ?_)
  · obtain ⟨px, hpx, rfl⟩ := vIn_of (by omega) c5
    refine k_aload_n hJ dX4_bath_15 0 rfl ?_
    refine c_VV (As := []) (st := []) hJ (ct_X4_laysAside l g b (mE kf fj mj tl fr to va iw) m th ai ct (fun i => nI ((if kf then k else jk) i)) ot tp sb sz nu mo) (Fr.all rfl) mv_X4_laysAside ml_X4_165 0 rfl rfl rfl (kRm_ok (by decide) (by decide)) rfl rfl (Nat.le_of_ble_eq_true rfl) dX4_bath_16 ?_
    refine k_aload_n hJ dX4_bath_19 0 rfl ?_
    refine k_callV (As := []) (st := []) hJ (ct_X4_hour l g b (mE kf fj mj tl fr to va iw) m th (fun i => nI (m i)) ct (fun i => nI ((if kf then k else jk) i)) ot tp sb sz nu mo hB hm) (fun _ => Fr.all rfl) mv_X4_hour ml_X4_149 0 rfl rfl rfl (kRm_ok (by decide) (by decide)) rfl rfl (Nat.le_of_ble_eq_true rfl) dX4_bath_20 (fun _ u20 _ => ?_)
    refine k_aload_n hJ dX4_bath_23 0 rfl ?_
    refine k_aload_n hJ dX4_bath_24 0 rfl ?_
    refine k_iload_n hJ dX4_bath_25 1 rfl ?_
    refine c_VI (As := [.int (nI px)]) (st := [.ref (b 0)]) hJ (ct_X4_findersMany l g b (mE kf fj mj tl fr to va iw) (vHour m) px (show 9999 + 1 < 2 ^ 30 by decide) (vOk_hour hm) (by omega)) (frS rfl) mv_X4_findersMany ml_X4_171 0 rfl rfl rfl (kRm_ok (by decide) (by decide)) rfl rfl (Nat.le_of_ble_eq_true rfl) dX4_bath_26 ?_
    have hq26 := vPop_le (s := vFinders (vHour m) px)
    refine c_VI (As := [.int (nI (vPop (vFinders (vHour m) px)))]) (st := []) hJ (ct_X4_takesBack l g b (mE kf fj mj tl fr to va iw) (vHour m) u20 (fun i => nI (m i)) ct (fun i => nI ((if kf then k else jk) i)) ot tp sb sz nu mo m (nI (vPop (vFinders (vHour m) px)))) (Fr.all rfl) mv_X4_takesBack ml_X4_168 0 rfl rfl rfl (kRm_ok (by decide) (by decide)) rfl rfl (Nat.le_of_ble_eq_true rfl) dX4_bath_29 ?_
    refine k_istore_n (lv1 := [(0, .ref (b 0)), (1, .int (nI px)), (2, .int (nI (vPop (vFinders (vHour m) px))))]) hJ dX4_bath_32 (by decide) [1, 2, 0] rfl ?_
    refine k_iconst (v := (-1)) hJ dX4_bath_33 (by decide) ?_
    refine k_istore_n (lv1 := [(0, .ref (b 0)), (1, .int (nI px)), (2, .int (nI (vPop (vFinders (vHour m) px)))), (3, .int (-1))]) hJ dX4_bath_34 (by decide) [1, 2, 3, 0] rfl ?_
    refine k_iconst (v := nI 0) hJ dX4_bath_35 (by decide) ?_
    refine k_istore (lv1 := [(0, .ref (b 0)), (1, .int (nI px)), (2, .int (nI (vPop (vFinders (vHour m) px)))), (3, .int (-1)), (4, .int (nI 0))]) hJ dX4_bath_36 (by decide) [1, 2, 3, 4, 0] rfl ?_
    have L38 : ∀ (fu : Nat) (i : Nat) (T : Nat → Int32), (i ≤ m 0) → (m 0 + 1 ≤ i + fu) → J (modW g b (mE kf fj mj tl fr to va iw) m T (fun i => nI (m i)) ct (fun i => nI ((if kf then k else jk) i)) ot tp sb sz nu mo) [(0, .ref (b 0)), (1, .int (nI px)), (2, .int (nI ((vBa m px i).2))), (3, .int (kOpt (vBa m px i).1)), (4, .int (nI i))] 38 [] := by
      intro fu
      induction fu with
      | zero => intro i T hi hf; exfalso; omega
      | succ fu ih =>
        intro i T hi hf
        refine k_iload hJ dX4_bath_38 4 rfl ?_
        refine k_aload_n hJ dX4_bath_40 0 rfl ?_
        refine gf_X4_7 (v := .ref (b 1)) hJ 0 rfl rfl dX4_bath_41 ?_
        refine k_iconst (v := nI 0) hJ dX4_bath_44 (by decide) ?_
        refine k_iald hJ 1 rfl 0 (by omega) (by decide) rfl dX4_bath_45 ?_
        refine n_icmp_ge (tgt := 108) hJ dX4_bath_46 (by decide) (by omega) (by omega) (fun c46 => ?_) (fun c46 => ?_)
        · have hd6 : i = m 0 := by omega
          subst hd6
          rcases hO : (vBa m px (m 0)).1 with _ | bb
          · show J (modW g b (mE kf fj mj tl fr to va iw) m T (fun i => nI (m i)) ct (fun i => nI ((if kf then k else jk) i)) ot tp sb sz nu mo) [(0, .ref (b 0)), (1, .int (nI px)), (2, .int (nI ((vBa m px (m 0)).2))), (3, .int (-1)), (4, .int (nI (m 0)))] 108 []
            refine k_iload_n hJ dX4_bath_108 3 rfl ?_
            refine k_if_ge (tgt := 121) hJ dX4_bath_109 (by decide) (fun c109 => ?_) (fun c109 => ?_)
            · refine k_iload_n hJ dX4_bath_121 3 rfl ?_
              exact absurd c109 (by decide)
            · refine k_aload_n hJ dX4_bath_112 0 rfl ?_
              refine k_ldc hJ dX4_bath_113 cw_X4_129 ?_
              refine k_eqs (st2 := [.int (kFi 3), .ref (b 0)]) (by rw [kFi_c3]) ?_
              refine c_VI (As := [.int (kFi 3)]) (st := []) hJ (ct_X4_finds l g b (mE kf fj mj tl fr to va iw) m T (fun i => nI (m i)) ct (fun i => nI ((if kf then k else jk) i)) ot tp sb sz nu mo 3 (by decide)) (Fr.all rfl) mv_X4_finds ml_X4_68 0 rfl rfl rfl (kRm_ok (by decide) (by decide)) rfl rfl (Nat.le_of_ble_eq_true rfl) dX4_bath_115 ?_
              refine k_goto (tgt := 122) hJ dX4_bath_118 (by decide) ?_
              have hsp : sp_bath (m, k, kf, tp, tl, sb, sz, nu, ct) (nI px) = (kFi 3, (m, k, kf, tp, tl, sb, sz, nu, kTe ct 3)) := by simp [sp_bath, sp_opt, sp_tell, c5, nI_clamp (show px < 2 ^ 31 by omega), hO]
              exact k_eqw (ws2 := modA g b (sp_bath (m, k, kf, tp, tl, sb, sz, nu, ct) (nI px)).2 (fj, mj, fr, to, va, iw, jk, T, fun i => nI (m i), ot, mo)) (by rw [hsp]; rfl) (hR _ _ _ (fj, mj, fr, to, va, iw, jk, T, fun i => nI (m i), ot, mo) dX4_bath_122 (by rw [hsp]))
          · show J (modW g b (mE kf fj mj tl fr to va iw) m T (fun i => nI (m i)) ct (fun i => nI ((if kf then k else jk) i)) ot tp sb sz nu mo) [(0, .ref (b 0)), (1, .int (nI px)), (2, .int (nI ((vBa m px (m 0)).2))), (3, .int (nI bb)), (4, .int (nI (m 0)))] 108 []
            have hbb := (vBa_le m px (m 0)).2 bb hO
            refine k_iload_n hJ dX4_bath_108 3 rfl ?_
            refine n_if_ge (tgt := 121) hJ dX4_bath_109 (by decide) (by omega) (fun c109 => ?_) (fun c109 => ?_)
            · refine k_iload_n hJ dX4_bath_121 3 rfl ?_
              have hsp : sp_bath (m, k, kf, tp, tl, sb, sz, nu, ct) (nI px) = (nI bb, (m, k, kf, tp, tl, sb, sz, nu, ct)) := by simp [sp_bath, sp_opt, sp_tell, c5, nI_clamp (show px < 2 ^ 31 by omega), hO]
              exact k_eqw (ws2 := modA g b (sp_bath (m, k, kf, tp, tl, sb, sz, nu, ct) (nI px)).2 (fj, mj, fr, to, va, iw, jk, T, fun i => nI (m i), ot, mo)) (by rw [hsp]; rfl) (hR _ _ _ (fj, mj, fr, to, va, iw, jk, T, fun i => nI (m i), ot, mo) dX4_bath_122 (by rw [hsp]))
            · exact absurd c109 (by omega)
        · have hl := (vBa_le m px i).1
          refine k_aload_n hJ dX4_bath_49 0 rfl ?_
          refine c_VV (As := []) (st := []) hJ (ct_X4_laysAside l g b (mE kf fj mj tl fr to va iw) m T (fun i => nI (m i)) ct (fun i => nI ((if kf then k else jk) i)) ot tp sb sz nu mo) (Fr.all rfl) mv_X4_laysAside ml_X4_165 0 rfl rfl rfl (kRm_ok (by decide) (by decide)) rfl rfl (Nat.le_of_ble_eq_true rfl) dX4_bath_50 ?_
          refine k_aload_n hJ dX4_bath_53 0 rfl ?_
          refine k_iload hJ dX4_bath_54 4 rfl ?_
          refine c_VI (As := [.int (nI i)]) (st := []) hJ (ct_X4_washes l g b (mE kf fj mj tl fr to va iw) m i hB hm (by omega)) (frS rfl) mv_X4_washes ml_X4_104 0 rfl rfl rfl (kRm_ok (by decide) (by decide)) rfl rfl (Nat.le_of_ble_eq_true rfl) dX4_bath_56 ?_
          refine k_istore (lv1 := [(0, .ref (b 0)), (1, .int (nI px)), (2, .int (nI ((vBa m px i).2))), (3, .int (kOpt (vBa m px i).1)), (4, .int (nI i)), (5, .int (nI (vWashed m i)))]) hJ dX4_bath_59 (by decide) [1, 2, 3, 4, 5, 0] rfl ?_
          refine k_aload_n hJ dX4_bath_61 0 rfl ?_
          refine k_callV (As := []) (st := []) hJ (ct_X4_hour l g b (mE kf fj mj tl fr to va iw) (vWash m i 6) T (fun i => nI (m i)) ct (fun i => nI ((if kf then k else jk) i)) ot tp sb sz nu mo hB (vOk_wash hm (show i < 8 by omega))) (fun _ => Fr.all rfl) mv_X4_hour ml_X4_149 0 rfl rfl rfl (kRm_ok (by decide) (by decide)) rfl rfl (Nat.le_of_ble_eq_true rfl) dX4_bath_62 (fun _ u62 _ => ?_)
          refine k_aload_n hJ dX4_bath_65 0 rfl ?_
          refine k_aload_n hJ dX4_bath_66 0 rfl ?_
          refine k_iload_n hJ dX4_bath_67 1 rfl ?_
          refine c_VI (As := [.int (nI px)]) (st := [.ref (b 0)]) hJ (ct_X4_findersMany l g b (mE kf fj mj tl fr to va iw) (vHour (vWash m i 6)) px (show 9999 + 1 < 2 ^ 30 by decide) (vOk_hour (vOk_wash hm (show i < 8 by omega))) (by omega)) (frS rfl) mv_X4_findersMany ml_X4_171 0 rfl rfl rfl (kRm_ok (by decide) (by decide)) rfl rfl (Nat.le_of_ble_eq_true rfl) dX4_bath_68 ?_
          have hq68 := vPop_le (s := vFinders (vHour (vWash m i 6)) px)
          refine c_VI (As := [.int (nI (vPop (vFinders (vHour (vWash m i 6)) px)))]) (st := []) hJ (ct_X4_takesBack l g b (mE kf fj mj tl fr to va iw) (vHour (vWash m i 6)) u62 (fun i => nI (m i)) ct (fun i => nI ((if kf then k else jk) i)) ot tp sb sz nu mo m (nI (vPop (vFinders (vHour (vWash m i 6)) px)))) (Fr.all rfl) mv_X4_takesBack ml_X4_168 0 rfl rfl rfl (kRm_ok (by decide) (by decide)) rfl rfl (Nat.le_of_ble_eq_true rfl) dX4_bath_71 ?_
          refine k_istore (lv1 := [(0, .ref (b 0)), (1, .int (nI px)), (2, .int (nI ((vBa m px i).2))), (3, .int (kOpt (vBa m px i).1)), (4, .int (nI i)), (5, .int (nI (vWashed m i))), (6, .int (nI (vPop (vFinders (vHour (vWash m i 6)) px))))]) hJ dX4_bath_74 (by decide) [1, 2, 3, 4, 5, 6, 0] rfl ?_
          refine k_iload hJ dX4_bath_76 6 rfl ?_
          refine k_iload_n hJ dX4_bath_78 2 rfl ?_
          refine n_icmp_ge (tgt := 87) hJ dX4_bath_79 (by decide) (by omega) (by omega) (fun c79 => ?_) (fun c79 => ?_)
          · refine k_iload_n hJ dX4_bath_87 3 rfl ?_
            refine k_istore_n (lv1 := [(0, .ref (b 0)), (1, .int (nI px)), (2, .int (nI ((vBa m px i).2))), (3, .int (kOpt (vBa m px i).1)), (4, .int (nI i)), (5, .int (nI (vWashed m i))), (6, .int (nI (vPop (vFinders (vHour (vWash m i 6)) px))))]) hJ dX4_bath_88 (by decide) [1, 2, 3, 0, 4, 5, 6] rfl ?_
            refine k_iload hJ dX4_bath_89 6 rfl ?_
            refine k_iload_n hJ dX4_bath_91 2 rfl ?_
            refine n_icmp_ge (tgt := 100) hJ dX4_bath_92 (by decide) (by omega) (by omega) (fun c92 => ?_) (fun c92 => ?_)
            · refine k_iload_n hJ dX4_bath_100 2 rfl ?_
              refine k_istore_n (lv1 := [(0, .ref (b 0)), (1, .int (nI px)), (2, .int (nI ((vBa m px i).2))), (3, .int (kOpt (vBa m px i).1)), (4, .int (nI i)), (5, .int (nI (vWashed m i))), (6, .int (nI (vPop (vFinders (vHour (vWash m i 6)) px))))]) hJ dX4_bath_101 (by decide) [1, 2, 0, 3, 4, 5, 6] rfl ?_
              refine n_iinc (b := 1) (lv1 := [(0, .ref (b 0)), (1, .int (nI px)), (2, .int (nI ((vBa m px i).2))), (3, .int (kOpt (vBa m px i).1)), (4, .int (nI (i + 1))), (5, .int (nI (vWashed m i))), (6, .int (nI (vPop (vFinders (vHour (vWash m i 6)) px))))]) hJ dX4_bath_102 4 rfl (by decide) (by decide) [1, 2, 3, 4, 0, 5, 6] rfl ?_
              refine k_goto (tgt := 38) hJ dX4_bath_105 (by decide) ?_
              refine k_lv (lv1 := [(0, .ref (b 0)), (1, .int (nI px)), (2, .int (nI ((vBa m px i).2))), (3, .int (kOpt (vBa m px i).1)), (4, .int (nI (i + 1)))]) hJ [0, 1, 2, 3, 4] rfl ?_
              refine k_eql (lv1 := [(0, .ref (b 0)), (1, .int (nI px)), (2, .int (nI ((vBa m px (i + 1)).2))), (3, .int (kOpt (vBa m px (i + 1)).1)), (4, .int (nI (i + 1)))]) (by rw [vBa_f (by omega)]) ?_
              exact ih (i + 1) u62 (by omega) (by omega)
            · refine k_iload hJ dX4_bath_95 6 rfl ?_
              refine k_goto (tgt := 101) hJ dX4_bath_97 (by decide) ?_
              refine k_istore_n (lv1 := [(0, .ref (b 0)), (1, .int (nI px)), (2, .int (nI (vPop (vFinders (vHour (vWash m i 6)) px)))), (3, .int (kOpt (vBa m px i).1)), (4, .int (nI i)), (5, .int (nI (vWashed m i))), (6, .int (nI (vPop (vFinders (vHour (vWash m i 6)) px))))]) hJ dX4_bath_101 (by decide) [1, 2, 0, 3, 4, 5, 6] rfl ?_
              refine n_iinc (b := 1) (lv1 := [(0, .ref (b 0)), (1, .int (nI px)), (2, .int (nI (vPop (vFinders (vHour (vWash m i 6)) px)))), (3, .int (kOpt (vBa m px i).1)), (4, .int (nI (i + 1))), (5, .int (nI (vWashed m i))), (6, .int (nI (vPop (vFinders (vHour (vWash m i 6)) px))))]) hJ dX4_bath_102 4 rfl (by decide) (by decide) [1, 2, 3, 4, 0, 5, 6] rfl ?_
              refine k_goto (tgt := 38) hJ dX4_bath_105 (by decide) ?_
              refine k_lv (lv1 := [(0, .ref (b 0)), (1, .int (nI px)), (2, .int (nI (vPop (vFinders (vHour (vWash m i 6)) px)))), (3, .int (kOpt (vBa m px i).1)), (4, .int (nI (i + 1)))]) hJ [0, 1, 2, 3, 4] rfl ?_
              exfalso; omega
          · refine k_iload hJ dX4_bath_82 4 rfl ?_
            refine k_goto (tgt := 88) hJ dX4_bath_84 (by decide) ?_
            refine k_istore_n (lv1 := [(0, .ref (b 0)), (1, .int (nI px)), (2, .int (nI ((vBa m px i).2))), (3, .int (nI i)), (4, .int (nI i)), (5, .int (nI (vWashed m i))), (6, .int (nI (vPop (vFinders (vHour (vWash m i 6)) px))))]) hJ dX4_bath_88 (by decide) [1, 2, 3, 0, 4, 5, 6] rfl ?_
            refine k_iload hJ dX4_bath_89 6 rfl ?_
            refine k_iload_n hJ dX4_bath_91 2 rfl ?_
            refine n_icmp_ge (tgt := 100) hJ dX4_bath_92 (by decide) (by omega) (by omega) (fun c92 => ?_) (fun c92 => ?_)
            · refine k_iload_n hJ dX4_bath_100 2 rfl ?_
              refine k_istore_n (lv1 := [(0, .ref (b 0)), (1, .int (nI px)), (2, .int (nI ((vBa m px i).2))), (3, .int (nI i)), (4, .int (nI i)), (5, .int (nI (vWashed m i))), (6, .int (nI (vPop (vFinders (vHour (vWash m i 6)) px))))]) hJ dX4_bath_101 (by decide) [1, 2, 0, 3, 4, 5, 6] rfl ?_
              refine n_iinc (b := 1) (lv1 := [(0, .ref (b 0)), (1, .int (nI px)), (2, .int (nI ((vBa m px i).2))), (3, .int (nI i)), (4, .int (nI (i + 1))), (5, .int (nI (vWashed m i))), (6, .int (nI (vPop (vFinders (vHour (vWash m i 6)) px))))]) hJ dX4_bath_102 4 rfl (by decide) (by decide) [1, 2, 3, 4, 0, 5, 6] rfl ?_
              refine k_goto (tgt := 38) hJ dX4_bath_105 (by decide) ?_
              refine k_lv (lv1 := [(0, .ref (b 0)), (1, .int (nI px)), (2, .int (nI ((vBa m px i).2))), (3, .int (nI i)), (4, .int (nI (i + 1)))]) hJ [0, 1, 2, 3, 4] rfl ?_
              exfalso; omega
            · refine k_iload hJ dX4_bath_95 6 rfl ?_
              refine k_goto (tgt := 101) hJ dX4_bath_97 (by decide) ?_
              refine k_istore_n (lv1 := [(0, .ref (b 0)), (1, .int (nI px)), (2, .int (nI (vPop (vFinders (vHour (vWash m i 6)) px)))), (3, .int (nI i)), (4, .int (nI i)), (5, .int (nI (vWashed m i))), (6, .int (nI (vPop (vFinders (vHour (vWash m i 6)) px))))]) hJ dX4_bath_101 (by decide) [1, 2, 0, 3, 4, 5, 6] rfl ?_
              refine n_iinc (b := 1) (lv1 := [(0, .ref (b 0)), (1, .int (nI px)), (2, .int (nI (vPop (vFinders (vHour (vWash m i 6)) px)))), (3, .int (nI i)), (4, .int (nI (i + 1))), (5, .int (nI (vWashed m i))), (6, .int (nI (vPop (vFinders (vHour (vWash m i 6)) px))))]) hJ dX4_bath_102 4 rfl (by decide) (by decide) [1, 2, 3, 4, 0, 5, 6] rfl ?_
              refine k_goto (tgt := 38) hJ dX4_bath_105 (by decide) ?_
              refine k_lv (lv1 := [(0, .ref (b 0)), (1, .int (nI px)), (2, .int (nI (vPop (vFinders (vHour (vWash m i 6)) px)))), (3, .int (nI i)), (4, .int (nI (i + 1)))]) hJ [0, 1, 2, 3, 4] rfl ?_
              refine k_eql (lv1 := [(0, .ref (b 0)), (1, .int (nI px)), (2, .int (nI ((vBa m px (i + 1)).2))), (3, .int (kOpt (vBa m px (i + 1)).1)), (4, .int (nI (i + 1)))]) (by rw [vBa_t (by omega)]; rfl) ?_
              exact ih (i + 1) u62 (by omega) (by omega)
    exact L38 (m 0 + 1) 0 u20 (by omega) (by omega)
  · refine k_aload_n hJ dX4_bath_8 0 rfl ?_
    refine k_ldc hJ dX4_bath_9 cw_X4_44 ?_
    refine k_eqs (st2 := [.int (kFi 0), .ref (b 0)]) (by rw [kFi_c0]) ?_
    refine c_VI (As := [.int (kFi 0)]) (st := []) hJ (ct_X4_finds l g b (mE kf fj mj tl fr to va iw) m th ai ct (fun i => nI ((if kf then k else jk) i)) ot tp sb sz nu mo 0 (by decide)) (Fr.all rfl) mv_X4_finds ml_X4_68 0 rfl rfl rfl (kRm_ok (by decide) (by decide)) rfl rfl (Nat.le_of_ble_eq_true rfl) dX4_bath_11 ?_
    have hsp : sp_bath (m, k, kf, tp, tl, sb, sz, nu, ct) x = (kFi 0, (m, k, kf, tp, tl, sb, sz, nu, kTe ct 0)) := by simp [-Nat.add_zero, sp_bath, sp_tell, nI_l0, nI_l1, nI_l2, nI_l3, nI_l4, tN_l0, tN_l1, tN_l2, tN_l3, tN_l4, c5] <;> (repeat' (first | intro _ | refine ⟨?_, ?_⟩ | split)) <;> first | rfl | omega | (exfalso; omega)
    exact k_eqw (ws2 := modA g b (sp_bath (m, k, kf, tp, tl, sb, sz, nu, ct) x).2 (fj, mj, fr, to, va, iw, jk, th, ai, ot, mo)) (by rw [hsp]; rfl) (hR _ _ _ (fj, mj, fr, to, va, iw, jk, th, ai, ot, mo) dX4_bath_14 (by rw [hsp]))
theorem vJ1_1 (f p n : Nat) : vJ1 f p n 1 = none := by simp [vJ1]
theorem vJn_1 (f p n : Nat) : vJn f p n 1 = 0 := by simp [vJn]
theorem vJ1_no {f p n s : Nat} (h : vJu f p n s = false) : vJ1 f p n (s + 1) = vJ1 f p n s ∧ vJn f p n (s + 1) = vJn f p n s := by
  constructor
  · rw [vJ1, h]
    cases vJ1 f p n s <;> simp
  · rw [vJn, h]
    simp
theorem vJ1_yes {f p n s : Nat} (h1 : 1 ≤ s) (h : vJu f p n s = true) : vJ1 f p n (s + 1) = (if vJn f p n s = 0 then some s else vJ1 f p n s) ∧ vJn f p n (s + 1) = vJn f p n s + 1 := by
  constructor
  · rw [vJ1]
    cases h2 : vJ1 f p n s with
    | none => rw [if_pos ((vJ_0 f p n s).mpr h2), if_pos ⟨h1, h⟩]
    | some x =>
      show some x = (if vJn f p n s = 0 then some s else some x)
      rw [if_neg (fun q => by rw [(vJ_0 f p n s).mp q] at h2; cases h2)]
  · rw [vJn, if_pos ⟨h1, h⟩]
set_option maxHeartbeats 4000000 in
set_option maxRecDepth 100000 in
theorem ct_X4_findJuries (l : Launch) (g : KG) (b : Nat → Nat) (kf : Bool) (fj : Int32) (mj tl fr to va : Nat) (iw : Bool) (m : Nat → Nat) (th ai ct ks ot : Nat → Int32) (tp sb sz : Nat → Nat) (nu : Nat → Nat → Int64) (mo : Nat → Int64) (p n : Nat)  {B : Nat} (hB : B < 2 ^ 30) (hm : vOk B m) (hp : p < 8) (hn : n < 2 ^ 31) : CV l yX4_findJuries cX4_findJuries 5 none (rmK 6) g [.ref (b 0), .int (nI p), .int (nI n)] (modW g b (mE kf fj mj tl fr to va iw) m th ai ct ks ot tp sb sz nu mo) (modW g b (mE kf (kOpt (vJ1 (vFinders m p) p n (2 ^ m 0))) (vJn (vFinders m p) p n (2 ^ m 0)) tl fr to va iw) m th ai ct ks ot tp sb sz nu mo) := by
  refine k_bodyV (by decide) (Nat.le_of_ble_eq_true rfl) (fun J hJ hR => ?_)
  have h0 : m 0 ≤ 8 := hm.1
  have hpw : 2 ^ m 0 ≤ 256 := Nat.pow_le_pow_right (by decide) h0
  have hp1 : 1 ≤ 2 ^ m 0 := Nat.one_le_two_pow
  have hff : vFinders m p < 256 := vBits_le8 _ h0
  show J (modW g b (mE kf fj mj tl fr to va iw) m th ai ct ks ot tp sb sz nu mo) [(0, .ref (b 0)), (1, .int (nI p)), (2, .int (nI n))] 0 []
  have L19 : ∀ (fu : Nat) (S : Nat), (1 ≤ S) → (S ≤ 2 ^ m 0) → (2 ^ m 0 + 1 ≤ S + fu) → J (modW g b (mE kf (kOpt (vJ1 (vFinders m p) p n S)) (vJn (vFinders m p) p n S) tl fr to va iw) m th ai ct ks ot tp sb sz nu mo) [(0, .ref (b 0)), (1, .int (nI p)), (2, .int (nI n)), (3, .int (nI (vFinders m p))), (4, .int (nI S))] 19 [] := by
    intro fu
    induction fu with
    | zero => intro S h1 hS hf; exfalso; omega
    | succ fu ih =>
      intro S h1 hS hf
      refine k_iload hJ dX4_findJuries_19 4 rfl ?_
      refine k_iconst (v := nI 1) hJ dX4_findJuries_21 (by decide) ?_
      refine k_aload_n hJ dX4_findJuries_22 0 rfl ?_
      refine gf_X4_7 (v := .ref (b 1)) hJ 0 rfl rfl dX4_findJuries_23 ?_
      refine k_iconst (v := nI 0) hJ dX4_findJuries_26 (by decide) ?_
      refine k_iald hJ 1 rfl 0 (by omega) (by decide) rfl dX4_findJuries_27 ?_
      refine n_ibit hJ dX4_findJuries_28 (by omega) ?_
      refine n_icmp_ge (tgt := 95) hJ dX4_findJuries_29 (by decide) (by omega) (by omega) (fun c29 => ?_) (fun c29 => ?_)
      · exact k_eqw (ws2 := modW g b (mE kf (kOpt (vJ1 (vFinders m p) p n (2 ^ m 0))) (vJn (vFinders m p) p n (2 ^ m 0)) tl fr to va iw) m th ai ct ks ot tp sb sz nu mo) (by rw [show S = 2 ^ m 0 by omega]) (hR _ _ () () dX4_findJuries_95 trivial)
      · have hS8 : S < 256 := by omega
        have hPo := vPop_le (s := S)
        have hJn := vJn_le (vFinders m p) p n S
        refine k_iload hJ dX4_findJuries_32 4 rfl ?_
        refine k_iload_n hJ dX4_findJuries_34 1 rfl ?_
        refine k_ishr hJ dX4_findJuries_35 ?_
        refine k_iconst (v := nI 1) hJ dX4_findJuries_36 (by decide) ?_
        refine k_iand hJ dX4_findJuries_37 ?_
        refine k_eqs (st2 := [.int (nI (S / 2 ^ p % 2))]) (by rw [bit_r p hp S hS8]) ?_
        refine n_if_ne (tgt := 89) hJ dX4_findJuries_38 (by decide) (by omega) (fun c38 => ?_) (fun c38 => ?_)
        · refine n_iinc (b := 1) (lv1 := [(0, .ref (b 0)), (1, .int (nI p)), (2, .int (nI n)), (3, .int (nI (vFinders m p))), (4, .int (nI (S + 1)))]) hJ dX4_findJuries_89 4 rfl (by decide) (by decide) [1, 2, 3, 4, 0] rfl ?_
          refine k_goto (tgt := 19) hJ dX4_findJuries_92 (by decide) ?_
          refine k_eqw (ws2 := modW g b (mE kf (kOpt (vJ1 (vFinders m p) p n (S + 1))) (vJn (vFinders m p) p n (S + 1)) tl fr to va iw) m th ai ct ks ot tp sb sz nu mo) (by have e := vJ1_no (show vJu (vFinders m p) p n S = false by unfold vJu; rw [beq_false_of_ne c38]; rfl); rw [e.1, e.2]) ?_
          exact ih (S + 1) (by omega) (by omega) (by omega)
        · refine k_iload hJ dX4_findJuries_41 4 rfl ?_
          refine c_SI (As := [.int (nI S)]) (st := []) hJ (ct_X4_ones l g S (by omega)) Fr.none ms_X4_ones ml_X4_136 (kRm_ok (by decide) (by decide)) rfl rfl (Nat.le_of_ble_eq_true rfl) dX4_findJuries_43 ?_
          refine k_iload_n hJ dX4_findJuries_46 2 rfl ?_
          refine n_icmp_ne (tgt := 89) hJ dX4_findJuries_47 (by decide) (by omega) (by omega) (fun c47 => ?_) (fun c47 => ?_)
          · refine n_iinc (b := 1) (lv1 := [(0, .ref (b 0)), (1, .int (nI p)), (2, .int (nI n)), (3, .int (nI (vFinders m p))), (4, .int (nI (S + 1)))]) hJ dX4_findJuries_89 4 rfl (by decide) (by decide) [1, 2, 3, 4, 0] rfl ?_
            refine k_goto (tgt := 19) hJ dX4_findJuries_92 (by decide) ?_
            refine k_eqw (ws2 := modW g b (mE kf (kOpt (vJ1 (vFinders m p) p n (S + 1))) (vJn (vFinders m p) p n (S + 1)) tl fr to va iw) m th ai ct ks ot tp sb sz nu mo) (by have e := vJ1_no (show vJu (vFinders m p) p n S = false by unfold vJu; rw [beq_false_of_ne c47, Bool.and_false]; rfl); rw [e.1, e.2]) ?_
            exact ih (S + 1) (by omega) (by omega) (by omega)
          · refine k_iload hJ dX4_findJuries_50 4 rfl ?_
            refine k_iload_n hJ dX4_findJuries_52 3 rfl ?_
            refine c_SI (As := [.int (nI S), .int (nI (vFinders m p))]) (st := []) hJ (ct_X4_isConvicted l g S (vFinders m p) (by omega) hff) Fr.none ms_X4_isConvicted ml_X4_140 (kRm_ok (by decide) (by decide)) rfl rfl (Nat.le_of_ble_eq_true rfl) dX4_findJuries_53 ?_
            refine b_if_eq (tgt := 89) hJ dX4_findJuries_56 (by decide) (fun c56 => ?_) (fun c56 => ?_)
            · refine n_iinc (b := 1) (lv1 := [(0, .ref (b 0)), (1, .int (nI p)), (2, .int (nI n)), (3, .int (nI (vFinders m p))), (4, .int (nI (S + 1)))]) hJ dX4_findJuries_89 4 rfl (by decide) (by decide) [1, 2, 3, 4, 0] rfl ?_
              refine k_goto (tgt := 19) hJ dX4_findJuries_92 (by decide) ?_
              refine k_eqw (ws2 := modW g b (mE kf (kOpt (vJ1 (vFinders m p) p n (S + 1))) (vJn (vFinders m p) p n (S + 1)) tl fr to va iw) m th ai ct ks ot tp sb sz nu mo) (by have e := vJ1_no (show vJu (vFinders m p) p n S = false by unfold vJu; rw [c56, Bool.and_false]); rw [e.1, e.2]) ?_
              exact ih (S + 1) (by omega) (by omega) (by omega)
            · refine k_aload_n hJ dX4_findJuries_59 0 rfl ?_
              refine k_aload_n hJ dX4_findJuries_60 0 rfl ?_
              refine gf_X4_181 (v := .int (nI (vJn (vFinders m p) p n S))) hJ 0 rfl rfl dX4_findJuries_61 ?_
              refine n_if_ne (tgt := 72) hJ dX4_findJuries_64 (by decide) (by omega) (fun c64 => ?_) (fun c64 => ?_)
              · refine k_aload_n hJ dX4_findJuries_72 0 rfl ?_
                refine gf_X4_177 (v := .int (kOpt (vJ1 (vFinders m p) p n S))) hJ 0 rfl rfl dX4_findJuries_73 ?_
                refine pf_X4_177 (ws2 := modW g b (mE kf (kOpt (vJ1 (vFinders m p) p n S)) (vJn (vFinders m p) p n S) tl fr to va iw) m th ai ct ks ot tp sb sz nu mo) hJ 0 rfl rfl (Nat.le_of_ble_eq_true rfl) dX4_findJuries_76 ?_
                refine k_aload_n hJ dX4_findJuries_79 0 rfl ?_
                refine k_dup hJ dX4_findJuries_80 rfl ?_
                refine gf_X4_181 (v := .int (nI (vJn (vFinders m p) p n S))) hJ 0 rfl rfl dX4_findJuries_81 ?_
                refine k_iconst (v := nI 1) hJ dX4_findJuries_84 (by decide) ?_
                refine n_iadd hJ dX4_findJuries_85 ?_
                refine pf_X4_181 (ws2 := modW g b (mE kf (kOpt (vJ1 (vFinders m p) p n S)) ((vJn (vFinders m p) p n S) + 1) tl fr to va iw) m th ai ct ks ot tp sb sz nu mo) hJ 0 rfl rfl (Nat.le_of_ble_eq_true rfl) dX4_findJuries_86 ?_
                refine n_iinc (b := 1) (lv1 := [(0, .ref (b 0)), (1, .int (nI p)), (2, .int (nI n)), (3, .int (nI (vFinders m p))), (4, .int (nI (S + 1)))]) hJ dX4_findJuries_89 4 rfl (by decide) (by decide) [1, 2, 3, 4, 0] rfl ?_
                refine k_goto (tgt := 19) hJ dX4_findJuries_92 (by decide) ?_
                refine k_eqw (ws2 := modW g b (mE kf (kOpt (vJ1 (vFinders m p) p n (S + 1))) (vJn (vFinders m p) p n (S + 1)) tl fr to va iw) m th ai ct ks ot tp sb sz nu mo) (by have e := vJ1_yes h1 (show vJu (vFinders m p) p n S = true by unfold vJu; rw [c38, c47, c56]; simp); rw [e.1, e.2, if_neg c64]) ?_
                exact ih (S + 1) (by omega) (by omega) (by omega)
              · refine k_iload hJ dX4_findJuries_67 4 rfl ?_
                refine k_goto (tgt := 76) hJ dX4_findJuries_69 (by decide) ?_
                refine pf_X4_177 (ws2 := modW g b (mE kf (nI S) (vJn (vFinders m p) p n S) tl fr to va iw) m th ai ct ks ot tp sb sz nu mo) hJ 0 rfl rfl (Nat.le_of_ble_eq_true rfl) dX4_findJuries_76 ?_
                refine k_aload_n hJ dX4_findJuries_79 0 rfl ?_
                refine k_dup hJ dX4_findJuries_80 rfl ?_
                refine gf_X4_181 (v := .int (nI (vJn (vFinders m p) p n S))) hJ 0 rfl rfl dX4_findJuries_81 ?_
                refine k_iconst (v := nI 1) hJ dX4_findJuries_84 (by decide) ?_
                refine n_iadd hJ dX4_findJuries_85 ?_
                refine pf_X4_181 (ws2 := modW g b (mE kf (nI S) ((vJn (vFinders m p) p n S) + 1) tl fr to va iw) m th ai ct ks ot tp sb sz nu mo) hJ 0 rfl rfl (Nat.le_of_ble_eq_true rfl) dX4_findJuries_86 ?_
                refine n_iinc (b := 1) (lv1 := [(0, .ref (b 0)), (1, .int (nI p)), (2, .int (nI n)), (3, .int (nI (vFinders m p))), (4, .int (nI (S + 1)))]) hJ dX4_findJuries_89 4 rfl (by decide) (by decide) [1, 2, 3, 4, 0] rfl ?_
                refine k_goto (tgt := 19) hJ dX4_findJuries_92 (by decide) ?_
                refine k_eqw (ws2 := modW g b (mE kf (kOpt (vJ1 (vFinders m p) p n (S + 1))) (vJn (vFinders m p) p n (S + 1)) tl fr to va iw) m th ai ct ks ot tp sb sz nu mo) (by have e := vJ1_yes h1 (show vJu (vFinders m p) p n S = true by unfold vJu; rw [c38, c47, c56]; simp); rw [e.1, e.2, if_pos c64]; rfl) ?_
                exact ih (S + 1) (by omega) (by omega) (by omega)
  refine k_aload_n hJ dX4_findJuries_0 0 rfl ?_
  refine k_iload_n hJ dX4_findJuries_1 1 rfl ?_
  refine c_VI (As := [.int (nI p)]) (st := []) hJ (ct_X4_finders l g b (mE kf fj mj tl fr to va iw) m p hB hm (by omega)) (frS rfl) mv_X4_finders ml_X4_133 0 rfl rfl rfl (kRm_ok (by decide) (by decide)) rfl rfl (Nat.le_of_ble_eq_true rfl) dX4_findJuries_2 ?_
  refine k_istore_n (lv1 := [(0, .ref (b 0)), (1, .int (nI p)), (2, .int (nI n)), (3, .int (nI (vFinders m p)))]) hJ dX4_findJuries_5 (by decide) [1, 2, 3, 0] rfl ?_
  refine k_aload_n hJ dX4_findJuries_6 0 rfl ?_
  refine k_iconst (v := (-1)) hJ dX4_findJuries_7 (by decide) ?_
  refine pf_X4_177 (ws2 := modW g b (mE kf (-1) mj tl fr to va iw) m th ai ct ks ot tp sb sz nu mo) hJ 0 rfl rfl (Nat.le_of_ble_eq_true rfl) dX4_findJuries_8 ?_
  refine k_aload_n hJ dX4_findJuries_11 0 rfl ?_
  refine k_iconst (v := nI 0) hJ dX4_findJuries_12 (by decide) ?_
  refine pf_X4_181 (ws2 := modW g b (mE kf (-1) 0 tl fr to va iw) m th ai ct ks ot tp sb sz nu mo) hJ 0 rfl rfl (Nat.le_of_ble_eq_true rfl) dX4_findJuries_13 ?_
  refine k_iconst (v := nI 1) hJ dX4_findJuries_16 (by decide) ?_
  refine k_istore (lv1 := [(0, .ref (b 0)), (1, .int (nI p)), (2, .int (nI n)), (3, .int (nI (vFinders m p))), (4, .int (nI 1))]) hJ dX4_findJuries_17 (by decide) [1, 2, 3, 4, 0] rfl ?_
  refine k_eqw (ws2 := modW g b (mE kf (kOpt (vJ1 (vFinders m p) p n 1)) (vJn (vFinders m p) p n 1) tl fr to va iw) m th ai ct ks ot tp sb sz nu mo) (by rw [vJ1_1, vJn_1]; rfl) ?_
  exact L19 (2 ^ m 0) 1 (by omega) (by omega) (by omega)
set_option maxHeartbeats 4000000 in
set_option maxRecDepth 100000 in
theorem mp_jury (l : Launch) (g : KG) (b : Nat → Nat) (j : MJ) (s : KS) (hs : kOk s) (x : Int32) (y : Int32) : CT l yX4_jury cX4_jury 3 (some .int) (rmK 7) g [.ref (b 0), .int x, .int y] (modA g b s j) (S := MJ) oI (fun r _ => r = (sp_jury s x y).1) (fun j => modA g b (sp_jury s x y).2 j) := by
  obtain ⟨m, k, kf, tp, tl, sb, sz, nu, ct⟩ := s
  obtain ⟨fj, mj, fr, to, va, iw, jk, th, ai, ot, mo⟩ := j
  obtain ⟨hm, hk, htl, htp, hsh⟩ := hs
  have h0 : m 0 ≤ 8 := hm.1
  have h1 : m 1 ≤ 9999 := hm.2.1
  have h2 : m 2 ≤ 4 := hm.2.2.1
  have h3 : m 3 ≤ 99 := hm.2.2.2.2.1
  have hB : 9999 < 2 ^ 30 := by decide
  refine k_bodyI (by decide) (Nat.le_of_ble_eq_true rfl) (fun _ _ _ => rfl) (fun J hJ hR => ?_)
  have hpw : 2 ^ m 0 ≤ 256 := Nat.pow_le_pow_right (by decide) h0
  show J (modW g b (mE kf fj mj tl fr to va iw) m th ai ct (fun i => nI ((if kf then k else jk) i)) ot tp sb sz nu mo) [(0, .ref (b 0)), (1, .int x), (2, .int y)] 0 []
  refine k_aload_n hJ dX4_jury_0 0 rfl ?_
  refine k_iload_n hJ dX4_jury_1 1 rfl ?_
  refine c_VI (As := [.int x]) (st := []) hJ (ct_X4_isPerson l g b (mE kf fj mj tl fr to va iw) m x (by omega)) (frS rfl) mv_X4_isPerson ml_X4_51 0 rfl rfl rfl (kRm_ok (by decide) (by decide)) rfl rfl (Nat.le_of_ble_eq_true rfl) dX4_jury_2 ?_
  refine b_if_eq (tgt := 20) hJ dX4_jury_5 (by decide) (fun c5 => ?_) (fun c5 => ?_)
  · refine k_aload_n hJ dX4_jury_20 0 rfl ?_
    refine k_ldc hJ dX4_jury_21 cw_X4_44 ?_
    refine k_eqs (st2 := [.int (kFi 0), .ref (b 0)]) (by rw [kFi_c0]) ?_
    refine c_VI (As := [.int (kFi 0)]) (st := []) hJ (ct_X4_finds l g b (mE kf fj mj tl fr to va iw) m th ai ct (fun i => nI ((if kf then k else jk) i)) ot tp sb sz nu mo 0 (by decide)) (Fr.all rfl) mv_X4_finds ml_X4_68 0 rfl rfl rfl (kRm_ok (by decide) (by decide)) rfl rfl (Nat.le_of_ble_eq_true rfl) dX4_jury_23 ?_
    have hsp : sp_jury (m, k, kf, tp, tl, sb, sz, nu, ct) x y = (kFi 0, (m, k, kf, tp, tl, sb, sz, nu, kTe ct 0)) := by simp [-Nat.add_zero, sp_jury, sp_tell, nI_l0, nI_l1, nI_l2, nI_l3, nI_l4, tN_l0, tN_l1, tN_l2, tN_l3, tN_l4, c5] <;> (repeat' (first | intro _ | refine ⟨?_, ?_⟩ | split)) <;> first | rfl | omega | (exfalso; omega)
    exact k_eqw (ws2 := modA g b (sp_jury (m, k, kf, tp, tl, sb, sz, nu, ct) x y).2 (fj, mj, fr, to, va, iw, jk, th, ai, ot, mo)) (by rw [hsp]; rfl) (hR _ _ _ (fj, mj, fr, to, va, iw, jk, th, ai, ot, mo) dX4_jury_26 (by rw [hsp]))
  · obtain ⟨px, hpx, rfl⟩ := vIn_of (by omega) c5
    refine k_iload_n hJ dX4_jury_8 2 rfl ?_
    refine k_i2l hJ dX4_jury_9 rfl ?_
    refine k_lconst (v := 1) hJ dX4_jury_10 (by decide) ?_
    refine k_ldc2 hJ dX4_jury_11 cw_X4_184 ?_
    refine c_SI (As := [.long y.toInt64, .long 1, .long 7]) (st := []) hJ (ct_X4_in l g y.toInt64 1 7) Fr.none ms_X4_in ml_X4_47 (kRm_ok (by decide) (by decide)) rfl rfl (Nat.le_of_ble_eq_true rfl) dX4_jury_14 ?_
    refine k_eqs (st2 := [.int (kb (vBt y 1 7))]) (by rw [show vInL y.toInt64 1 7 = vBt y 1 7 from vInL_bt y 1 7 1 7 rfl rfl]) ?_
    refine b_if_ne (tgt := 27) hJ dX4_jury_17 (by decide) (fun c17 => ?_) (fun c17 => ?_)
    · obtain ⟨py, hly, hpy, rfl⟩ := vBt_of (by omega) (by first | omega | (have := Nat.pow_le_pow_right (show 0 < 2 by decide) h0; omega)) c17
      refine k_aload_n hJ dX4_jury_27 0 rfl ?_
      refine k_iload_n hJ dX4_jury_28 1 rfl ?_
      refine k_iload_n hJ dX4_jury_29 2 rfl ?_
      refine c_VV (As := [.int (nI px), .int (nI py)]) (st := []) hJ (ct_X4_findJuries l g b kf fj mj tl fr to va iw m th ai ct (fun i => nI ((if kf then k else jk) i)) ot tp sb sz nu mo px py hB hm (by omega) (by omega)) (Fr.all rfl) mv_X4_findJuries ml_X4_186 0 rfl rfl rfl (kRm_ok (by decide) (by decide)) rfl rfl (Nat.le_of_ble_eq_true rfl) dX4_jury_30 ?_
      rcases hO : vJ1 (vFinders m px) px py (2 ^ m 0) with _ | bb
      · show J (modW g b (mE kf (-1) (vJn (vFinders m px) px py (2 ^ m 0)) tl fr to va iw) m th ai ct (fun i => nI ((if kf then k else jk) i)) ot tp sb sz nu mo) [(0, .ref (b 0)), (1, .int (nI px)), (2, .int (nI py))] 33 []
        refine k_aload_n hJ dX4_jury_33 0 rfl ?_
        refine gf_X4_177 (v := .int (-1)) hJ 0 rfl rfl dX4_jury_34 ?_
        refine k_if_ge (tgt := 49) hJ dX4_jury_37 (by decide) (fun c37 => ?_) (fun c37 => ?_)
        · refine k_aload_n hJ dX4_jury_49 0 rfl ?_
          refine gf_X4_177 (v := .int (-1)) hJ 0 rfl rfl dX4_jury_50 ?_
          exact absurd c37 (by decide)
        · refine k_aload_n hJ dX4_jury_40 0 rfl ?_
          refine k_ldc hJ dX4_jury_41 cw_X4_129 ?_
          refine k_eqs (st2 := [.int (kFi 3), .ref (b 0)]) (by rw [kFi_c3]) ?_
          refine c_VI (As := [.int (kFi 3)]) (st := []) hJ (ct_X4_finds l g b (mE kf (-1) (vJn (vFinders m px) px py (2 ^ m 0)) tl fr to va iw) m th ai ct (fun i => nI ((if kf then k else jk) i)) ot tp sb sz nu mo 3 (by decide)) (Fr.all rfl) mv_X4_finds ml_X4_68 0 rfl rfl rfl (kRm_ok (by decide) (by decide)) rfl rfl (Nat.le_of_ble_eq_true rfl) dX4_jury_43 ?_
          refine k_goto (tgt := 53) hJ dX4_jury_46 (by decide) ?_
          have hsp : sp_jury (m, k, kf, tp, tl, sb, sz, nu, ct) (nI px) (nI py) = (kFi 3, (m, k, kf, tp, tl, sb, sz, nu, kTe ct 3)) := by simp [sp_jury, sp_opt, sp_tell, c5, c17, nI_clamp (show px < 2 ^ 31 by omega), nI_clamp (show py < 2 ^ 31 by omega), hO]
          exact k_eqw (ws2 := modA g b (sp_jury (m, k, kf, tp, tl, sb, sz, nu, ct) (nI px) (nI py)).2 ((-1), vJn (vFinders m px) px py (2 ^ m 0), fr, to, va, iw, jk, th, ai, ot, mo)) (by rw [hsp]; rfl) (hR _ _ _ ((-1), vJn (vFinders m px) px py (2 ^ m 0), fr, to, va, iw, jk, th, ai, ot, mo) dX4_jury_53 (by rw [hsp]))
      · show J (modW g b (mE kf (nI bb) (vJn (vFinders m px) px py (2 ^ m 0)) tl fr to va iw) m th ai ct (fun i => nI ((if kf then k else jk) i)) ot tp sb sz nu mo) [(0, .ref (b 0)), (1, .int (nI px)), (2, .int (nI py))] 33 []
        have hbb := vJ1_lt hO
        refine k_aload_n hJ dX4_jury_33 0 rfl ?_
        refine gf_X4_177 (v := .int (nI bb)) hJ 0 rfl rfl dX4_jury_34 ?_
        refine n_if_ge (tgt := 49) hJ dX4_jury_37 (by decide) (by omega) (fun c37 => ?_) (fun c37 => ?_)
        · refine k_aload_n hJ dX4_jury_49 0 rfl ?_
          refine gf_X4_177 (v := .int (nI bb)) hJ 0 rfl rfl dX4_jury_50 ?_
          have hsp : sp_jury (m, k, kf, tp, tl, sb, sz, nu, ct) (nI px) (nI py) = (nI bb, (m, k, kf, tp, tl, sb, sz, nu, ct)) := by simp [sp_jury, sp_opt, sp_tell, c5, c17, nI_clamp (show px < 2 ^ 31 by omega), nI_clamp (show py < 2 ^ 31 by omega), hO]
          exact k_eqw (ws2 := modA g b (sp_jury (m, k, kf, tp, tl, sb, sz, nu, ct) (nI px) (nI py)).2 (nI bb, vJn (vFinders m px) px py (2 ^ m 0), fr, to, va, iw, jk, th, ai, ot, mo)) (by rw [hsp]; rfl) (hR _ _ _ (nI bb, vJn (vFinders m px) px py (2 ^ m 0), fr, to, va, iw, jk, th, ai, ot, mo) dX4_jury_53 (by rw [hsp]))
        · exact absurd c37 (by omega)
    · refine k_aload_n hJ dX4_jury_20 0 rfl ?_
      refine k_ldc hJ dX4_jury_21 cw_X4_44 ?_
      refine k_eqs (st2 := [.int (kFi 0), .ref (b 0)]) (by rw [kFi_c0]) ?_
      refine c_VI (As := [.int (kFi 0)]) (st := []) hJ (ct_X4_finds l g b (mE kf fj mj tl fr to va iw) m th ai ct (fun i => nI ((if kf then k else jk) i)) ot tp sb sz nu mo 0 (by decide)) (Fr.all rfl) mv_X4_finds ml_X4_68 0 rfl rfl rfl (kRm_ok (by decide) (by decide)) rfl rfl (Nat.le_of_ble_eq_true rfl) dX4_jury_23 ?_
      have hsp : sp_jury (m, k, kf, tp, tl, sb, sz, nu, ct) (nI px) y = (kFi 0, (m, k, kf, tp, tl, sb, sz, nu, kTe ct 0)) := by simp [-Nat.add_zero, sp_jury, sp_tell, nI_l0, nI_l1, nI_l2, nI_l3, nI_l4, tN_l0, tN_l1, tN_l2, tN_l3, tN_l4, c5, c17, nI_clamp (show px < 2 ^ 31 by omega)] <;> (repeat' (first | intro _ | refine ⟨?_, ?_⟩ | split)) <;> first | rfl | omega | (exfalso; omega)
      exact k_eqw (ws2 := modA g b (sp_jury (m, k, kf, tp, tl, sb, sz, nu, ct) (nI px) y).2 (fj, mj, fr, to, va, iw, jk, th, ai, ot, mo)) (by rw [hsp]; rfl) (hR _ _ _ (fj, mj, fr, to, va, iw, jk, th, ai, ot, mo) dX4_jury_26 (by rw [hsp]))
set_option maxHeartbeats 4000000 in
set_option maxRecDepth 100000 in
theorem mp_juries (l : Launch) (g : KG) (b : Nat → Nat) (j : MJ) (s : KS) (hs : kOk s) (x : Int32) (y : Int32) : CT l yX4_juries cX4_juries 3 (some .int) (rmK 7) g [.ref (b 0), .int x, .int y] (modA g b s j) (S := MJ) oI (fun r _ => r = (sp_juries s x y).1) (fun j => modA g b (sp_juries s x y).2 j) := by
  obtain ⟨m, k, kf, tp, tl, sb, sz, nu, ct⟩ := s
  obtain ⟨fj, mj, fr, to, va, iw, jk, th, ai, ot, mo⟩ := j
  obtain ⟨hm, hk, htl, htp, hsh⟩ := hs
  have h0 : m 0 ≤ 8 := hm.1
  have h1 : m 1 ≤ 9999 := hm.2.1
  have h2 : m 2 ≤ 4 := hm.2.2.1
  have h3 : m 3 ≤ 99 := hm.2.2.2.2.1
  have hB : 9999 < 2 ^ 30 := by decide
  refine k_bodyI (by decide) (Nat.le_of_ble_eq_true rfl) (fun _ _ _ => rfl) (fun J hJ hR => ?_)
  have hpw : 2 ^ m 0 ≤ 256 := Nat.pow_le_pow_right (by decide) h0
  show J (modW g b (mE kf fj mj tl fr to va iw) m th ai ct (fun i => nI ((if kf then k else jk) i)) ot tp sb sz nu mo) [(0, .ref (b 0)), (1, .int x), (2, .int y)] 0 []
  refine k_aload_n hJ dX4_juries_0 0 rfl ?_
  refine k_iload_n hJ dX4_juries_1 1 rfl ?_
  refine c_VI (As := [.int x]) (st := []) hJ (ct_X4_isPerson l g b (mE kf fj mj tl fr to va iw) m x (by omega)) (frS rfl) mv_X4_isPerson ml_X4_51 0 rfl rfl rfl (kRm_ok (by decide) (by decide)) rfl rfl (Nat.le_of_ble_eq_true rfl) dX4_juries_2 ?_
  refine b_if_eq (tgt := 20) hJ dX4_juries_5 (by decide) (fun c5 => ?_) (fun c5 => ?_)
  · refine k_aload_n hJ dX4_juries_20 0 rfl ?_
    refine k_ldc hJ dX4_juries_21 cw_X4_44 ?_
    refine k_eqs (st2 := [.int (kFi 0), .ref (b 0)]) (by rw [kFi_c0]) ?_
    refine c_VI (As := [.int (kFi 0)]) (st := []) hJ (ct_X4_finds l g b (mE kf fj mj tl fr to va iw) m th ai ct (fun i => nI ((if kf then k else jk) i)) ot tp sb sz nu mo 0 (by decide)) (Fr.all rfl) mv_X4_finds ml_X4_68 0 rfl rfl rfl (kRm_ok (by decide) (by decide)) rfl rfl (Nat.le_of_ble_eq_true rfl) dX4_juries_23 ?_
    have hsp : sp_juries (m, k, kf, tp, tl, sb, sz, nu, ct) x y = (kFi 0, (m, k, kf, tp, tl, sb, sz, nu, kTe ct 0)) := by simp [-Nat.add_zero, sp_juries, sp_tell, nI_l0, nI_l1, nI_l2, nI_l3, nI_l4, tN_l0, tN_l1, tN_l2, tN_l3, tN_l4, c5] <;> (repeat' (first | intro _ | refine ⟨?_, ?_⟩ | split)) <;> first | rfl | omega | (exfalso; omega)
    exact k_eqw (ws2 := modA g b (sp_juries (m, k, kf, tp, tl, sb, sz, nu, ct) x y).2 (fj, mj, fr, to, va, iw, jk, th, ai, ot, mo)) (by rw [hsp]; rfl) (hR _ _ _ (fj, mj, fr, to, va, iw, jk, th, ai, ot, mo) dX4_juries_26 (by rw [hsp]))
  · obtain ⟨px, hpx, rfl⟩ := vIn_of (by omega) c5
    refine k_iload_n hJ dX4_juries_8 2 rfl ?_
    refine k_i2l hJ dX4_juries_9 rfl ?_
    refine k_lconst (v := 1) hJ dX4_juries_10 (by decide) ?_
    refine k_ldc2 hJ dX4_juries_11 cw_X4_184 ?_
    refine c_SI (As := [.long y.toInt64, .long 1, .long 7]) (st := []) hJ (ct_X4_in l g y.toInt64 1 7) Fr.none ms_X4_in ml_X4_47 (kRm_ok (by decide) (by decide)) rfl rfl (Nat.le_of_ble_eq_true rfl) dX4_juries_14 ?_
    refine k_eqs (st2 := [.int (kb (vBt y 1 7))]) (by rw [show vInL y.toInt64 1 7 = vBt y 1 7 from vInL_bt y 1 7 1 7 rfl rfl]) ?_
    refine b_if_ne (tgt := 27) hJ dX4_juries_17 (by decide) (fun c17 => ?_) (fun c17 => ?_)
    · obtain ⟨py, hly, hpy, rfl⟩ := vBt_of (by omega) (by first | omega | (have := Nat.pow_le_pow_right (show 0 < 2 by decide) h0; omega)) c17
      refine k_aload_n hJ dX4_juries_27 0 rfl ?_
      refine k_iload_n hJ dX4_juries_28 1 rfl ?_
      refine k_iload_n hJ dX4_juries_29 2 rfl ?_
      refine c_VV (As := [.int (nI px), .int (nI py)]) (st := []) hJ (ct_X4_findJuries l g b kf fj mj tl fr to va iw m th ai ct (fun i => nI ((if kf then k else jk) i)) ot tp sb sz nu mo px py hB hm (by omega) (by omega)) (Fr.all rfl) mv_X4_findJuries ml_X4_186 0 rfl rfl rfl (kRm_ok (by decide) (by decide)) rfl rfl (Nat.le_of_ble_eq_true rfl) dX4_juries_30 ?_
      refine k_aload_n hJ dX4_juries_33 0 rfl ?_
      refine gf_X4_181 (v := .int (nI (vJn (vFinders m px) px py (2 ^ m 0)))) hJ 0 rfl rfl dX4_juries_34 ?_
      have hsp : sp_juries (m, k, kf, tp, tl, sb, sz, nu, ct) (nI px) (nI py) = (nI (vJn (vFinders m px) px py (2 ^ m 0)), (m, k, kf, tp, tl, sb, sz, nu, ct)) := by simp [-Nat.add_zero, sp_juries, sp_tell, nI_l0, nI_l1, nI_l2, nI_l3, nI_l4, tN_l0, tN_l1, tN_l2, tN_l3, tN_l4, c5, c17, nI_clamp (show px < 2 ^ 31 by omega), nI_clamp (show py < 2 ^ 31 by omega)] <;> (repeat' (first | intro _ | refine ⟨?_, ?_⟩ | split)) <;> first | rfl | omega | (exfalso; omega)
      exact k_eqw (ws2 := modA g b (sp_juries (m, k, kf, tp, tl, sb, sz, nu, ct) (nI px) (nI py)).2 (kOpt (vJ1 (vFinders m px) px py (2 ^ m 0)), vJn (vFinders m px) px py (2 ^ m 0), fr, to, va, iw, jk, th, ai, ot, mo)) (by rw [hsp]; rfl) (hR _ _ _ (kOpt (vJ1 (vFinders m px) px py (2 ^ m 0)), vJn (vFinders m px) px py (2 ^ m 0), fr, to, va, iw, jk, th, ai, ot, mo) dX4_juries_37 (by rw [hsp]))
    · refine k_aload_n hJ dX4_juries_20 0 rfl ?_
      refine k_ldc hJ dX4_juries_21 cw_X4_44 ?_
      refine k_eqs (st2 := [.int (kFi 0), .ref (b 0)]) (by rw [kFi_c0]) ?_
      refine c_VI (As := [.int (kFi 0)]) (st := []) hJ (ct_X4_finds l g b (mE kf fj mj tl fr to va iw) m th ai ct (fun i => nI ((if kf then k else jk) i)) ot tp sb sz nu mo 0 (by decide)) (Fr.all rfl) mv_X4_finds ml_X4_68 0 rfl rfl rfl (kRm_ok (by decide) (by decide)) rfl rfl (Nat.le_of_ble_eq_true rfl) dX4_juries_23 ?_
      have hsp : sp_juries (m, k, kf, tp, tl, sb, sz, nu, ct) (nI px) y = (kFi 0, (m, k, kf, tp, tl, sb, sz, nu, kTe ct 0)) := by simp [-Nat.add_zero, sp_juries, sp_tell, nI_l0, nI_l1, nI_l2, nI_l3, nI_l4, tN_l0, tN_l1, tN_l2, tN_l3, tN_l4, c5, c17, nI_clamp (show px < 2 ^ 31 by omega)] <;> (repeat' (first | intro _ | refine ⟨?_, ?_⟩ | split)) <;> first | rfl | omega | (exfalso; omega)
      exact k_eqw (ws2 := modA g b (sp_juries (m, k, kf, tp, tl, sb, sz, nu, ct) (nI px) y).2 (fj, mj, fr, to, va, iw, jk, th, ai, ot, mo)) (by rw [hsp]; rfl) (hR _ _ _ (fj, mj, fr, to, va, iw, jk, th, ai, ot, mo) dX4_juries_26 (by rw [hsp]))
theorem vFound_ne {m : Nat → Nat} {p o : Nat} (h : p ≠ o) : vFound m p o = vFinds m p o := by unfold vFound; rw [beq_false_of_ne h]; rfl
set_option maxHeartbeats 4000000 in
set_option maxRecDepth 100000 in
theorem mp_nose (l : Launch) (g : KG) (b : Nat → Nat) (j : MJ) (s : KS) (hs : kOk s) (x : Int32) (y : Int32) : CT l yX4_nose cX4_nose 6 (some .int) (rmK 5) g [.ref (b 0), .int x, .int y] (modA g b s j) (S := MJ) oI (fun r _ => r = (sp_nose s x y).1) (fun j => modA g b (sp_nose s x y).2 j) := by
  obtain ⟨m, k, kf, tp, tl, sb, sz, nu, ct⟩ := s
  obtain ⟨fj, mj, fr, to, va, iw, jk, th, ai, ot, mo⟩ := j
  obtain ⟨hm, hk, htl, htp, hsh⟩ := hs
  have h0 : m 0 ≤ 8 := hm.1
  have h1 : m 1 ≤ 9999 := hm.2.1
  have h2 : m 2 ≤ 4 := hm.2.2.1
  have h3 : m 3 ≤ 99 := hm.2.2.2.2.1
  have hB : 9999 < 2 ^ 30 := by decide
  refine k_bodyI (by decide) (Nat.le_of_ble_eq_true rfl) (fun _ _ _ => rfl) (fun J hJ hR => ?_)
  show J (modW g b (mE kf fj mj tl fr to va iw) m th ai ct (fun i => nI ((if kf then k else jk) i)) ot tp sb sz nu mo) [(0, .ref (b 0)), (1, .int x), (2, .int y)] 0 []
  refine k_aload_n hJ dX4_nose_0 0 rfl ?_
  refine k_iload_n hJ dX4_nose_1 1 rfl ?_
  refine k_iload_n hJ dX4_nose_2 2 rfl ?_
  refine c_VI (As := [.int x, .int y]) (st := []) hJ (ct_X4_areTwo l g b (mE kf fj mj tl fr to va iw) m x y (by omega)) (frS rfl) mv_X4_areTwo ml_X4_107 0 rfl rfl rfl (kRm_ok (by decide) (by decide)) rfl rfl (Nat.le_of_ble_eq_true rfl) dX4_nose_3 ?_
  refine b_if_ne (tgt := 16) hJ dX4_nose_6 (by decide) (fun c6 => ?_) (fun c6 => ?_)
  · obtain ⟨px, py, hpx, hpy, hnx, rfl, rfl⟩ := vTwo_of (by omega) c6
    refine k_aload_n hJ dX4_nose_16 0 rfl ?_
    refine k_iload_n hJ dX4_nose_17 1 rfl ?_
    refine k_iconst (v := nI 3) hJ dX4_nose_18 (by decide) ?_
    refine c_SI (As := [.int (nI px), .int (nI 3)]) (st := [.ref (b 0)]) hJ (ct_X4_spot l g px 3 ) Fr.none ms_X4_spot ml_X4_57 (kRm_ok (by decide) (by decide)) rfl rfl (Nat.le_of_ble_eq_true rfl) dX4_nose_19 ?_
    refine k_iconst (v := nI 0) hJ dX4_nose_22 (by decide) ?_
    refine c_VI (As := [.int (nI (4 + 10 * px + 3)), .int (nI 0)]) (st := []) hJ (ct_X4_becomes l g b (mE kf fj mj tl fr to va iw) m (4 + 10 * px + 3) 0 (by omega)) (frS rfl) mv_X4_becomes ml_X4_65 0 rfl rfl rfl (kRm_ok (by decide) (by decide)) rfl rfl (Nat.le_of_ble_eq_true rfl) dX4_nose_23 ?_
    refine k_istore_n (lv1 := [(0, .ref (b 0)), (1, .int (nI px)), (2, .int (nI py)), (3, .int (nI (m (4 + 10 * px + 3))))]) hJ dX4_nose_26 (by decide) [1, 2, 3, 0] rfl ?_
    refine k_aload_n hJ dX4_nose_27 0 rfl ?_
    refine k_iload_n hJ dX4_nose_28 1 rfl ?_
    refine k_iconst (v := nI 2) hJ dX4_nose_29 (by decide) ?_
    refine c_SI (As := [.int (nI px), .int (nI 2)]) (st := [.ref (b 0)]) hJ (ct_X4_spot l g px 2 ) Fr.none ms_X4_spot ml_X4_57 (kRm_ok (by decide) (by decide)) rfl rfl (Nat.le_of_ble_eq_true rfl) dX4_nose_30 ?_
    refine k_iconst (v := nI 0) hJ dX4_nose_33 (by decide) ?_
    refine c_VI (As := [.int (nI (4 + 10 * px + 2)), .int (nI 0)]) (st := []) hJ (ct_X4_becomes l g b (mE kf fj mj tl fr to va iw) (vUp m (4 + 10 * px + 3) 0) (4 + 10 * px + 2) 0 (by omega)) (frS rfl) mv_X4_becomes ml_X4_65 0 rfl rfl rfl (kRm_ok (by decide) (by decide)) rfl rfl (Nat.le_of_ble_eq_true rfl) dX4_nose_34 ?_
    refine k_istore (lv1 := [(0, .ref (b 0)), (1, .int (nI px)), (2, .int (nI py)), (3, .int (nI (m (4 + 10 * px + 3)))), (4, .int (nI ((vUp m (4 + 10 * px + 3) 0) (4 + 10 * px + 2))))]) hJ dX4_nose_37 (by decide) [1, 2, 3, 4, 0] rfl ?_
    refine k_iconst (v := nI 0) hJ dX4_nose_39 (by decide) ?_
    refine k_istore (lv1 := [(0, .ref (b 0)), (1, .int (nI px)), (2, .int (nI py)), (3, .int (nI (m (4 + 10 * px + 3)))), (4, .int (nI ((vUp m (4 + 10 * px + 3) 0) (4 + 10 * px + 2)))), (5, .int (nI 0))]) hJ dX4_nose_40 (by decide) [1, 2, 3, 4, 5, 0] rfl ?_
    have L42 : ∀ (fu : Nat) (n : Nat), (n ≤ 10) → (11 ≤ n + fu) → (∀ i, i < n → (fun n => vFinds (vUp (vUp m (4 + 10 * px + 3) 0) (4 + 10 * px + 2) n) px py) i = false) → J (modW g b (mE kf fj mj tl fr to va iw) (vUp (vUp m (4 + 10 * px + 3) 0) (4 + 10 * px + 2) n) th ai ct (fun i => nI ((if kf then k else jk) i)) ot tp sb sz nu mo) [(0, .ref (b 0)), (1, .int (nI px)), (2, .int (nI py)), (3, .int (nI (m (4 + 10 * px + 3)))), (4, .int (nI ((vUp m (4 + 10 * px + 3) 0) (4 + 10 * px + 2)))), (5, .int (nI n))] 42 [] := by
      intro fu
      induction fu with
      | zero => intro n h10 hf hn; exfalso; omega
      | succ fu ih =>
        intro n h10 hf hn
        refine k_iload hJ dX4_nose_42 5 rfl ?_
        refine k_bipush (v := nI 10) hJ dX4_nose_44 (by decide) ?_
        refine n_icmp_ge (tgt := 76) hJ dX4_nose_46 (by decide) (by omega) (by omega) (fun c46 => ?_) (fun c46 => ?_)
        · refine k_aload_n hJ dX4_nose_76 0 rfl ?_
          refine gf_X4_7 (v := .ref (b 1)) hJ 0 rfl rfl dX4_nose_77 ?_
          refine k_iload_n hJ dX4_nose_80 1 rfl ?_
          refine k_iconst (v := nI 2) hJ dX4_nose_81 (by decide) ?_
          refine c_SI (As := [.int (nI px), .int (nI 2)]) (st := [.ref (b 1)]) hJ (ct_X4_spot l g px 2 ) Fr.none ms_X4_spot ml_X4_57 (kRm_ok (by decide) (by decide)) rfl rfl (Nat.le_of_ble_eq_true rfl) dX4_nose_82 ?_
          refine k_iload hJ dX4_nose_85 4 rfl ?_
          refine k_iast (ws2 := modW g b (mE kf fj mj tl fr to va iw) (vUp (vUp (vUp m (4 + 10 * px + 3) 0) (4 + 10 * px + 2) n) (4 + 10 * px + 2) ((vUp m (4 + 10 * px + 3) 0) (4 + 10 * px + 2))) th ai ct (fun i => nI ((if kf then k else jk) i)) ot tp sb sz nu mo) hJ 1 rfl (4 + 10 * px + 2) (by omega) (by decide) (mw_s (v := ((vUp m (4 + 10 * px + 3) 0) (4 + 10 * px + 2)))) dX4_nose_87 ?_
          refine k_aload_n hJ dX4_nose_88 0 rfl ?_
          refine gf_X4_7 (v := .ref (b 1)) hJ 0 rfl rfl dX4_nose_89 ?_
          refine k_iload_n hJ dX4_nose_92 1 rfl ?_
          refine k_iconst (v := nI 3) hJ dX4_nose_93 (by decide) ?_
          refine c_SI (As := [.int (nI px), .int (nI 3)]) (st := [.ref (b 1)]) hJ (ct_X4_spot l g px 3 ) Fr.none ms_X4_spot ml_X4_57 (kRm_ok (by decide) (by decide)) rfl rfl (Nat.le_of_ble_eq_true rfl) dX4_nose_94 ?_
          refine k_iload_n hJ dX4_nose_97 3 rfl ?_
          refine k_iast (ws2 := modW g b (mE kf fj mj tl fr to va iw) (vUp (vUp (vUp (vUp m (4 + 10 * px + 3) 0) (4 + 10 * px + 2) n) (4 + 10 * px + 2) ((vUp m (4 + 10 * px + 3) 0) (4 + 10 * px + 2))) (4 + 10 * px + 3) (m (4 + 10 * px + 3))) th ai ct (fun i => nI ((if kf then k else jk) i)) ot tp sb sz nu mo) hJ 1 rfl (4 + 10 * px + 3) (by omega) (by decide) (mw_s (v := (m (4 + 10 * px + 3)))) dX4_nose_98 ?_
          refine k_iload hJ dX4_nose_99 5 rfl ?_
          refine k_bipush (v := nI 9) hJ dX4_nose_101 (by decide) ?_
          refine n_icmp_le (tgt := 115) hJ dX4_nose_103 (by decide) (by omega) (by omega) (fun c103 => ?_) (fun c103 => ?_)
          · refine k_iload hJ dX4_nose_115 5 rfl ?_
            exfalso; omega
          · refine k_aload_n hJ dX4_nose_106 0 rfl ?_
            refine k_ldc hJ dX4_nose_107 cw_X4_129 ?_
            refine k_eqs (st2 := [.int (kFi 3), .ref (b 0)]) (by rw [kFi_c3]) ?_
            refine c_VI (As := [.int (kFi 3)]) (st := []) hJ (ct_X4_finds l g b (mE kf fj mj tl fr to va iw) (vUp (vUp (vUp (vUp m (4 + 10 * px + 3) 0) (4 + 10 * px + 2) n) (4 + 10 * px + 2) ((vUp m (4 + 10 * px + 3) 0) (4 + 10 * px + 2))) (4 + 10 * px + 3) (m (4 + 10 * px + 3))) th ai ct (fun i => nI ((if kf then k else jk) i)) ot tp sb sz nu mo 3 (by decide)) (Fr.all rfl) mv_X4_finds ml_X4_68 0 rfl rfl rfl (kRm_ok (by decide) (by decide)) rfl rfl (Nat.le_of_ble_eq_true rfl) dX4_nose_109 ?_
            refine k_goto (tgt := 117) hJ dX4_nose_112 (by decide) ?_
            have hF : vFst (fun n => vFinds (vUp (vUp m (4 + 10 * px + 3) 0) (4 + 10 * px + 2) n) px py) 10 = 10 := vFst_none (fun i hi => hn i (by omega))
            refine k_eqw (ws2 := modW g b (mE kf fj mj tl fr to va iw) m th ai (kTe ct 3) (fun i => nI ((if kf then k else jk) i)) ot tp sb sz nu mo) (by rw [vUp_up, vUp_id, vUp_up, vUp_id]) ?_
            have hsp : sp_nose (m, k, kf, tp, tl, sb, sz, nu, ct) (nI px) (nI py) = (kFi 3, (m, k, kf, tp, tl, sb, sz, nu, kTe ct 3)) := by simp only [sp_nose]; rw [if_pos c6, tN_nI (show px < 2 ^ 31 by omega), tN_nI (show py < 2 ^ 31 by omega), hF]; unfold sp_fst; rw [if_neg (by omega)]; rfl
            exact k_eqw (ws2 := modA g b (sp_nose (m, k, kf, tp, tl, sb, sz, nu, ct) (nI px) (nI py)).2 (fj, mj, fr, to, va, iw, jk, th, ai, ot, mo)) (by rw [hsp]; rfl) (hR _ _ _ (fj, mj, fr, to, va, iw, jk, th, ai, ot, mo) dX4_nose_117 (by rw [hsp]))
        · refine k_aload_n hJ dX4_nose_49 0 rfl ?_
          refine k_iload_n hJ dX4_nose_50 1 rfl ?_
          refine k_iload_n hJ dX4_nose_51 2 rfl ?_
          refine c_VI (As := [.int (nI px), .int (nI py)]) (st := []) hJ (ct_X4_isFound l g b (mE kf fj mj tl fr to va iw) (vUp (vUp m (4 + 10 * px + 3) 0) (4 + 10 * px + 2) n) px py hB (vOk_ns (vOk_cd hm px (by omega)) px (by omega)) (by omega) (by omega)) (frS rfl) mv_X4_isFound ml_X4_130 0 rfl rfl rfl (kRm_ok (by decide) (by decide)) rfl rfl (Nat.le_of_ble_eq_true rfl) dX4_nose_52 ?_
          refine b_if_ne (tgt := 76) hJ dX4_nose_55 (by decide) (fun c55 => ?_) (fun c55 => ?_)
          · refine k_aload_n hJ dX4_nose_76 0 rfl ?_
            refine gf_X4_7 (v := .ref (b 1)) hJ 0 rfl rfl dX4_nose_77 ?_
            refine k_iload_n hJ dX4_nose_80 1 rfl ?_
            refine k_iconst (v := nI 2) hJ dX4_nose_81 (by decide) ?_
            refine c_SI (As := [.int (nI px), .int (nI 2)]) (st := [.ref (b 1)]) hJ (ct_X4_spot l g px 2 ) Fr.none ms_X4_spot ml_X4_57 (kRm_ok (by decide) (by decide)) rfl rfl (Nat.le_of_ble_eq_true rfl) dX4_nose_82 ?_
            refine k_iload hJ dX4_nose_85 4 rfl ?_
            refine k_iast (ws2 := modW g b (mE kf fj mj tl fr to va iw) (vUp (vUp (vUp m (4 + 10 * px + 3) 0) (4 + 10 * px + 2) n) (4 + 10 * px + 2) ((vUp m (4 + 10 * px + 3) 0) (4 + 10 * px + 2))) th ai ct (fun i => nI ((if kf then k else jk) i)) ot tp sb sz nu mo) hJ 1 rfl (4 + 10 * px + 2) (by omega) (by decide) (mw_s (v := ((vUp m (4 + 10 * px + 3) 0) (4 + 10 * px + 2)))) dX4_nose_87 ?_
            refine k_aload_n hJ dX4_nose_88 0 rfl ?_
            refine gf_X4_7 (v := .ref (b 1)) hJ 0 rfl rfl dX4_nose_89 ?_
            refine k_iload_n hJ dX4_nose_92 1 rfl ?_
            refine k_iconst (v := nI 3) hJ dX4_nose_93 (by decide) ?_
            refine c_SI (As := [.int (nI px), .int (nI 3)]) (st := [.ref (b 1)]) hJ (ct_X4_spot l g px 3 ) Fr.none ms_X4_spot ml_X4_57 (kRm_ok (by decide) (by decide)) rfl rfl (Nat.le_of_ble_eq_true rfl) dX4_nose_94 ?_
            refine k_iload_n hJ dX4_nose_97 3 rfl ?_
            refine k_iast (ws2 := modW g b (mE kf fj mj tl fr to va iw) (vUp (vUp (vUp (vUp m (4 + 10 * px + 3) 0) (4 + 10 * px + 2) n) (4 + 10 * px + 2) ((vUp m (4 + 10 * px + 3) 0) (4 + 10 * px + 2))) (4 + 10 * px + 3) (m (4 + 10 * px + 3))) th ai ct (fun i => nI ((if kf then k else jk) i)) ot tp sb sz nu mo) hJ 1 rfl (4 + 10 * px + 3) (by omega) (by decide) (mw_s (v := (m (4 + 10 * px + 3)))) dX4_nose_98 ?_
            refine k_iload hJ dX4_nose_99 5 rfl ?_
            refine k_bipush (v := nI 9) hJ dX4_nose_101 (by decide) ?_
            refine n_icmp_le (tgt := 115) hJ dX4_nose_103 (by decide) (by omega) (by omega) (fun c103 => ?_) (fun c103 => ?_)
            · refine k_iload hJ dX4_nose_115 5 rfl ?_
              have hF : vFst (fun n => vFinds (vUp (vUp m (4 + 10 * px + 3) 0) (4 + 10 * px + 2) n) px py) 10 = n := vFst_at hn (by rw [vFound_ne hnx] at c55; exact c55) (by omega)
              refine k_eqw (ws2 := modW g b (mE kf fj mj tl fr to va iw) m th ai ct (fun i => nI ((if kf then k else jk) i)) ot tp sb sz nu mo) (by rw [vUp_up, vUp_id, vUp_up, vUp_id]) ?_
              have hsp : sp_nose (m, k, kf, tp, tl, sb, sz, nu, ct) (nI px) (nI py) = (nI n, (m, k, kf, tp, tl, sb, sz, nu, ct)) := by simp only [sp_nose]; rw [if_pos c6, tN_nI (show px < 2 ^ 31 by omega), tN_nI (show py < 2 ^ 31 by omega), hF]; unfold sp_fst; rw [if_pos (by omega)]; rfl
              exact k_eqw (ws2 := modA g b (sp_nose (m, k, kf, tp, tl, sb, sz, nu, ct) (nI px) (nI py)).2 (fj, mj, fr, to, va, iw, jk, th, ai, ot, mo)) (by rw [hsp]; rfl) (hR _ _ _ (fj, mj, fr, to, va, iw, jk, th, ai, ot, mo) dX4_nose_117 (by rw [hsp]))
            · refine k_aload_n hJ dX4_nose_106 0 rfl ?_
              refine k_ldc hJ dX4_nose_107 cw_X4_129 ?_
              refine k_eqs (st2 := [.int (kFi 3), .ref (b 0)]) (by rw [kFi_c3]) ?_
              refine c_VI (As := [.int (kFi 3)]) (st := []) hJ (ct_X4_finds l g b (mE kf fj mj tl fr to va iw) (vUp (vUp (vUp (vUp m (4 + 10 * px + 3) 0) (4 + 10 * px + 2) n) (4 + 10 * px + 2) ((vUp m (4 + 10 * px + 3) 0) (4 + 10 * px + 2))) (4 + 10 * px + 3) (m (4 + 10 * px + 3))) th ai ct (fun i => nI ((if kf then k else jk) i)) ot tp sb sz nu mo 3 (by decide)) (Fr.all rfl) mv_X4_finds ml_X4_68 0 rfl rfl rfl (kRm_ok (by decide) (by decide)) rfl rfl (Nat.le_of_ble_eq_true rfl) dX4_nose_109 ?_
              refine k_goto (tgt := 117) hJ dX4_nose_112 (by decide) ?_
              exfalso; omega
          · refine n_iinc (b := 1) (lv1 := [(0, .ref (b 0)), (1, .int (nI px)), (2, .int (nI py)), (3, .int (nI (m (4 + 10 * px + 3)))), (4, .int (nI ((vUp m (4 + 10 * px + 3) 0) (4 + 10 * px + 2)))), (5, .int (nI (n + 1)))]) hJ dX4_nose_58 5 rfl (by decide) (by decide) [1, 2, 3, 4, 5, 0] rfl ?_
            refine k_aload_n hJ dX4_nose_61 0 rfl ?_
            refine gf_X4_7 (v := .ref (b 1)) hJ 0 rfl rfl dX4_nose_62 ?_
            refine k_iload_n hJ dX4_nose_65 1 rfl ?_
            refine k_iconst (v := nI 2) hJ dX4_nose_66 (by decide) ?_
            refine c_SI (As := [.int (nI px), .int (nI 2)]) (st := [.ref (b 1)]) hJ (ct_X4_spot l g px 2 ) Fr.none ms_X4_spot ml_X4_57 (kRm_ok (by decide) (by decide)) rfl rfl (Nat.le_of_ble_eq_true rfl) dX4_nose_67 ?_
            refine k_iload hJ dX4_nose_70 5 rfl ?_
            refine k_iast (ws2 := modW g b (mE kf fj mj tl fr to va iw) (vUp (vUp (vUp m (4 + 10 * px + 3) 0) (4 + 10 * px + 2) n) (4 + 10 * px + 2) (n + 1)) th ai ct (fun i => nI ((if kf then k else jk) i)) ot tp sb sz nu mo) hJ 1 rfl (4 + 10 * px + 2) (by omega) (by decide) (mw_s (v := (n + 1))) dX4_nose_72 ?_
            refine k_goto (tgt := 42) hJ dX4_nose_73 (by decide) ?_
            refine k_eqw (ws2 := modW g b (mE kf fj mj tl fr to va iw) (vUp (vUp m (4 + 10 * px + 3) 0) (4 + 10 * px + 2) (n + 1)) th ai ct (fun i => nI ((if kf then k else jk) i)) ot tp sb sz nu mo) (by rw [vUp_up]) ?_
            exact ih (n + 1) (by omega) (by omega) (lt_s hn (by rw [vFound_ne hnx] at c55; exact c55))
    exact L42 11 0 (by omega) (by omega) lt_0
  · refine k_aload_n hJ dX4_nose_9 0 rfl ?_
    refine k_ldc hJ dX4_nose_10 cw_X4_44 ?_
    refine k_eqs (st2 := [.int (kFi 0), .ref (b 0)]) (by rw [kFi_c0]) ?_
    refine c_VI (As := [.int (kFi 0)]) (st := []) hJ (ct_X4_finds l g b (mE kf fj mj tl fr to va iw) m th ai ct (fun i => nI ((if kf then k else jk) i)) ot tp sb sz nu mo 0 (by decide)) (Fr.all rfl) mv_X4_finds ml_X4_68 0 rfl rfl rfl (kRm_ok (by decide) (by decide)) rfl rfl (Nat.le_of_ble_eq_true rfl) dX4_nose_12 ?_
    have hsp : sp_nose (m, k, kf, tp, tl, sb, sz, nu, ct) x y = (kFi 0, (m, k, kf, tp, tl, sb, sz, nu, kTe ct 0)) := by simp [-Nat.add_zero, sp_nose, sp_tell, nI_l0, nI_l1, nI_l2, nI_l3, nI_l4, tN_l0, tN_l1, tN_l2, tN_l3, tN_l4, c6] <;> (repeat' (first | intro _ | refine ⟨?_, ?_⟩ | split)) <;> first | rfl | omega | (exfalso; omega)
    exact k_eqw (ws2 := modA g b (sp_nose (m, k, kf, tp, tl, sb, sz, nu, ct) x y).2 (fj, mj, fr, to, va, iw, jk, th, ai, ot, mo)) (by rw [hsp]; rfl) (hR _ _ _ (fj, mj, fr, to, va, iw, jk, th, ai, ot, mo) dX4_nose_15 (by rw [hsp]))
theorem vFm_down {C : Nat → Prop} {i n : Nat} {F : Option Nat} (h : ¬ C i) (hF : vFm C (i + 1) n F) : vFm C i n F := by
  cases F with
  | none =>
    intro x h1 h2
    rcases Nat.lt_or_ge i x with g | g
    · exact hF x g h2
    · rw [show x = i by omega]; exact h
  | some q =>
    obtain ⟨j1, j2, j3, j4⟩ := hF
    refine ⟨by omega, j2, j3, fun x h1 h2 => ?_⟩
    rcases Nat.lt_or_ge i x with g | g
    · exact j4 x g h2
    · rw [show x = i by omega]; exact h
set_option maxHeartbeats 4000000 in
set_option maxRecDepth 100000 in
theorem mp_from (l : Launch) (g : KG) (b : Nat → Nat) (j : MJ) (s : KS) (hs : kOk s) (x : Int32) (y : Int32) : CT l yX4_from cX4_from 6 (some .int) (rmK 3) g [.ref (b 0), .int x, .int y] (modA g b s j) (S := MJ) oI (fun r _ => r = (sp_from s x y).1) (fun j => modA g b (sp_from s x y).2 j) := by
  obtain ⟨m, k, kf, tp, tl, sb, sz, nu, ct⟩ := s
  obtain ⟨fj, mj, fr, to, va, iw, jk, th, ai, ot, mo⟩ := j
  obtain ⟨hm, hk, htl, htp, hsh⟩ := hs
  have h0 : m 0 ≤ 8 := hm.1
  have h1 : m 1 ≤ 9999 := hm.2.1
  have h2 : m 2 ≤ 4 := hm.2.2.1
  have h3 : m 3 ≤ 99 := hm.2.2.2.2.1
  have hB : 9999 < 2 ^ 30 := by decide
  refine k_bodyI (by decide) (Nat.le_of_ble_eq_true rfl) (fun _ _ _ => rfl) (fun J hJ hR => ?_)
  show J (modW g b (mE kf fj mj tl fr to va iw) m th ai ct (fun i => nI ((if kf then k else jk) i)) ot tp sb sz nu mo) [(0, .ref (b 0)), (1, .int x), (2, .int y)] 0 []
  refine k_aload_n hJ dX4_from_0 0 rfl ?_
  refine k_iload_n hJ dX4_from_1 1 rfl ?_
  refine c_VI (As := [.int x]) (st := []) hJ (ct_X4_isPerson l g b (mE kf fj mj tl fr to va iw) m x (by omega)) (frS rfl) mv_X4_isPerson ml_X4_51 0 rfl rfl rfl (kRm_ok (by decide) (by decide)) rfl rfl (Nat.le_of_ble_eq_true rfl) dX4_from_2 ?_
  refine b_if_eq (tgt := 15) hJ dX4_from_5 (by decide) (fun c5 => ?_) (fun c5 => ?_)
  · refine k_aload_n hJ dX4_from_15 0 rfl ?_
    refine k_ldc hJ dX4_from_16 cw_X4_44 ?_
    refine k_eqs (st2 := [.int (kFi 0), .ref (b 0)]) (by rw [kFi_c0]) ?_
    refine c_VI (As := [.int (kFi 0)]) (st := []) hJ (ct_X4_finds l g b (mE kf fj mj tl fr to va iw) m th ai ct (fun i => nI ((if kf then k else jk) i)) ot tp sb sz nu mo 0 (by decide)) (Fr.all rfl) mv_X4_finds ml_X4_68 0 rfl rfl rfl (kRm_ok (by decide) (by decide)) rfl rfl (Nat.le_of_ble_eq_true rfl) dX4_from_18 ?_
    have hsp : sp_from (m, k, kf, tp, tl, sb, sz, nu, ct) x y = (kFi 0, (m, k, kf, tp, tl, sb, sz, nu, kTe ct 0)) := by simp [-Nat.add_zero, sp_from, sp_tell, nI_l0, nI_l1, nI_l2, nI_l3, nI_l4, tN_l0, tN_l1, tN_l2, tN_l3, tN_l4, c5] <;> (repeat' (first | intro _ | refine ⟨?_, ?_⟩ | split)) <;> first | rfl | omega | (exfalso; omega)
    exact k_eqw (ws2 := modA g b (sp_from (m, k, kf, tp, tl, sb, sz, nu, ct) x y).2 (fj, mj, fr, to, va, iw, jk, th, ai, ot, mo)) (by rw [hsp]; rfl) (hR _ _ _ (fj, mj, fr, to, va, iw, jk, th, ai, ot, mo) dX4_from_21 (by rw [hsp]))
  · obtain ⟨px, hpx, rfl⟩ := vIn_of (by omega) c5
    refine k_iload_n hJ dX4_from_8 2 rfl ?_
    refine c_SI (As := [.int y]) (st := []) hJ (ct_X4_isDeed l g y ) Fr.none ms_X4_isDeed ml_X4_96 (kRm_ok (by decide) (by decide)) rfl rfl (Nat.le_of_ble_eq_true rfl) dX4_from_9 ?_
    refine b_if_ne (tgt := 22) hJ dX4_from_12 (by decide) (fun c12 => ?_) (fun c12 => ?_)
    · obtain ⟨py, hpy, rfl⟩ := vIn_of (by omega) c12
      refine k_aload_n hJ dX4_from_22 0 rfl ?_
      refine k_iload_n hJ dX4_from_23 1 rfl ?_
      refine k_iload_n hJ dX4_from_24 2 rfl ?_
      refine c_VI (As := [.int (nI px), .int (nI py)]) (st := []) hJ (ct_X4_greatestBy l g b (mE kf fj mj tl fr to va iw) m px py hB hm (by omega) (by omega)) (frS rfl) mv_X4_greatestBy ml_X4_146 0 rfl rfl rfl (kRm_ok (by decide) (by decide)) rfl rfl (Nat.le_of_ble_eq_true rfl) dX4_from_25 ?_
      refine k_istore_n (lv1 := [(0, .ref (b 0)), (1, .int (nI px)), (2, .int (nI py)), (3, .int (nI (vMax m px py (m 0))))]) hJ dX4_from_28 (by decide) [1, 2, 3, 0] rfl ?_
      refine k_iconst (v := (-1)) hJ dX4_from_29 (by decide) ?_
      refine k_istore (lv1 := [(0, .ref (b 0)), (1, .int (nI px)), (2, .int (nI py)), (3, .int (nI (vMax m px py (m 0)))), (4, .int (-1))]) hJ dX4_from_30 (by decide) [1, 2, 3, 4, 0] rfl ?_
      refine k_aload_n hJ dX4_from_32 0 rfl ?_
      refine gf_X4_7 (v := .ref (b 1)) hJ 0 rfl rfl dX4_from_33 ?_
      refine k_iconst (v := nI 0) hJ dX4_from_36 (by decide) ?_
      refine k_iald hJ 1 rfl 0 (by omega) (by decide) rfl dX4_from_37 ?_
      refine k_iconst (v := nI 1) hJ dX4_from_38 (by decide) ?_
      refine n_isub hJ dX4_from_39 (by omega) ?_
      refine k_istore (lv1 := [(0, .ref (b 0)), (1, .int (nI px)), (2, .int (nI py)), (3, .int (nI (vMax m px py (m 0)))), (4, .int (-1)), (5, .int (nI ((m 0) - 1)))]) hJ dX4_from_40 (by decide) [1, 2, 3, 4, 5, 0] rfl ?_
      have hMx : vMax m px py (m 0) ≤ 99 := vMax_le hm (by omega) h0
      have L42 : ∀ (i : Nat) (F : Option Nat), i ≤ m 0 → vFm (fun x => x ≠ px ∧ vPl m x = vPl m px ∧ vSc m x py = vMax m px py (m 0)) i (m 0) F → J (modW g b (mE kf fj mj tl fr to va iw) m th ai ct (fun i => nI ((if kf then k else jk) i)) ot tp sb sz nu mo) [(0, .ref (b 0)), (1, .int (nI px)), (2, .int (nI py)), (3, .int (nI (vMax m px py (m 0)))), (4, .int (kOpt F)), (5, .int (kDn i))] 42 [] := by
        intro i
        induction i with
        | zero =>
          intro F hi hF
          have hFs := vFm_strong hF
          show J (modW g b (mE kf fj mj tl fr to va iw) m th ai ct (fun i => nI ((if kf then k else jk) i)) ot tp sb sz nu mo) [(0, .ref (b 0)), (1, .int (nI px)), (2, .int (nI py)), (3, .int (nI (vMax m px py (m 0)))), (4, .int (kOpt F)), (5, .int (-1))] 42 []
          refine k_iload hJ dX4_from_42 5 rfl ?_
          refine k_if_lt (tgt := 97) hJ dX4_from_44 (by decide) (fun c44 => ?_) (fun c44 => ?_)
          · rcases hO : F with _ | bb
            · show J (modW g b (mE kf fj mj tl fr to va iw) m th ai ct (fun i => nI ((if kf then k else jk) i)) ot tp sb sz nu mo) [(0, .ref (b 0)), (1, .int (nI px)), (2, .int (nI py)), (3, .int (nI (vMax m px py (m 0)))), (4, .int (-1)), (5, .int (-1))] 97 []
              refine k_iload hJ dX4_from_97 4 rfl ?_
              refine k_if_lt (tgt := 119) hJ dX4_from_99 (by decide) (fun c99 => ?_) (fun c99 => ?_)
              · refine k_aload_n hJ dX4_from_119 0 rfl ?_
                refine k_ldc hJ dX4_from_120 cw_X4_129 ?_
                refine k_eqs (st2 := [.int (kFi 3), .ref (b 0)]) (by rw [kFi_c3]) ?_
                refine c_VI (As := [.int (kFi 3)]) (st := []) hJ (ct_X4_finds l g b (mE kf fj mj tl fr to va iw) m th ai ct (fun i => nI ((if kf then k else jk) i)) ot tp sb sz nu mo 3 (by decide)) (Fr.all rfl) mv_X4_finds ml_X4_68 0 rfl rfl rfl (kRm_ok (by decide) (by decide)) rfl rfl (Nat.le_of_ble_eq_true rfl) dX4_from_122 ?_
                rw [hO] at hFs
                have hsp : sp_from (m, k, kf, tp, tl, sb, sz, nu, ct) (nI px) (nI py) = (kFi 3, (m, k, kf, tp, tl, sb, sz, nu, kTe ct 3)) := by simp only [sp_from]; rw [if_pos ⟨c5, c12⟩, tN_nI (show px < 2 ^ 31 by omega), tN_nI (show py < 2 ^ 31 by omega), ← hFs]; simp only []; rfl
                exact k_eqw (ws2 := modA g b (sp_from (m, k, kf, tp, tl, sb, sz, nu, ct) (nI px) (nI py)).2 (fj, mj, fr, to, va, iw, jk, th, ai, ot, mo)) (by rw [hsp]; rfl) (hR _ _ _ (fj, mj, fr, to, va, iw, jk, th, ai, ot, mo) dX4_from_125 (by rw [hsp]))
              · refine k_iload_n hJ dX4_from_102 3 rfl ?_
                refine k_iconst (v := nI 4) hJ dX4_from_103 (by decide) ?_
                refine n_idiv hJ dX4_from_104 (by omega) (by omega) (by omega) ?_
                refine k_aload_n hJ dX4_from_105 0 rfl ?_
                refine k_iload_n hJ dX4_from_106 1 rfl ?_
                refine k_iload_n hJ dX4_from_107 2 rfl ?_
                refine c_VI (As := [.int (nI px), .int (nI py)]) (st := [.int (nI ((vMax m px py (m 0)) / 4))]) hJ (ct_X4_leftOf l g b (mE kf fj mj tl fr to va iw) m px py hB hm (by omega) (by omega)) (frS rfl) mv_X4_leftOf ml_X4_143 0 rfl rfl rfl (kRm_ok (by decide) (by decide)) rfl rfl (Nat.le_of_ble_eq_true rfl) dX4_from_108 ?_
                refine n_icmp_le (tgt := 119) hJ dX4_from_111 (by decide) (by omega) (by have := vFade_le (d := py) (v := m (4 + 10 * px + (4 + py))); have hs : m (4 + 10 * px + (4 + py)) ≤ 99 := hm.sc (show px < 8 by omega) (by omega); omega) (fun c111 => ?_) (fun c111 => ?_)
                · refine k_aload_n hJ dX4_from_119 0 rfl ?_
                  refine k_ldc hJ dX4_from_120 cw_X4_129 ?_
                  refine k_eqs (st2 := [.int (kFi 3), .ref (b 0)]) (by rw [kFi_c3]) ?_
                  refine c_VI (As := [.int (kFi 3)]) (st := []) hJ (ct_X4_finds l g b (mE kf fj mj tl fr to va iw) m th ai ct (fun i => nI ((if kf then k else jk) i)) ot tp sb sz nu mo 3 (by decide)) (Fr.all rfl) mv_X4_finds ml_X4_68 0 rfl rfl rfl (kRm_ok (by decide) (by decide)) rfl rfl (Nat.le_of_ble_eq_true rfl) dX4_from_122 ?_
                  exact absurd (by decide) c99
                · refine k_iload hJ dX4_from_114 4 rfl ?_
                  refine k_goto (tgt := 125) hJ dX4_from_116 (by decide) ?_
                  exact absurd (by decide) c99
            · show J (modW g b (mE kf fj mj tl fr to va iw) m th ai ct (fun i => nI ((if kf then k else jk) i)) ot tp sb sz nu mo) [(0, .ref (b 0)), (1, .int (nI px)), (2, .int (nI py)), (3, .int (nI (vMax m px py (m 0)))), (4, .int (nI bb)), (5, .int (-1))] 97 []
              have hbb : bb < m 0 := by have q := hF; rw [hO] at q; exact q.2.1
              refine k_iload hJ dX4_from_97 4 rfl ?_
              refine n_if_lt (tgt := 119) hJ dX4_from_99 (by decide) (by omega) (fun c99 => ?_) (fun c99 => ?_)
              · exact absurd c99 (by omega)
              · refine k_iload_n hJ dX4_from_102 3 rfl ?_
                refine k_iconst (v := nI 4) hJ dX4_from_103 (by decide) ?_
                refine n_idiv hJ dX4_from_104 (by omega) (by omega) (by omega) ?_
                refine k_aload_n hJ dX4_from_105 0 rfl ?_
                refine k_iload_n hJ dX4_from_106 1 rfl ?_
                refine k_iload_n hJ dX4_from_107 2 rfl ?_
                refine c_VI (As := [.int (nI px), .int (nI py)]) (st := [.int (nI ((vMax m px py (m 0)) / 4))]) hJ (ct_X4_leftOf l g b (mE kf fj mj tl fr to va iw) m px py hB hm (by omega) (by omega)) (frS rfl) mv_X4_leftOf ml_X4_143 0 rfl rfl rfl (kRm_ok (by decide) (by decide)) rfl rfl (Nat.le_of_ble_eq_true rfl) dX4_from_108 ?_
                refine n_icmp_le (tgt := 119) hJ dX4_from_111 (by decide) (by omega) (by have := vFade_le (d := py) (v := m (4 + 10 * px + (4 + py))); have hs : m (4 + 10 * px + (4 + py)) ≤ 99 := hm.sc (show px < 8 by omega) (by omega); omega) (fun c111 => ?_) (fun c111 => ?_)
                · refine k_aload_n hJ dX4_from_119 0 rfl ?_
                  refine k_ldc hJ dX4_from_120 cw_X4_129 ?_
                  refine k_eqs (st2 := [.int (kFi 3), .ref (b 0)]) (by rw [kFi_c3]) ?_
                  refine c_VI (As := [.int (kFi 3)]) (st := []) hJ (ct_X4_finds l g b (mE kf fj mj tl fr to va iw) m th ai ct (fun i => nI ((if kf then k else jk) i)) ot tp sb sz nu mo 3 (by decide)) (Fr.all rfl) mv_X4_finds ml_X4_68 0 rfl rfl rfl (kRm_ok (by decide) (by decide)) rfl rfl (Nat.le_of_ble_eq_true rfl) dX4_from_122 ?_
                  rw [hO] at hFs
                  have hxs := vMax_strong m px py (m 0)
                  rw [← hFs] at hxs
                  simp only at hxs
                  have hsp : sp_from (m, k, kf, tp, tl, sb, sz, nu, ct) (nI px) (nI py) = (kFi 3, (m, k, kf, tp, tl, sb, sz, nu, kTe ct 3)) := by simp only [sp_from]; rw [if_pos ⟨c5, c12⟩, tN_nI (show px < 2 ^ 31 by omega), tN_nI (show py < 2 ^ 31 by omega), ← hFs]; simp only []; rw [if_neg (show ¬ vFade py (vSc m px py) < vSc m bb py / 4 by rw [← hxs]; exact Nat.not_lt.mpr c111)]; rfl
                  exact k_eqw (ws2 := modA g b (sp_from (m, k, kf, tp, tl, sb, sz, nu, ct) (nI px) (nI py)).2 (fj, mj, fr, to, va, iw, jk, th, ai, ot, mo)) (by rw [hsp]; rfl) (hR _ _ _ (fj, mj, fr, to, va, iw, jk, th, ai, ot, mo) dX4_from_125 (by rw [hsp]))
                · refine k_iload hJ dX4_from_114 4 rfl ?_
                  refine k_goto (tgt := 125) hJ dX4_from_116 (by decide) ?_
                  rw [hO] at hFs
                  have hxs := vMax_strong m px py (m 0)
                  rw [← hFs] at hxs
                  simp only at hxs
                  have hsp : sp_from (m, k, kf, tp, tl, sb, sz, nu, ct) (nI px) (nI py) = (nI bb, (m, k, kf, tp, tl, sb, sz, nu, ct)) := by simp only [sp_from]; rw [if_pos ⟨c5, c12⟩, tN_nI (show px < 2 ^ 31 by omega), tN_nI (show py < 2 ^ 31 by omega), ← hFs]; simp only []; rw [if_pos (show vFade py (vSc m px py) < vSc m bb py / 4 by rw [← hxs]; exact c111)]; rfl
                  exact k_eqw (ws2 := modA g b (sp_from (m, k, kf, tp, tl, sb, sz, nu, ct) (nI px) (nI py)).2 (fj, mj, fr, to, va, iw, jk, th, ai, ot, mo)) (by rw [hsp]; rfl) (hR _ _ _ (fj, mj, fr, to, va, iw, jk, th, ai, ot, mo) dX4_from_125 (by rw [hsp]))
          · exact absurd (by decide) c44
        | succ i ih =>
          intro F hi hF
          show J (modW g b (mE kf fj mj tl fr to va iw) m th ai ct (fun i => nI ((if kf then k else jk) i)) ot tp sb sz nu mo) [(0, .ref (b 0)), (1, .int (nI px)), (2, .int (nI py)), (3, .int (nI (vMax m px py (m 0)))), (4, .int (kOpt F)), (5, .int (nI i))] 42 []
          refine k_iload hJ dX4_from_42 5 rfl ?_
          refine n_if_lt (tgt := 97) hJ dX4_from_44 (by decide) (by omega) (fun c44 => ?_) (fun c44 => ?_)
          · exact absurd c44 (by omega)
          · refine k_iload hJ dX4_from_47 5 rfl ?_
            refine k_iload_n hJ dX4_from_49 1 rfl ?_
            refine n_icmp_eq (tgt := 87) hJ dX4_from_50 (by decide) (by omega) (by omega) (fun c50 => ?_) (fun c50 => ?_)
            · refine k_iload hJ dX4_from_87 4 rfl ?_
              refine k_istore (lv1 := [(0, .ref (b 0)), (1, .int (nI px)), (2, .int (nI py)), (3, .int (nI (vMax m px py (m 0)))), (4, .int (kOpt F)), (5, .int (nI i))]) hJ dX4_from_89 (by decide) [1, 2, 3, 4, 0, 5] rfl ?_
              refine k_iinc (v := kDn i) (lv1 := [(0, .ref (b 0)), (1, .int (nI px)), (2, .int (nI py)), (3, .int (nI (vMax m px py (m 0)))), (4, .int (kOpt F)), (5, .int (kDn i))]) hJ dX4_from_91 5 rfl (kDn_dec i) (by decide) [1, 2, 3, 4, 5, 0] rfl ?_
              refine k_goto (tgt := 42) hJ dX4_from_94 (by decide) ?_
              exact ih F (by omega) (vFm_down (fun q => q.1 c50) hF)
            · refine k_aload_n hJ dX4_from_53 0 rfl ?_
              refine k_iload hJ dX4_from_54 5 rfl ?_
              refine k_iconst (v := nI 1) hJ dX4_from_56 (by decide) ?_
              refine c_VI (As := [.int (nI i), .int (nI 1)]) (st := []) hJ (ct_X4_its l g b (mE kf fj mj tl fr to va iw) m i 1 (by omega) (by omega)) (frS rfl) mv_X4_its ml_X4_82 0 rfl rfl rfl (kRm_ok (by decide) (by decide)) rfl rfl (Nat.le_of_ble_eq_true rfl) dX4_from_57 ?_
              have hb57 : m (4 + 10 * i + 1) ≤ 47 := hm.pl (show i < 8 by omega)
              refine k_aload_n hJ dX4_from_60 0 rfl ?_
              refine k_iload_n hJ dX4_from_61 1 rfl ?_
              refine k_iconst (v := nI 1) hJ dX4_from_62 (by decide) ?_
              refine c_VI (As := [.int (nI px), .int (nI 1)]) (st := [.int (nI (m (4 + 10 * i + 1)))]) hJ (ct_X4_its l g b (mE kf fj mj tl fr to va iw) m px 1 (by omega) (by omega)) (frS rfl) mv_X4_its ml_X4_82 0 rfl rfl rfl (kRm_ok (by decide) (by decide)) rfl rfl (Nat.le_of_ble_eq_true rfl) dX4_from_63 ?_
              have hb63 : m (4 + 10 * px + 1) ≤ 47 := hm.pl (show px < 8 by omega)
              refine n_icmp_ne (tgt := 87) hJ dX4_from_66 (by decide) (by omega) (by omega) (fun c66 => ?_) (fun c66 => ?_)
              · refine k_iload hJ dX4_from_87 4 rfl ?_
                refine k_istore (lv1 := [(0, .ref (b 0)), (1, .int (nI px)), (2, .int (nI py)), (3, .int (nI (vMax m px py (m 0)))), (4, .int (kOpt F)), (5, .int (nI i))]) hJ dX4_from_89 (by decide) [1, 2, 3, 4, 0, 5] rfl ?_
                refine k_iinc (v := kDn i) (lv1 := [(0, .ref (b 0)), (1, .int (nI px)), (2, .int (nI py)), (3, .int (nI (vMax m px py (m 0)))), (4, .int (kOpt F)), (5, .int (kDn i))]) hJ dX4_from_91 5 rfl (kDn_dec i) (by decide) [1, 2, 3, 4, 5, 0] rfl ?_
                refine k_goto (tgt := 42) hJ dX4_from_94 (by decide) ?_
                exact ih F (by omega) (vFm_down (fun q => c66 q.2.1) hF)
              · refine k_aload_n hJ dX4_from_69 0 rfl ?_
                refine k_iload hJ dX4_from_70 5 rfl ?_
                refine k_iconst (v := nI 4) hJ dX4_from_72 (by decide) ?_
                refine k_iload_n hJ dX4_from_73 2 rfl ?_
                refine n_iadd hJ dX4_from_74 ?_
                refine c_VI (As := [.int (nI i), .int (nI (4 + py))]) (st := []) hJ (ct_X4_its l g b (mE kf fj mj tl fr to va iw) m i (4 + py) (by omega) (by omega)) (frS rfl) mv_X4_its ml_X4_82 0 rfl rfl rfl (kRm_ok (by decide) (by decide)) rfl rfl (Nat.le_of_ble_eq_true rfl) dX4_from_75 ?_
                have hb75 : m (4 + 10 * i + (4 + py)) ≤ 99 := hm.sc (show i < 8 by omega) (show py < 6 by omega)
                refine k_iload_n hJ dX4_from_78 3 rfl ?_
                refine n_icmp_ne (tgt := 87) hJ dX4_from_79 (by decide) (by omega) (by omega) (fun c79 => ?_) (fun c79 => ?_)
                · refine k_iload hJ dX4_from_87 4 rfl ?_
                  refine k_istore (lv1 := [(0, .ref (b 0)), (1, .int (nI px)), (2, .int (nI py)), (3, .int (nI (vMax m px py (m 0)))), (4, .int (kOpt F)), (5, .int (nI i))]) hJ dX4_from_89 (by decide) [1, 2, 3, 4, 0, 5] rfl ?_
                  refine k_iinc (v := kDn i) (lv1 := [(0, .ref (b 0)), (1, .int (nI px)), (2, .int (nI py)), (3, .int (nI (vMax m px py (m 0)))), (4, .int (kOpt F)), (5, .int (kDn i))]) hJ dX4_from_91 5 rfl (kDn_dec i) (by decide) [1, 2, 3, 4, 5, 0] rfl ?_
                  refine k_goto (tgt := 42) hJ dX4_from_94 (by decide) ?_
                  exact ih F (by omega) (vFm_down (fun q => c79 q.2.2) hF)
                · refine k_iload hJ dX4_from_82 5 rfl ?_
                  refine k_goto (tgt := 89) hJ dX4_from_84 (by decide) ?_
                  refine k_istore (lv1 := [(0, .ref (b 0)), (1, .int (nI px)), (2, .int (nI py)), (3, .int (nI (vMax m px py (m 0)))), (4, .int (nI i)), (5, .int (nI i))]) hJ dX4_from_89 (by decide) [1, 2, 3, 4, 0, 5] rfl ?_
                  refine k_iinc (v := kDn i) (lv1 := [(0, .ref (b 0)), (1, .int (nI px)), (2, .int (nI py)), (3, .int (nI (vMax m px py (m 0)))), (4, .int (nI i)), (5, .int (kDn i))]) hJ dX4_from_91 5 rfl (kDn_dec i) (by decide) [1, 2, 3, 4, 5, 0] rfl ?_
                  refine k_goto (tgt := 42) hJ dX4_from_94 (by decide) ?_
                  exact ih (some i) (by omega) ⟨Nat.le_refl i, by omega, ⟨c50, c66, c79⟩, fun x h1 h2 => absurd h2 (by omega)⟩
      refine k_eql (lv1 := [(0, .ref (b 0)), (1, .int (nI px)), (2, .int (nI py)), (3, .int (nI (vMax m px py (m 0)))), (4, .int (kOpt none)), (5, .int (kDn (m 0)))]) (by obtain ⟨q, hq⟩ : ∃ q, m 0 = q + 1 := ⟨m 0 - 1, by omega⟩; rw [hq]; rfl) ?_
      exact L42 (m 0) none (Nat.le_refl _) (fun x h1 h2 => absurd h2 (by omega))
    · refine k_aload_n hJ dX4_from_15 0 rfl ?_
      refine k_ldc hJ dX4_from_16 cw_X4_44 ?_
      refine k_eqs (st2 := [.int (kFi 0), .ref (b 0)]) (by rw [kFi_c0]) ?_
      refine c_VI (As := [.int (kFi 0)]) (st := []) hJ (ct_X4_finds l g b (mE kf fj mj tl fr to va iw) m th ai ct (fun i => nI ((if kf then k else jk) i)) ot tp sb sz nu mo 0 (by decide)) (Fr.all rfl) mv_X4_finds ml_X4_68 0 rfl rfl rfl (kRm_ok (by decide) (by decide)) rfl rfl (Nat.le_of_ble_eq_true rfl) dX4_from_18 ?_
      have hsp : sp_from (m, k, kf, tp, tl, sb, sz, nu, ct) (nI px) y = (kFi 0, (m, k, kf, tp, tl, sb, sz, nu, kTe ct 0)) := by simp [-Nat.add_zero, sp_from, sp_tell, nI_l0, nI_l1, nI_l2, nI_l3, nI_l4, tN_l0, tN_l1, tN_l2, tN_l3, tN_l4, c5, c12, nI_clamp (show px < 2 ^ 31 by omega)] <;> (repeat' (first | intro _ | refine ⟨?_, ?_⟩ | split)) <;> first | rfl | omega | (exfalso; omega)
      exact k_eqw (ws2 := modA g b (sp_from (m, k, kf, tp, tl, sb, sz, nu, ct) (nI px) y).2 (fj, mj, fr, to, va, iw, jk, th, ai, ot, mo)) (by rw [hsp]; rfl) (hR _ _ _ (fj, mj, fr, to, va, iw, jk, th, ai, ot, mo) dX4_from_21 (by rw [hsp]))
