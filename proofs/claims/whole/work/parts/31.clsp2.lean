theorem vMt_a {m : Nat → Nat} {p o d : Nat} (hn : p ≠ o) (hp : p < 8) (ho : o < 8) (hd : d < 6) (h : m (4 + 10 * p + (4 + d)) < m (4 + 10 * o + (4 + d))) (h2 : m (4 + 10 * p + (4 + d)) < max (m (4 + 10 * p + (4 + d))) (m (4 + 10 * o + (4 + d))) / 2) : vUp (vMt m p o d) (4 + 10 * p + (4 + d)) (max (m (4 + 10 * p + (4 + d))) (m (4 + 10 * o + (4 + d))) / 2) = vMt m p o (d + 1) := by
  rw [vMt_lo hn hp ho hd, show max (m (4 + 10 * p + (4 + d))) (max (m (4 + 10 * p + (4 + d))) (m (4 + 10 * o + (4 + d))) / 2) = max (m (4 + 10 * p + (4 + d))) (m (4 + 10 * o + (4 + d))) / 2 by omega, vUp_same (k := 4 + 10 * o + (4 + d)) (by rw [vUp_ne (by omega), (vMt_at hp ho hd).2]; omega)]
theorem vMt_b {m : Nat → Nat} {p o d : Nat} (hn : p ≠ o) (hp : p < 8) (ho : o < 8) (hd : d < 6) (h : ¬ m (4 + 10 * p + (4 + d)) < m (4 + 10 * o + (4 + d))) (h2 : m (4 + 10 * o + (4 + d)) < max (m (4 + 10 * p + (4 + d))) (m (4 + 10 * o + (4 + d))) / 2) : vUp (vMt m p o d) (4 + 10 * o + (4 + d)) (max (m (4 + 10 * p + (4 + d))) (m (4 + 10 * o + (4 + d))) / 2) = vMt m p o (d + 1) := by
  rw [vMt_lo hn hp ho hd, vUp_same (m := vMt m p o d) (k := 4 + 10 * p + (4 + d)) (by rw [(vMt_at hp ho hd).1]; omega), show max (m (4 + 10 * o + (4 + d))) (max (m (4 + 10 * p + (4 + d))) (m (4 + 10 * o + (4 + d))) / 2) = max (m (4 + 10 * p + (4 + d))) (m (4 + 10 * o + (4 + d))) / 2 by omega]
theorem vMt_c {m : Nat → Nat} {p o d : Nat} (hn : p ≠ o) (hp : p < 8) (ho : o < 8) (hd : d < 6) (h : ¬ m (4 + 10 * p + (4 + d)) < max (m (4 + 10 * p + (4 + d))) (m (4 + 10 * o + (4 + d))) / 2) (h2 : ¬ m (4 + 10 * o + (4 + d)) < max (m (4 + 10 * p + (4 + d))) (m (4 + 10 * o + (4 + d))) / 2) : vMt m p o d = vMt m p o (d + 1) := by
  rw [vMt_lo hn hp ho hd, vUp_same (m := vMt m p o d) (k := 4 + 10 * p + (4 + d)) (by rw [(vMt_at hp ho hd).1]; omega), vUp_same (k := 4 + 10 * o + (4 + d)) (by rw [(vMt_at hp ho hd).2]; omega)]
theorem bv_ush (x : BitVec 32) (s : Nat) (hs : s ≤ 24) : (x >>> s) &&& 255#32 = (x.sshiftRight s) &&& 255#32 := by
  apply BitVec.eq_of_getLsbD_eq
  intro j hj
  rw [BitVec.getLsbD_and, BitVec.getLsbD_and]
  by_cases h : j < 8
  · rw [BitVec.getLsbD_ushiftRight, BitVec.getLsbD_sshiftRight]
    simp [show ¬ 32 ≤ j by omega, show s + j < 32 by omega]
  · have e : (255#32).getLsbD j = false := by
      have q : ∀ j, j < 32 → ¬ j < 8 → (255#32).getLsbD j = false := by decide
      exact q j hj h
    rw [e, Bool.and_false, Bool.and_false]
theorem feed_b (x : Int32) (i : Nat) (hi : i < 4) : (x.toUInt32 >>> ((nI (8 * i)).toUInt32 &&& Int32.toUInt32 31)).toInt32 &&& nI 255 = nI (tN ((x >>> (nI (8 * i) &&& 31)) &&& 255)) := by
  rw [← (and255 _).1]
  have e : ∀ i, i < 4 → ((nI (8 * i)).toUInt32 &&& Int32.toUInt32 31) = UInt32.ofNat (8 * i) ∧ (nI (8 * i) &&& 31) = Int32.ofNat (8 * i) := by decide
  rw [(e i hi).1, (e i hi).2]
  apply Int32.toBitVec_inj.mp
  have h := bv_ush x.toBitVec (8 * i) (by omega)
  have e2 : ∀ i, i < 4 → (x.toUInt32 >>> UInt32.ofNat (8 * i)).toInt32.toBitVec = x.toBitVec >>> (8 * i) ∧ (x >>> Int32.ofNat (8 * i)).toBitVec = x.toBitVec.sshiftRight (8 * i) := by
    intro i hi
    rcases (show i = 0 ∨ i = 1 ∨ i = 2 ∨ i = 3 by omega) with rfl | rfl | rfl | rfl <;> exact ⟨rfl, rfl⟩
  rw [Int32.toBitVec_and, Int32.toBitVec_and, (e2 i hi).1, (e2 i hi).2]
  exact h
set_option maxHeartbeats 4000000 in
set_option maxRecDepth 100000 in
theorem cp_meet (l : Launch) (g : KG) (a aK aL aT : Nat → Nat) (j : CJ) (s : KS) (hs : kOk s) (x : Int32) (y : Int32) : CT l yX3_meet cX3_meet 8 (some .int) (rmK 2) g [.ref (a 0), .int x, .int y] (clsA g a aK aL aT s j) (S := CJ) oI (fun r _ => r = (sp_meet s x y).1) (fun j => clsA g a aK aL aT (sp_meet s x y).2 j) := by
  obtain ⟨m, k, kf, tp, tl, sb, sz, nu, ct⟩ := s
  obtain ⟨jk, lk, lm, t, lt, nx, tk, sr, va⟩ := j
  obtain ⟨hm, hk, htl, htp, hsh⟩ := hs
  have h0 : m 0 ≤ 8 := hm.1
  have h1 : m 1 ≤ 9999 := hm.2.1
  have h2 : m 2 ≤ 4 := hm.2.2.1
  have h3 : m 3 ≤ 99 := hm.2.2.2.2.1
  have hB : 9999 < 2 ^ 30 := by decide
  refine k_bodyI (by decide) (Nat.le_of_ble_eq_true rfl) (fun _ _ _ => rfl) (fun J hJ hR => ?_)
  show J (clsW g a aK aL aT kf ct (if kf then k else jk) lk m lm t lt tp tl nx tk sr va sb sz nu) [(0, .ref (a 0)), (1, .int x), (2, .int y)] 0 []
  refine k_aload_n hJ dX3_meet_0 0 rfl ?_
  refine gf_X3_10 (v := .ref (aL 0)) hJ 0 rfl rfl dX3_meet_1 ?_
  refine k_iload_n hJ dX3_meet_4 1 rfl ?_
  refine k_iload_n hJ dX3_meet_5 2 rfl ?_
  refine c_VI (As := [.int x, .int y]) (st := []) hJ (ct_X0_hasTwo l g aL m lm x y ) cls_frL mv_X0_hasTwo ml_X3_118 15 rfl rfl rfl (kRm_ok (by decide) (by decide)) rfl rfl (Nat.le_of_ble_eq_true rfl) dX3_meet_6 ?_
  refine b_if_ne (tgt := 19) hJ dX3_meet_9 (by decide) (fun c9 => ?_) (fun c9 => ?_)
  · obtain ⟨px, py, hpx, hpy, hnx, rfl, rfl⟩ := vTwo_of (by omega) c9
    refine k_iconst (v := nI 0) hJ dX3_meet_19 (by decide) ?_
    refine k_istore_n (lv1 := [(0, .ref (a 0)), (1, .int (nI px)), (2, .int (nI py)), (3, .int (nI 0))]) hJ dX3_meet_20 (by decide) [1, 2, 3, 0] rfl ?_
    refine k_iconst (v := nI 0) hJ dX3_meet_21 (by decide) ?_
    refine k_istore (lv1 := [(0, .ref (a 0)), (1, .int (nI px)), (2, .int (nI py)), (3, .int (nI 0)), (4, .int (nI 0))]) hJ dX3_meet_22 (by decide) [1, 2, 3, 4, 0] rfl ?_
    have L24 : ∀ (fu : Nat) (d : Nat) (S : Nat), (d ≤ 6) → (7 ≤ d + fu) → (S = vSum (fun d => (if m (4 + 10 * px + (4 + d)) < max (m (4 + 10 * px + (4 + d))) (m (4 + 10 * py + (4 + d))) / 2 then 1 else 0) + (if m (4 + 10 * py + (4 + d)) < max (m (4 + 10 * px + (4 + d))) (m (4 + 10 * py + (4 + d))) / 2 then 1 else 0)) d) → J (clsW g a aK aL aT kf ct (if kf then k else jk) lk (vMt m px py d) lm t lt tp tl nx tk sr va sb sz nu) [(0, .ref (a 0)), (1, .int (nI px)), (2, .int (nI py)), (3, .int (nI S)), (4, .int (nI d))] 24 [] := by
      intro fu
      induction fu with
      | zero => intro d S hd hf hS; exfalso; omega
      | succ fu ih =>
        intro d S hd hf hS
        refine k_iload hJ dX3_meet_24 4 rfl ?_
        refine k_bipush (v := nI 6) hJ dX3_meet_26 (by decide) ?_
        refine n_icmp_ge (tgt := 102) hJ dX3_meet_28 (by decide) (by omega) (by omega) (fun c28 => ?_) (fun c28 => ?_)
        · refine k_iload_n hJ dX3_meet_102 3 rfl ?_
          have hd6 : d = 6 := by omega
          subst hd6
          have hsp : sp_meet (m, k, kf, tp, tl, sb, sz, nu, ct) (nI px) (nI py) = (nI S, (vMt m px py 6, k, kf, tp, tl, sb, sz, nu, ct)) := by simp [-Nat.add_zero, sp_meet, c9, nI_clamp (show px < 2 ^ 31 by omega), nI_clamp (show py < 2 ^ 31 by omega), hS]; rfl
          exact k_eqw (ws2 := clsA g a aK aL aT (sp_meet (m, k, kf, tp, tl, sb, sz, nu, ct) (nI px) (nI py)).2 (jk, lk, lm, t, lt, nx, tk, sr, va)) (by rw [hsp]; rfl) (hR _ _ _ (jk, lk, lm, t, lt, nx, tk, sr, va) dX3_meet_103 (by rw [hsp]))
        · obtain ⟨ha, hb⟩ := vMt_at (m := m) (show px < 8 by omega) (show py < 8 by omega) (show d < 6 by omega)
          have hsa : m (4 + 10 * px + (4 + d)) ≤ 99 := hm.sc (show px < 8 by omega) (by omega)
          have hsb : m (4 + 10 * py + (4 + d)) ≤ 99 := hm.sc (show py < 8 by omega) (by omega)
          refine k_aload_n hJ dX3_meet_31 0 rfl ?_
          refine gf_X3_10 (v := .ref (aL 0)) hJ 0 rfl rfl dX3_meet_32 ?_
          refine gf_X3_103 (v := .ref (aL 5)) hJ 15 rfl rfl dX3_meet_35 ?_
          refine k_iload hJ dX3_meet_38 4 rfl ?_
          refine k_aald (f := fun i => some (aL (7 + i))) (b := aL (7 + d)) hJ 20 rfl d (by omega) (by decide) rfl dX3_meet_40 ?_
          refine k_astore (lv1 := [(0, .ref (a 0)), (1, .int (nI px)), (2, .int (nI py)), (3, .int (nI S)), (4, .int (nI d)), (5, .ref (aL (7 + d)))]) hJ dX3_meet_41 (by decide) [1, 2, 3, 4, 5, 0] rfl ?_
          refine k_aload hJ dX3_meet_43 5 rfl ?_
          refine k_iload_n hJ dX3_meet_45 1 rfl ?_
          refine k_iald hJ (22 + d) (cls_rowL (by omega)) px (by omega) (by decide) rfl dX3_meet_46 ?_
          refine k_eqs (st2 := [.int (nI (m (4 + 10 * px + (4 + d))))]) (by rw [ha]) ?_
          refine k_aload hJ dX3_meet_47 5 rfl ?_
          refine k_iload_n hJ dX3_meet_49 2 rfl ?_
          refine k_iald hJ (22 + d) (cls_rowL (by omega)) py (by omega) (by decide) rfl dX3_meet_50 ?_
          refine k_eqs (st2 := [.int (nI (m (4 + 10 * py + (4 + d)))), .int (nI (m (4 + 10 * px + (4 + d))))]) (by rw [hb]) ?_
          refine k_mmax hJ ml_X3_121 (Nat.le_of_ble_eq_true rfl) dX3_meet_51 ?_
          refine k_eqs (st2 := [.int (nI (max (m (4 + 10 * px + (4 + d))) (m (4 + 10 * py + (4 + d)))))]) (by rw [nI_max (by omega) (by omega)]) ?_
          refine k_iconst (v := nI 2) hJ dX3_meet_54 (by decide) ?_
          refine n_idiv hJ dX3_meet_55 (by omega) (by omega) (by omega) ?_
          refine k_istore (lv1 := [(0, .ref (a 0)), (1, .int (nI px)), (2, .int (nI py)), (3, .int (nI S)), (4, .int (nI d)), (5, .ref (aL (7 + d))), (6, .int (nI ((max (m (4 + 10 * px + (4 + d))) (m (4 + 10 * py + (4 + d)))) / 2)))]) hJ dX3_meet_56 (by decide) [1, 2, 3, 4, 5, 6, 0] rfl ?_
          refine k_aload hJ dX3_meet_58 5 rfl ?_
          refine k_iload_n hJ dX3_meet_60 1 rfl ?_
          refine k_iald hJ (22 + d) (cls_rowL (by omega)) px (by omega) (by decide) rfl dX3_meet_61 ?_
          refine k_eqs (st2 := [.int (nI (m (4 + 10 * px + (4 + d))))]) (by rw [ha]) ?_
          refine k_aload hJ dX3_meet_62 5 rfl ?_
          refine k_iload_n hJ dX3_meet_64 2 rfl ?_
          refine k_iald hJ (22 + d) (cls_rowL (by omega)) py (by omega) (by decide) rfl dX3_meet_65 ?_
          refine k_eqs (st2 := [.int (nI (m (4 + 10 * py + (4 + d)))), .int (nI (m (4 + 10 * px + (4 + d))))]) (by rw [hb]) ?_
          refine n_icmp_ge (tgt := 73) hJ dX3_meet_66 (by decide) (by omega) (by omega) (fun c66 => ?_) (fun c66 => ?_)
          · refine k_iload_n hJ dX3_meet_73 2 rfl ?_
            refine k_istore (lv1 := [(0, .ref (a 0)), (1, .int (nI px)), (2, .int (nI py)), (3, .int (nI S)), (4, .int (nI d)), (5, .ref (aL (7 + d))), (6, .int (nI ((max (m (4 + 10 * px + (4 + d))) (m (4 + 10 * py + (4 + d)))) / 2))), (7, .int (nI py))]) hJ dX3_meet_74 (by decide) [1, 2, 3, 4, 5, 6, 7, 0] rfl ?_
            refine k_aload hJ dX3_meet_76 5 rfl ?_
            refine k_iload hJ dX3_meet_78 7 rfl ?_
            refine k_iald hJ (22 + d) (cls_rowL (by omega)) py (by omega) (by decide) rfl dX3_meet_80 ?_
            refine k_eqs (st2 := [.int (nI (m (4 + 10 * py + (4 + d))))]) (by rw [hb]) ?_
            refine k_iload hJ dX3_meet_81 6 rfl ?_
            refine n_icmp_ge (tgt := 96) hJ dX3_meet_83 (by decide) (by omega) (by omega) (fun c83 => ?_) (fun c83 => ?_)
            · refine n_iinc (b := 1) (lv1 := [(0, .ref (a 0)), (1, .int (nI px)), (2, .int (nI py)), (3, .int (nI S)), (4, .int (nI (d + 1))), (5, .ref (aL (7 + d))), (6, .int (nI ((max (m (4 + 10 * px + (4 + d))) (m (4 + 10 * py + (4 + d)))) / 2))), (7, .int (nI py))]) hJ dX3_meet_96 4 rfl (by decide) (by decide) [1, 2, 3, 4, 0, 5, 6, 7] rfl ?_
              refine k_goto (tgt := 24) hJ dX3_meet_99 (by decide) ?_
              refine k_eqw (ws2 := clsW g a aK aL aT kf ct (if kf then k else jk) lk (vMt m px py (d + 1)) lm t lt tp tl nx tk sr va sb sz nu) (by rw [vMt_c hnx (show px < 8 by omega) (show py < 8 by omega) (show d < 6 by omega) (by omega) (by omega)]) ?_
              refine k_lv (lv1 := [(0, .ref (a 0)), (1, .int (nI px)), (2, .int (nI py)), (3, .int (nI S)), (4, .int (nI (d + 1)))]) hJ [0, 1, 2, 3, 4] rfl ?_
              exact ih (d + 1) _ (by omega) (by omega) (by simp only [vSum]; (repeat' split) <;> omega)
            · refine k_aload hJ dX3_meet_86 5 rfl ?_
              refine k_iload hJ dX3_meet_88 7 rfl ?_
              refine k_iload hJ dX3_meet_90 6 rfl ?_
              refine k_iast (ws2 := clsW g a aK aL aT kf ct (if kf then k else jk) lk (vUp (vMt m px py d) (4 + 10 * py + (4 + d)) ((max (m (4 + 10 * px + (4 + d))) (m (4 + 10 * py + (4 + d)))) / 2)) lm t lt tp tl nx tk sr va sb sz nu) hJ (22 + d) (cls_rowL (by omega)) py (by omega) (by decide) (cls_setRL (by omega) (hs_row g aL (vMt m px py d) lm py ((max (m (4 + 10 * px + (4 + d))) (m (4 + 10 * py + (4 + d)))) / 2) (by omega))) dX3_meet_92 ?_
              refine n_iinc (b := 1) (lv1 := [(0, .ref (a 0)), (1, .int (nI px)), (2, .int (nI py)), (3, .int (nI (S + 1))), (4, .int (nI d)), (5, .ref (aL (7 + d))), (6, .int (nI ((max (m (4 + 10 * px + (4 + d))) (m (4 + 10 * py + (4 + d)))) / 2))), (7, .int (nI py))]) hJ dX3_meet_93 3 rfl (by decide) (by decide) [1, 2, 3, 0, 4, 5, 6, 7] rfl ?_
              refine n_iinc (b := 1) (lv1 := [(0, .ref (a 0)), (1, .int (nI px)), (2, .int (nI py)), (3, .int (nI (S + 1))), (4, .int (nI (d + 1))), (5, .ref (aL (7 + d))), (6, .int (nI ((max (m (4 + 10 * px + (4 + d))) (m (4 + 10 * py + (4 + d)))) / 2))), (7, .int (nI py))]) hJ dX3_meet_96 4 rfl (by decide) (by decide) [1, 2, 3, 4, 0, 5, 6, 7] rfl ?_
              refine k_goto (tgt := 24) hJ dX3_meet_99 (by decide) ?_
              refine k_eqw (ws2 := clsW g a aK aL aT kf ct (if kf then k else jk) lk (vMt m px py (d + 1)) lm t lt tp tl nx tk sr va sb sz nu) (by rw [vMt_b hnx (by omega) (by omega) (by omega) (by omega) (by omega)]) ?_
              refine k_lv (lv1 := [(0, .ref (a 0)), (1, .int (nI px)), (2, .int (nI py)), (3, .int (nI (S + 1))), (4, .int (nI (d + 1)))]) hJ [0, 1, 2, 3, 4] rfl ?_
              exact ih (d + 1) _ (by omega) (by omega) (by simp only [vSum]; (repeat' split) <;> omega)
          · refine k_iload_n hJ dX3_meet_69 1 rfl ?_
            refine k_goto (tgt := 74) hJ dX3_meet_70 (by decide) ?_
            refine k_istore (lv1 := [(0, .ref (a 0)), (1, .int (nI px)), (2, .int (nI py)), (3, .int (nI S)), (4, .int (nI d)), (5, .ref (aL (7 + d))), (6, .int (nI ((max (m (4 + 10 * px + (4 + d))) (m (4 + 10 * py + (4 + d)))) / 2))), (7, .int (nI px))]) hJ dX3_meet_74 (by decide) [1, 2, 3, 4, 5, 6, 7, 0] rfl ?_
            refine k_aload hJ dX3_meet_76 5 rfl ?_
            refine k_iload hJ dX3_meet_78 7 rfl ?_
            refine k_iald hJ (22 + d) (cls_rowL (by omega)) px (by omega) (by decide) rfl dX3_meet_80 ?_
            refine k_eqs (st2 := [.int (nI (m (4 + 10 * px + (4 + d))))]) (by rw [ha]) ?_
            refine k_iload hJ dX3_meet_81 6 rfl ?_
            refine n_icmp_ge (tgt := 96) hJ dX3_meet_83 (by decide) (by omega) (by omega) (fun c83 => ?_) (fun c83 => ?_)
            · refine n_iinc (b := 1) (lv1 := [(0, .ref (a 0)), (1, .int (nI px)), (2, .int (nI py)), (3, .int (nI S)), (4, .int (nI (d + 1))), (5, .ref (aL (7 + d))), (6, .int (nI ((max (m (4 + 10 * px + (4 + d))) (m (4 + 10 * py + (4 + d)))) / 2))), (7, .int (nI px))]) hJ dX3_meet_96 4 rfl (by decide) (by decide) [1, 2, 3, 4, 0, 5, 6, 7] rfl ?_
              refine k_goto (tgt := 24) hJ dX3_meet_99 (by decide) ?_
              refine k_eqw (ws2 := clsW g a aK aL aT kf ct (if kf then k else jk) lk (vMt m px py (d + 1)) lm t lt tp tl nx tk sr va sb sz nu) (by rw [vMt_c hnx (show px < 8 by omega) (show py < 8 by omega) (show d < 6 by omega) (by omega) (by omega)]) ?_
              refine k_lv (lv1 := [(0, .ref (a 0)), (1, .int (nI px)), (2, .int (nI py)), (3, .int (nI S)), (4, .int (nI (d + 1)))]) hJ [0, 1, 2, 3, 4] rfl ?_
              exact ih (d + 1) _ (by omega) (by omega) (by simp only [vSum]; (repeat' split) <;> omega)
            · refine k_aload hJ dX3_meet_86 5 rfl ?_
              refine k_iload hJ dX3_meet_88 7 rfl ?_
              refine k_iload hJ dX3_meet_90 6 rfl ?_
              refine k_iast (ws2 := clsW g a aK aL aT kf ct (if kf then k else jk) lk (vUp (vMt m px py d) (4 + 10 * px + (4 + d)) ((max (m (4 + 10 * px + (4 + d))) (m (4 + 10 * py + (4 + d)))) / 2)) lm t lt tp tl nx tk sr va sb sz nu) hJ (22 + d) (cls_rowL (by omega)) px (by omega) (by decide) (cls_setRL (by omega) (hs_row g aL (vMt m px py d) lm px ((max (m (4 + 10 * px + (4 + d))) (m (4 + 10 * py + (4 + d)))) / 2) (by omega))) dX3_meet_92 ?_
              refine n_iinc (b := 1) (lv1 := [(0, .ref (a 0)), (1, .int (nI px)), (2, .int (nI py)), (3, .int (nI (S + 1))), (4, .int (nI d)), (5, .ref (aL (7 + d))), (6, .int (nI ((max (m (4 + 10 * px + (4 + d))) (m (4 + 10 * py + (4 + d)))) / 2))), (7, .int (nI px))]) hJ dX3_meet_93 3 rfl (by decide) (by decide) [1, 2, 3, 0, 4, 5, 6, 7] rfl ?_
              refine n_iinc (b := 1) (lv1 := [(0, .ref (a 0)), (1, .int (nI px)), (2, .int (nI py)), (3, .int (nI (S + 1))), (4, .int (nI (d + 1))), (5, .ref (aL (7 + d))), (6, .int (nI ((max (m (4 + 10 * px + (4 + d))) (m (4 + 10 * py + (4 + d)))) / 2))), (7, .int (nI px))]) hJ dX3_meet_96 4 rfl (by decide) (by decide) [1, 2, 3, 4, 0, 5, 6, 7] rfl ?_
              refine k_goto (tgt := 24) hJ dX3_meet_99 (by decide) ?_
              refine k_eqw (ws2 := clsW g a aK aL aT kf ct (if kf then k else jk) lk (vMt m px py (d + 1)) lm t lt tp tl nx tk sr va sb sz nu) (by rw [vMt_a hnx (by omega) (by omega) (by omega) (by omega) (by omega)]) ?_
              refine k_lv (lv1 := [(0, .ref (a 0)), (1, .int (nI px)), (2, .int (nI py)), (3, .int (nI (S + 1))), (4, .int (nI (d + 1)))]) hJ [0, 1, 2, 3, 4] rfl ?_
              exact ih (d + 1) _ (by omega) (by omega) (by simp only [vSum]; (repeat' split) <;> omega)
    exact k_eqw (ws2 := clsW g a aK aL aT kf ct (if kf then k else jk) lk (vMt m px py 0) lm t lt tp tl nx tk sr va sb sz nu) (by rw [vMt_0]) (L24 7 0 0 (by omega) (by omega) rfl)
  · refine k_aload_n hJ dX3_meet_12 0 rfl ?_
    refine k_ldc hJ dX3_meet_13 cw_X3_55 ?_
    refine k_eqs (st2 := [.int (kFi 0), .ref (a 0)]) (by rw [kFi_c0]) ?_
    refine c_VI (As := [.int (kFi 0)]) (st := []) hJ (ct_X3_tell l g a aK aL aT kf ct 0 (by decide)) cls_frX mv_X3_tell ml_X3_56 0 rfl rfl rfl (kRm_ok (by decide) (by decide)) rfl rfl (Nat.le_of_ble_eq_true rfl) dX3_meet_15 ?_
    have hsp : sp_meet (m, k, kf, tp, tl, sb, sz, nu, ct) x y = (kFi 0, (m, k, kf, tp, tl, sb, sz, nu, kTe ct 0)) := by simp [-Nat.add_zero, sp_meet, sp_tell, nI_l0, nI_l1, nI_l2, nI_l3, nI_l4, tN_l0, tN_l1, tN_l2, tN_l3, tN_l4, c9] <;> (repeat' (first | intro _ | refine ⟨?_, ?_⟩ | split)) <;> first | rfl | omega | (exfalso; omega)
    exact k_eqw (ws2 := clsA g a aK aL aT (sp_meet (m, k, kf, tp, tl, sb, sz, nu, ct) x y).2 (jk, lk, lm, t, lt, nx, tk, sr, va)) (by rw [hsp]; rfl) (hR _ _ _ (jk, lk, lm, t, lt, nx, tk, sr, va) dX3_meet_18 (by rw [hsp]))
set_option maxHeartbeats 4000000 in
set_option maxRecDepth 100000 in
theorem cp_feed (l : Launch) (g : KG) (a aK aL aT : Nat → Nat) (j : CJ) (s : KS) (hs : kOk s) (x : Int32) (y : Int32) : CT l yX3_feed cX3_feed 4 (some .int) (rmK 2) g [.ref (a 0), .int x, .int y] (clsA g a aK aL aT s j) (S := CJ) oI (fun r _ => r = (sp_feed s x y).1) (fun j => clsA g a aK aL aT (sp_feed s x y).2 j) := by
  obtain ⟨m, k, kf, tp, tl, sb, sz, nu, ct⟩ := s
  obtain ⟨jk, lk, lm, t, lt, nx, tk, sr, va⟩ := j
  obtain ⟨hm, hk, htl, htp, hsh⟩ := hs
  have h0 : m 0 ≤ 8 := hm.1
  have h1 : m 1 ≤ 9999 := hm.2.1
  have h2 : m 2 ≤ 4 := hm.2.2.1
  have h3 : m 3 ≤ 99 := hm.2.2.2.2.1
  have hB : 9999 < 2 ^ 30 := by decide
  refine k_bodyI (by decide) (Nat.le_of_ble_eq_true rfl) (fun _ _ _ => rfl) (fun J hJ hR => ?_)
  show J (clsW g a aK aL aT kf ct (if kf then k else jk) lk m lm t lt tp tl nx tk sr va sb sz nu) [(0, .ref (a 0)), (1, .int x), (2, .int y)] 0 []
  refine k_iload_n hJ dX3_feed_0 2 rfl ?_
  refine k_iconst (v := nI 1) hJ dX3_feed_1 (by decide) ?_
  refine k_iconst (v := nI 4) hJ dX3_feed_2 (by decide) ?_
  refine c_SI (As := [.int y, .int (nI 1), .int (nI 4)]) (st := []) hJ (ct_X3_within l g y 1 4) Fr.none ms_X3_within ml_X3_44 (kRm_ok (by decide) (by decide)) rfl rfl (Nat.le_of_ble_eq_true rfl) dX3_feed_3 ?_
  refine b_if_ne (tgt := 16) hJ dX3_feed_6 (by decide) (fun c6 => ?_) (fun c6 => ?_)
  · obtain ⟨py, hly, hpy, rfl⟩ := vBt_of (by omega) (by first | omega | (have := Nat.pow_le_pow_right (show 0 < 2 by decide) h0; omega)) c6
    refine k_aload_n hJ dX3_feed_16 0 rfl ?_
    refine gf_X3_25 (v := .ref (a 2)) hJ 0 rfl rfl dX3_feed_17 ?_
    refine gf_X3_183 (v := .int (nI tl)) hJ 41 rfl rfl dX3_feed_20 ?_
    refine k_iload_n hJ dX3_feed_23 2 rfl ?_
    refine n_iadd hJ dX3_feed_24 ?_
    refine k_bipush (v := nI 120) hJ dX3_feed_25 (by decide) ?_
    refine n_icmp_le (tgt := 37) hJ dX3_feed_27 (by decide) (by omega) (by omega) (fun c27 => ?_) (fun c27 => ?_)
    · refine k_iload_n hJ dX3_feed_37 2 rfl ?_
      refine k_iconst (v := nI 1) hJ dX3_feed_38 (by decide) ?_
      refine n_isub hJ dX3_feed_39 (by omega) ?_
      refine k_istore_n (lv1 := [(0, .ref (a 0)), (1, .int x), (2, .int (nI py)), (3, .int (nI (py - 1)))]) hJ dX3_feed_40 (by decide) [1, 2, 3, 0] rfl ?_
      have L41 : ∀ (i : Nat) (P : Nat → Nat), i ≤ py → (∀ j, P j = if tl ≤ j ∧ j < tl + (py - i) then tN ((x >>> (nI (8 * (py - 1 - (j - tl))) &&& 31)) &&& 255) else tp j) → J (clsW g a aK aL aT kf ct (if kf then k else jk) lk m lm t lt P (tl + (py - i)) nx tk sr va sb sz nu) [(0, .ref (a 0)), (1, .int x), (2, .int (nI py)), (3, .int (kDn i))] 41 [] := by
        intro i
        induction i with
        | zero =>
          intro P hi hP
          show J (clsW g a aK aL aT kf ct (if kf then k else jk) lk m lm t lt P (tl + py) nx tk sr va sb sz nu) [(0, .ref (a 0)), (1, .int x), (2, .int (nI py)), (3, .int (-1))] 41 []
          have hPe : P = vFeed tp tl x py := funext fun j => by rw [hP j]; unfold vFeed; rw [Nat.sub_zero]
          refine k_iload_n hJ dX3_feed_41 3 rfl ?_
          refine k_if_lt (tgt := 68) hJ dX3_feed_42 (by decide) (fun c42 => ?_) (fun c42 => ?_)
          · refine k_aload_n hJ dX3_feed_68 0 rfl ?_
            refine gf_X3_25 (v := .ref (a 2)) hJ 0 rfl rfl dX3_feed_69 ?_
            refine gf_X3_183 (v := .int (nI (tl + py))) hJ 41 rfl rfl dX3_feed_72 ?_
            subst hPe
            have hsp : sp_feed (m, k, kf, tp, tl, sb, sz, nu, ct) x (nI py) = (nI (tl + py), (m, k, kf, vFeed tp tl x py, tl + py, sb, sz, nu, ct)) := by simp [-Nat.add_zero, sp_feed, sp_tell, nI_l0, nI_l1, nI_l2, nI_l3, nI_l4, tN_l0, tN_l1, tN_l2, tN_l3, tN_l4, c6, c42, nI_clamp (show py < 2 ^ 31 by omega)] <;> (repeat' (first | intro _ | refine ⟨?_, ?_⟩ | split)) <;> first | rfl | omega | (exfalso; omega)
            exact k_eqw (ws2 := clsA g a aK aL aT (sp_feed (m, k, kf, tp, tl, sb, sz, nu, ct) x (nI py)).2 (jk, lk, lm, t, lt, nx, tk, sr, va)) (by rw [hsp]; rfl) (hR _ _ _ (jk, lk, lm, t, lt, nx, tk, sr, va) dX3_feed_75 (by rw [hsp]))
          · exact absurd (by decide) c42
        | succ i ih =>
          intro P hi hP
          show J (clsW g a aK aL aT kf ct (if kf then k else jk) lk m lm t lt P (tl + (py - (i + 1))) nx tk sr va sb sz nu) [(0, .ref (a 0)), (1, .int x), (2, .int (nI py)), (3, .int (nI i))] 41 []
          refine k_iload_n hJ dX3_feed_41 3 rfl ?_
          refine n_if_lt (tgt := 68) hJ dX3_feed_42 (by decide) (by omega) (fun c42 => ?_) (fun c42 => ?_)
          · exact absurd c42 (by omega)
          · refine k_aload_n hJ dX3_feed_45 0 rfl ?_
            refine gf_X3_25 (v := .ref (a 2)) hJ 0 rfl rfl dX3_feed_46 ?_
            refine k_iload_n hJ dX3_feed_49 1 rfl ?_
            refine k_bipush (v := nI 8) hJ dX3_feed_50 (by decide) ?_
            refine k_iload_n hJ dX3_feed_52 3 rfl ?_
            refine n_imul hJ dX3_feed_53 ?_
            refine k_iushr hJ dX3_feed_54 rfl ?_
            refine k_sipush (v := nI 255) hJ dX3_feed_55 (by decide) ?_
            refine k_iand hJ dX3_feed_58 ?_
            refine k_eqs (st2 := [.int (nI (tN ((x >>> (nI (8 * i) &&& 31)) &&& 255))), .ref (a 2)]) (by rw [feed_b x i (by omega)]) ?_
            refine c_VV (As := [.int (nI (tN ((x >>> (nI (8 * i) &&& 31)) &&& 255)))]) (st := []) hJ (ct_X2_append l g a P (tl + (py - (i + 1))) nx tk sr va (tN ((x >>> (nI (8 * i) &&& 31)) &&& 255)) (by omega)) cls_frt mv_X2_append ml_X3_186 41 rfl rfl rfl (kRm_ok (by decide) (by decide)) rfl rfl (Nat.le_of_ble_eq_true rfl) dX3_feed_59 ?_
            refine k_iinc (v := kDn i) (lv1 := [(0, .ref (a 0)), (1, .int x), (2, .int (nI py)), (3, .int (kDn i))]) hJ dX3_feed_62 3 rfl (kDn_dec i) (by decide) [1, 2, 3, 0] rfl ?_
            refine k_goto (tgt := 41) hJ dX3_feed_65 (by decide) ?_
            refine k_eqw (ws2 := clsW g a aK aL aT kf ct (if kf then k else jk) lk m lm t lt (vUp P (tl + (py - (i + 1))) (tN ((x >>> (nI (8 * i) &&& 31)) &&& 255))) (tl + (py - i)) nx tk sr va sb sz nu) (by rw [show tl + (py - (i + 1)) + 1 = tl + (py - i) by omega]) ?_
            refine ih _ (by omega) (fun j => ?_)
            by_cases q : j = tl + (py - (i + 1))
            · rw [vUp_eq q, if_pos (by omega), show py - 1 - (j - tl) = i by omega]
            · rw [vUp_ne q, hP j]; by_cases c : tl ≤ j ∧ j < tl + (py - (i + 1))
              · rw [if_pos c, if_pos (by omega)]
              · rw [if_neg c, if_neg (by omega)]
      refine k_eqw (ws2 := clsW g a aK aL aT kf ct (if kf then k else jk) lk m lm t lt tp (tl + (py - py)) nx tk sr va sb sz nu) (by rw [Nat.sub_self]; rfl) ?_
      refine k_eql (lv1 := [(0, .ref (a 0)), (1, .int x), (2, .int (nI py)), (3, .int (kDn py))]) (by obtain ⟨q, hq⟩ : ∃ q, py = q + 1 := ⟨py - 1, by omega⟩; rw [hq]; rfl) ?_
      exact L41 py tp (Nat.le_refl _) (fun j => by rw [if_neg (by omega)])
    · refine k_aload_n hJ dX3_feed_30 0 rfl ?_
      refine k_ldc hJ dX3_feed_31 cw_X3_70 ?_
      refine k_eqs (st2 := [.int (kFi 1), .ref (a 0)]) (by rw [kFi_c1]) ?_
      refine c_VI (As := [.int (kFi 1)]) (st := []) hJ (ct_X3_tell l g a aK aL aT kf ct 1 (by decide)) cls_frX mv_X3_tell ml_X3_56 0 rfl rfl rfl (kRm_ok (by decide) (by decide)) rfl rfl (Nat.le_of_ble_eq_true rfl) dX3_feed_33 ?_
      have hsp : sp_feed (m, k, kf, tp, tl, sb, sz, nu, ct) x (nI py) = (kFi 1, (m, k, kf, tp, tl, sb, sz, nu, kTe ct 1)) := by simp [-Nat.add_zero, sp_feed, sp_tell, nI_l0, nI_l1, nI_l2, nI_l3, nI_l4, tN_l0, tN_l1, tN_l2, tN_l3, tN_l4, c6, nI_clamp (show py < 2 ^ 31 by omega)] <;> (repeat' (first | intro _ | refine ⟨?_, ?_⟩ | split)) <;> first | rfl | omega | (exfalso; omega)
      exact k_eqw (ws2 := clsA g a aK aL aT (sp_feed (m, k, kf, tp, tl, sb, sz, nu, ct) x (nI py)).2 (jk, lk, lm, t, lt, nx, tk, sr, va)) (by rw [hsp]; rfl) (hR _ _ _ (jk, lk, lm, t, lt, nx, tk, sr, va) dX3_feed_36 (by rw [hsp]))
  · refine k_aload_n hJ dX3_feed_9 0 rfl ?_
    refine k_ldc hJ dX3_feed_10 cw_X3_55 ?_
    refine k_eqs (st2 := [.int (kFi 0), .ref (a 0)]) (by rw [kFi_c0]) ?_
    refine c_VI (As := [.int (kFi 0)]) (st := []) hJ (ct_X3_tell l g a aK aL aT kf ct 0 (by decide)) cls_frX mv_X3_tell ml_X3_56 0 rfl rfl rfl (kRm_ok (by decide) (by decide)) rfl rfl (Nat.le_of_ble_eq_true rfl) dX3_feed_12 ?_
    have hsp : sp_feed (m, k, kf, tp, tl, sb, sz, nu, ct) x y = (kFi 0, (m, k, kf, tp, tl, sb, sz, nu, kTe ct 0)) := by simp [-Nat.add_zero, sp_feed, sp_tell, nI_l0, nI_l1, nI_l2, nI_l3, nI_l4, tN_l0, tN_l1, tN_l2, tN_l3, tN_l4, c6] <;> (repeat' (first | intro _ | refine ⟨?_, ?_⟩ | split)) <;> first | rfl | omega | (exfalso; omega)
    exact k_eqw (ws2 := clsA g a aK aL aT (sp_feed (m, k, kf, tp, tl, sb, sz, nu, ct) x y).2 (jk, lk, lm, t, lt, nx, tk, sr, va)) (by rw [hsp]; rfl) (hR _ _ _ (jk, lk, lm, t, lt, nx, tk, sr, va) dX3_feed_15 (by rw [hsp]))
set_option maxHeartbeats 4000000 in
set_option maxRecDepth 100000 in
theorem cp_wipe (l : Launch) (g : KG) (a aK aL aT : Nat → Nat) (j : CJ) (s : KS) (hs : kOk s)  : CT l yX3_wipe cX3_wipe 2 (some .int) (rmK 0) g [.ref (a 0)] (clsA g a aK aL aT s j) (S := CJ) oI (fun r _ => r = (sp_wipe s ).1) (fun j => clsA g a aK aL aT (sp_wipe s ).2 j) := by
  obtain ⟨m, k, kf, tp, tl, sb, sz, nu, ct⟩ := s
  obtain ⟨jk, lk, lm, t, lt, nx, tk, sr, va⟩ := j
  obtain ⟨hm, hk, htl, htp, hsh⟩ := hs
  have h0 : m 0 ≤ 8 := hm.1
  have h1 : m 1 ≤ 9999 := hm.2.1
  have h2 : m 2 ≤ 4 := hm.2.2.1
  have h3 : m 3 ≤ 99 := hm.2.2.2.2.1
  have hB : 9999 < 2 ^ 30 := by decide
  refine k_bodyI (by decide) (Nat.le_of_ble_eq_true rfl) (fun _ _ _ => rfl) (fun J hJ hR => ?_)
  show J (clsW g a aK aL aT kf ct (if kf then k else jk) lk m lm t lt tp tl nx tk sr va sb sz nu) [(0, .ref (a 0))] 0 []
  refine k_aload_n hJ dX3_wipe_0 0 rfl ?_
  refine gf_X3_25 (v := .ref (a 2)) hJ 0 rfl rfl dX3_wipe_1 ?_
  refine gf_X3_183 (v := .int (nI tl)) hJ 41 rfl rfl dX3_wipe_4 ?_
  refine k_istore_n (lv1 := [(0, .ref (a 0)), (1, .int (nI tl))]) hJ dX3_wipe_7 (by decide) [1, 0] rfl ?_
  refine k_aload_n hJ dX3_wipe_8 0 rfl ?_
  refine gf_X3_25 (v := .ref (a 2)) hJ 0 rfl rfl dX3_wipe_9 ?_
  refine k_iconst (v := nI 0) hJ dX3_wipe_12 (by decide) ?_
  refine pf_X3_183 (ws2 := clsW g a aK aL aT kf ct (if kf then k else jk) lk m lm t lt tp 0 nx tk sr va sb sz nu) hJ 41 rfl rfl (Nat.le_of_ble_eq_true rfl) dX3_wipe_13 ?_
  refine k_iload_n hJ dX3_wipe_16 1 rfl ?_
  have hsp : sp_wipe (m, k, kf, tp, tl, sb, sz, nu, ct)  = (nI tl, (m, k, kf, tp, 0, sb, sz, nu, ct)) := by simp [-Nat.add_zero, sp_wipe, sp_tell, nI_l0, nI_l1, nI_l2, nI_l3, nI_l4, tN_l0, tN_l1, tN_l2, tN_l3, tN_l4] <;> (repeat' (first | intro _ | refine ⟨?_, ?_⟩ | split)) <;> first | rfl | omega | (exfalso; omega)
  exact k_eqw (ws2 := clsA g a aK aL aT (sp_wipe (m, k, kf, tp, tl, sb, sz, nu, ct) ).2 (jk, lk, lm, t, lt, nx, tk, sr, va)) (by rw [hsp]; rfl) (hR _ _ _ (jk, lk, lm, t, lt, nx, tk, sr, va) dX3_wipe_17 (by rw [hsp]))
set_option maxHeartbeats 4000000 in
set_option maxRecDepth 100000 in
theorem cp_image (l : Launch) (g : KG) (a aK aL aT : Nat → Nat) (j : CJ) (s : KS) (hs : kOk s)  : CT l yX3_image cX3_image 1 (some .int) (rmK 2) g [.ref (a 0)] (clsA g a aK aL aT s j) (S := CJ) oI (fun r _ => r = (sp_image s ).1) (fun j => clsA g a aK aL aT (sp_image s ).2 j) := by
  obtain ⟨m, k, kf, tp, tl, sb, sz, nu, ct⟩ := s
  obtain ⟨jk, lk, lm, t, lt, nx, tk, sr, va⟩ := j
  obtain ⟨hm, hk, htl, htp, hsh⟩ := hs
  have h0 : m 0 ≤ 8 := hm.1
  have h1 : m 1 ≤ 9999 := hm.2.1
  have h2 : m 2 ≤ 4 := hm.2.2.1
  have h3 : m 3 ≤ 99 := hm.2.2.2.2.1
  have hB : 9999 < 2 ^ 30 := by decide
  refine k_bodyI (by decide) (Nat.le_of_ble_eq_true rfl) (fun _ _ _ => rfl) (fun J hJ hR => ?_)
  show J (clsW g a aK aL aT kf ct (if kf then k else jk) lk m lm t lt tp tl nx tk sr va sb sz nu) [(0, .ref (a 0))] 0 []
  refine k_aload_n hJ dX3_image_0 0 rfl ?_
  refine gf_X3_16 (v := .ref (aK 0)) hJ 0 rfl rfl dX3_image_1 ?_
  refine k_aload_n hJ dX3_image_4 0 rfl ?_
  refine gf_X3_10 (v := .ref (aL 0)) hJ 0 rfl rfl dX3_image_5 ?_
  refine c_VV (As := [.ref (aL 0)]) (st := []) hJ (ct_X0_become l g aK aL (if kf then k else jk) m lk lm) cls_frKL mv_X0_become ml_X3_154 2 rfl rfl rfl (kRm_ok (by decide) (by decide)) rfl rfl (Nat.le_of_ble_eq_true rfl) dX3_image_8 ?_
  refine k_aload_n hJ dX3_image_11 0 rfl ?_
  refine k_iconst (v := nI 1) hJ dX3_image_12 (by decide) ?_
  refine pf_X3_40 (ws2 := clsW g a aK aL aT true ct m lk m lm t lt tp tl nx tk sr va sb sz nu) hJ 0 rfl rfl (Nat.le_of_ble_eq_true rfl) rfl rfl dX3_image_13 ?_
  refine k_iconst (v := nI 1) hJ dX3_image_16 (by decide) ?_
  have hsp : sp_image (m, k, kf, tp, tl, sb, sz, nu, ct)  = (nI 1, (m, m, true, tp, tl, sb, sz, nu, ct)) := by rfl
  exact k_eqw (ws2 := clsA g a aK aL aT (sp_image (m, k, kf, tp, tl, sb, sz, nu, ct) ).2 (jk, lk, lm, t, lt, nx, tk, sr, va)) (by rw [hsp]; rfl) (hR _ _ _ (jk, lk, lm, t, lt, nx, tk, sr, va) dX3_image_17 (by rw [hsp]))
set_option maxHeartbeats 4000000 in
set_option maxRecDepth 100000 in
theorem cp_undo (l : Launch) (g : KG) (a aK aL aT : Nat → Nat) (j : CJ) (s : KS) (hs : kOk s)  : CT l yX3_undo cX3_undo 1 (some .int) (rmK 2) g [.ref (a 0)] (clsA g a aK aL aT s j) (S := CJ) oI (fun r _ => r = (sp_undo s ).1) (fun j => clsA g a aK aL aT (sp_undo s ).2 j) := by
  obtain ⟨m, k, kf, tp, tl, sb, sz, nu, ct⟩ := s
  obtain ⟨jk, lk, lm, t, lt, nx, tk, sr, va⟩ := j
  obtain ⟨hm, hk, htl, htp, hsh⟩ := hs
  have h0 : m 0 ≤ 8 := hm.1
  have h1 : m 1 ≤ 9999 := hm.2.1
  have h2 : m 2 ≤ 4 := hm.2.2.1
  have h3 : m 3 ≤ 99 := hm.2.2.2.2.1
  have hB : 9999 < 2 ^ 30 := by decide
  refine k_bodyI (by decide) (Nat.le_of_ble_eq_true rfl) (fun _ _ _ => rfl) (fun J hJ hR => ?_)
  show J (clsW g a aK aL aT kf ct (if kf then k else jk) lk m lm t lt tp tl nx tk sr va sb sz nu) [(0, .ref (a 0))] 0 []
  refine k_aload_n hJ dX3_undo_0 0 rfl ?_
  refine gf_X3_40 (v := .int (kb kf)) hJ 0 rfl rfl dX3_undo_1 ?_
  refine b_if_ne (tgt := 14) hJ dX3_undo_4 (by decide) (fun c4 => ?_) (fun c4 => ?_)
  · subst c4
    show J (clsW g a aK aL aT true ct k lk m lm t lt tp tl nx tk sr va sb sz nu) [(0, .ref (a 0))] 14 []
    refine k_aload_n hJ dX3_undo_14 0 rfl ?_
    refine gf_X3_10 (v := .ref (aL 0)) hJ 0 rfl rfl dX3_undo_15 ?_
    refine k_aload_n hJ dX3_undo_18 0 rfl ?_
    refine gf_X3_16 (v := .ref (aK 0)) hJ 0 rfl rfl dX3_undo_19 ?_
    refine c_VV (As := [.ref (aK 0)]) (st := []) hJ (CT_swap (ct_X0_become l g aL aK m k lm lk)) cls_frKL mv_X0_become ml_X3_154 15 rfl rfl rfl (kRm_ok (by decide) (by decide)) rfl rfl (Nat.le_of_ble_eq_true rfl) dX3_undo_22 ?_
    refine k_aload_n hJ dX3_undo_25 0 rfl ?_
    refine gf_X3_10 (v := .ref (aL 0)) hJ 0 rfl rfl dX3_undo_26 ?_
    refine gf_X3_67 (v := .int (nI (k 0))) hJ 15 rfl rfl dX3_undo_29 ?_
    have hsp : sp_undo (m, k, true, tp, tl, sb, sz, nu, ct)  = (nI (k 0), (k, k, true, tp, tl, sb, sz, nu, ct)) := by rfl
    exact k_eqw (ws2 := clsA g a aK aL aT (sp_undo (m, k, true, tp, tl, sb, sz, nu, ct) ).2 (jk, lk, lm, t, lt, nx, tk, sr, va)) (by rw [hsp]; rfl) (hR _ _ _ (jk, lk, lm, t, lt, nx, tk, sr, va) dX3_undo_32 (by rw [hsp]))
  · refine k_aload_n hJ dX3_undo_7 0 rfl ?_
    refine k_ldc hJ dX3_undo_8 cw_X3_130 ?_
    refine k_eqs (st2 := [.int (kFi 3), .ref (a 0)]) (by rw [kFi_c3]) ?_
    refine c_VI (As := [.int (kFi 3)]) (st := []) hJ (ct_X3_tell l g a aK aL aT kf ct 3 (by decide)) cls_frX mv_X3_tell ml_X3_56 0 rfl rfl rfl (kRm_ok (by decide) (by decide)) rfl rfl (Nat.le_of_ble_eq_true rfl) dX3_undo_10 ?_
    have hsp : sp_undo (m, k, kf, tp, tl, sb, sz, nu, ct)  = (kFi 3, (m, k, kf, tp, tl, sb, sz, nu, kTe ct 3)) := by simp [-Nat.add_zero, sp_undo, sp_tell, nI_l0, nI_l1, nI_l2, nI_l3, nI_l4, tN_l0, tN_l1, tN_l2, tN_l3, tN_l4, c4] <;> (repeat' (first | intro _ | refine ⟨?_, ?_⟩ | split)) <;> first | rfl | omega | (exfalso; omega)
    exact k_eqw (ws2 := clsA g a aK aL aT (sp_undo (m, k, kf, tp, tl, sb, sz, nu, ct) ).2 (jk, lk, lm, t, lt, nx, tk, sr, va)) (by rw [hsp]; rfl) (hR _ _ _ (jk, lk, lm, t, lt, nx, tk, sr, va) dX3_undo_13 (by rw [hsp]))
set_option maxHeartbeats 4000000 in
set_option maxRecDepth 100000 in
theorem cp_tear (l : Launch) (g : KG) (a aK aL aT : Nat → Nat) (j : CJ) (s : KS) (hs : kOk s)  : CT l yX3_tear cX3_tear 2 (some .int) (rmK 0) g [.ref (a 0)] (clsA g a aK aL aT s j) (S := CJ) oI (fun r _ => r = (sp_tear s ).1) (fun j => clsA g a aK aL aT (sp_tear s ).2 j) := by
  obtain ⟨m, k, kf, tp, tl, sb, sz, nu, ct⟩ := s
  obtain ⟨jk, lk, lm, t, lt, nx, tk, sr, va⟩ := j
  obtain ⟨hm, hk, htl, htp, hsh⟩ := hs
  have h0 : m 0 ≤ 8 := hm.1
  have h1 : m 1 ≤ 9999 := hm.2.1
  have h2 : m 2 ≤ 4 := hm.2.2.1
  have h3 : m 3 ≤ 99 := hm.2.2.2.2.1
  have hB : 9999 < 2 ^ 30 := by decide
  refine k_bodyI (by decide) (Nat.le_of_ble_eq_true rfl) (fun _ _ _ => rfl) (fun J hJ hR => ?_)
  show J (clsW g a aK aL aT kf ct (if kf then k else jk) lk m lm t lt tp tl nx tk sr va sb sz nu) [(0, .ref (a 0))] 0 []
  refine k_aload_n hJ dX3_tear_0 0 rfl ?_
  refine gf_X3_40 (v := .int (kb kf)) hJ 0 rfl rfl dX3_tear_1 ?_
  refine b_if_eq (tgt := 11) hJ dX3_tear_4 (by decide) (fun c4 => ?_) (fun c4 => ?_)
  · refine k_iconst (v := nI 0) hJ dX3_tear_11 (by decide) ?_
    refine k_istore_n (lv1 := [(0, .ref (a 0)), (1, .int (nI 0))]) hJ dX3_tear_12 (by decide) [1, 0] rfl ?_
    refine k_aload_n hJ dX3_tear_13 0 rfl ?_
    refine k_iconst (v := nI 0) hJ dX3_tear_14 (by decide) ?_
    refine pf_X3_40 (ws2 := clsW g a aK aL aT false ct (if kf then k else jk) lk m lm t lt tp tl nx tk sr va sb sz nu) hJ 0 rfl rfl (Nat.le_of_ble_eq_true rfl) rfl rfl dX3_tear_15 ?_
    refine k_iload_n hJ dX3_tear_18 1 rfl ?_
    subst c4
    have hsp : sp_tear (m, k, false, tp, tl, sb, sz, nu, ct) = (nI 0, (m, k, false, tp, tl, sb, sz, nu, ct)) := rfl
    exact k_eqw (ws2 := clsA g a aK aL aT (sp_tear (m, k, false, tp, tl, sb, sz, nu, ct)).2 (jk, lk, lm, t, lt, nx, tk, sr, va)) (by rw [hsp]; rfl) (hR _ _ _ (jk, lk, lm, t, lt, nx, tk, sr, va) dX3_tear_19 (by rw [hsp]))
  · refine k_iconst (v := nI 1) hJ dX3_tear_7 (by decide) ?_
    refine k_goto (tgt := 12) hJ dX3_tear_8 (by decide) ?_
    refine k_istore_n (lv1 := [(0, .ref (a 0)), (1, .int (nI 1))]) hJ dX3_tear_12 (by decide) [1, 0] rfl ?_
    refine k_aload_n hJ dX3_tear_13 0 rfl ?_
    refine k_iconst (v := nI 0) hJ dX3_tear_14 (by decide) ?_
    refine pf_X3_40 (ws2 := clsW g a aK aL aT false ct (if kf then k else jk) lk m lm t lt tp tl nx tk sr va sb sz nu) hJ 0 rfl rfl (Nat.le_of_ble_eq_true rfl) rfl rfl dX3_tear_15 ?_
    refine k_iload_n hJ dX3_tear_18 1 rfl ?_
    subst c4
    have hsp : sp_tear (m, k, true, tp, tl, sb, sz, nu, ct) = (nI 1, (m, k, false, tp, tl, sb, sz, nu, ct)) := rfl
    exact k_eqw (ws2 := clsA g a aK aL aT (sp_tear (m, k, true, tp, tl, sb, sz, nu, ct)).2 (k, lk, lm, t, lt, nx, tk, sr, va)) (by rw [hsp]; rfl) (hR _ _ _ (k, lk, lm, t, lt, nx, tk, sr, va) dX3_tear_19 (by rw [hsp]))
set_option maxHeartbeats 4000000 in
set_option maxRecDepth 100000 in
theorem cp_count (l : Launch) (g : KG) (a aK aL aT : Nat → Nat) (j : CJ) (s : KS) (hs : kOk s) (x : Int32) : CT l yX3_count cX3_count 2 (some .int) (rmK 2) g [.ref (a 0), .int x] (clsA g a aK aL aT s j) (S := CJ) oI (fun r _ => r = (sp_count s x).1) (fun j => clsA g a aK aL aT (sp_count s x).2 j) := by
  obtain ⟨m, k, kf, tp, tl, sb, sz, nu, ct⟩ := s
  obtain ⟨jk, lk, lm, t, lt, nx, tk, sr, va⟩ := j
  obtain ⟨hm, hk, htl, htp, hsh⟩ := hs
  have h0 : m 0 ≤ 8 := hm.1
  have h1 : m 1 ≤ 9999 := hm.2.1
  have h2 : m 2 ≤ 4 := hm.2.2.1
  have h3 : m 3 ≤ 99 := hm.2.2.2.2.1
  have hB : 9999 < 2 ^ 30 := by decide
  refine k_bodyI (by decide) (Nat.le_of_ble_eq_true rfl) (fun _ _ _ => rfl) (fun J hJ hR => ?_)
  show J (clsW g a aK aL aT kf ct (if kf then k else jk) lk m lm t lt tp tl nx tk sr va sb sz nu) [(0, .ref (a 0)), (1, .int x)] 0 []
  refine k_iload_n hJ dX3_count_0 1 rfl ?_
  by_cases c1_0 : x = (0 : Int32)
  · refine r_tabIn (c := 0) (tgt := 32) hJ dX3_count_1 c1_0 (by decide) (by decide) (by decide) rfl (by decide) ?_
    refine k_aload_n hJ dX3_count_32 0 rfl ?_
    refine gf_X3_10 (v := .ref (aL 0)) hJ 0 rfl rfl dX3_count_33 ?_
    refine gf_X3_67 (v := .int (nI (m 0))) hJ 15 rfl rfl dX3_count_36 ?_
    have hsp : sp_count (m, k, kf, tp, tl, sb, sz, nu, ct) x = (nI (m 0), (m, k, kf, tp, tl, sb, sz, nu, ct)) := by simp [-Nat.add_zero, sp_count, sp_tell, nI_l0, nI_l1, nI_l2, nI_l3, nI_l4, tN_l0, tN_l1, tN_l2, tN_l3, tN_l4, c1_0] <;> (repeat' (first | intro _ | refine ⟨?_, ?_⟩ | split)) <;> first | rfl | omega | (exfalso; omega)
    exact k_eqw (ws2 := clsA g a aK aL aT (sp_count (m, k, kf, tp, tl, sb, sz, nu, ct) x).2 (jk, lk, lm, t, lt, nx, tk, sr, va)) (by rw [hsp]; rfl) (hR _ _ _ (jk, lk, lm, t, lt, nx, tk, sr, va) dX3_count_39 (by rw [hsp]))
  by_cases c1_1 : x = (1 : Int32)
  · refine r_tabIn (c := 1) (tgt := 40) hJ dX3_count_1 c1_1 (by decide) (by decide) (by decide) rfl (by decide) ?_
    refine k_aload_n hJ dX3_count_40 0 rfl ?_
    refine gf_X3_25 (v := .ref (a 2)) hJ 0 rfl rfl dX3_count_41 ?_
    refine gf_X3_183 (v := .int (nI tl)) hJ 41 rfl rfl dX3_count_44 ?_
    have hsp : sp_count (m, k, kf, tp, tl, sb, sz, nu, ct) x = (nI tl, (m, k, kf, tp, tl, sb, sz, nu, ct)) := by simp [-Nat.add_zero, sp_count, sp_tell, nI_l0, nI_l1, nI_l2, nI_l3, nI_l4, tN_l0, tN_l1, tN_l2, tN_l3, tN_l4, c1_0, c1_1] <;> (repeat' (first | intro _ | refine ⟨?_, ?_⟩ | split)) <;> first | rfl | omega | (exfalso; omega)
    exact k_eqw (ws2 := clsA g a aK aL aT (sp_count (m, k, kf, tp, tl, sb, sz, nu, ct) x).2 (jk, lk, lm, t, lt, nx, tk, sr, va)) (by rw [hsp]; rfl) (hR _ _ _ (jk, lk, lm, t, lt, nx, tk, sr, va) dX3_count_47 (by rw [hsp]))
  by_cases c1_2 : x = (2 : Int32)
  · refine r_tabIn (c := 2) (tgt := 48) hJ dX3_count_1 c1_2 (by decide) (by decide) (by decide) rfl (by decide) ?_
    refine k_aload_n hJ dX3_count_48 0 rfl ?_
    refine gf_X3_10 (v := .ref (aL 0)) hJ 0 rfl rfl dX3_count_49 ?_
    refine k_aload_n hJ dX3_count_52 0 rfl ?_
    refine gf_X3_10 (v := .ref (aL 0)) hJ 0 rfl rfl dX3_count_53 ?_
    refine gf_X3_87 (v := .ref (aL 4)) hJ 15 rfl rfl dX3_count_56 ?_
    refine c_VI (As := [.ref (aL 4)]) (st := []) hJ (ct_X0_sumOver l g aL m lm (fun p => m (4 + 10 * p + 3)) 4 (aL 4) hB hm rfl) cls_frL mv_X0_sumOver ml_X3_238 15 rfl rfl rfl (kRm_ok (by decide) (by decide)) rfl rfl (Nat.le_of_ble_eq_true rfl) dX3_count_59 ?_
    have hsp : sp_count (m, k, kf, tp, tl, sb, sz, nu, ct) x = (nI (vSum (fun p => m (4 + 10 * p + 3)) (m 0)), (m, k, kf, tp, tl, sb, sz, nu, ct)) := by simp [-Nat.add_zero, sp_count, sp_tell, nI_l0, nI_l1, nI_l2, nI_l3, nI_l4, tN_l0, tN_l1, tN_l2, tN_l3, tN_l4, c1_0, c1_1, c1_2] <;> (repeat' (first | intro _ | refine ⟨?_, ?_⟩ | split)) <;> first | rfl | omega | (exfalso; omega)
    exact k_eqw (ws2 := clsA g a aK aL aT (sp_count (m, k, kf, tp, tl, sb, sz, nu, ct) x).2 (jk, lk, lm, t, lt, nx, tk, sr, va)) (by rw [hsp]; rfl) (hR _ _ _ (jk, lk, lm, t, lt, nx, tk, sr, va) dX3_count_62 (by rw [hsp]))
  by_cases c1_3 : x = (3 : Int32)
  · refine r_tabIn (c := 3) (tgt := 63) hJ dX3_count_1 c1_3 (by decide) (by decide) (by decide) rfl (by decide) ?_
    refine k_aload_n hJ dX3_count_63 0 rfl ?_
    refine gf_X3_10 (v := .ref (aL 0)) hJ 0 rfl rfl dX3_count_64 ?_
    refine k_aload_n hJ dX3_count_67 0 rfl ?_
    refine gf_X3_10 (v := .ref (aL 0)) hJ 0 rfl rfl dX3_count_68 ?_
    refine gf_X3_84 (v := .ref (aL 3)) hJ 15 rfl rfl dX3_count_71 ?_
    refine c_VI (As := [.ref (aL 3)]) (st := []) hJ (ct_X0_sumOver l g aL m lm (fun p => m (4 + 10 * p + 2)) 3 (aL 3) hB hm rfl) cls_frL mv_X0_sumOver ml_X3_238 15 rfl rfl rfl (kRm_ok (by decide) (by decide)) rfl rfl (Nat.le_of_ble_eq_true rfl) dX3_count_74 ?_
    have hsp : sp_count (m, k, kf, tp, tl, sb, sz, nu, ct) x = (nI (vSum (fun p => m (4 + 10 * p + 2)) (m 0)), (m, k, kf, tp, tl, sb, sz, nu, ct)) := by simp [-Nat.add_zero, sp_count, sp_tell, nI_l0, nI_l1, nI_l2, nI_l3, nI_l4, tN_l0, tN_l1, tN_l2, tN_l3, tN_l4, c1_0, c1_1, c1_2, c1_3] <;> (repeat' (first | intro _ | refine ⟨?_, ?_⟩ | split)) <;> first | rfl | omega | (exfalso; omega)
    exact k_eqw (ws2 := clsA g a aK aL aT (sp_count (m, k, kf, tp, tl, sb, sz, nu, ct) x).2 (jk, lk, lm, t, lt, nx, tk, sr, va)) (by rw [hsp]; rfl) (hR _ _ _ (jk, lk, lm, t, lt, nx, tk, sr, va) dX3_count_77 (by rw [hsp]))
  refine r_tabOut (N := 4) (tgt := 78) hJ dX3_count_1 (by decide) (by decide) (fun c hc e => by rcases (show c = 0 ∨ c = 1 ∨ c = 2 ∨ c = 3 by omega) with rfl | rfl | rfl | rfl; all_goals first | exact c1_0 e | exact c1_1 e | exact c1_2 e | exact c1_3 e) (by decide) ?_
  refine k_aload_n hJ dX3_count_78 0 rfl ?_
  refine k_ldc hJ dX3_count_79 cw_X3_55 ?_
  refine k_eqs (st2 := [.int (kFi 0), .ref (a 0)]) (by rw [kFi_c0]) ?_
  refine c_VI (As := [.int (kFi 0)]) (st := []) hJ (ct_X3_tell l g a aK aL aT kf ct 0 (by decide)) cls_frX mv_X3_tell ml_X3_56 0 rfl rfl rfl (kRm_ok (by decide) (by decide)) rfl rfl (Nat.le_of_ble_eq_true rfl) dX3_count_81 ?_
  have hsp : sp_count (m, k, kf, tp, tl, sb, sz, nu, ct) x = (kFi 0, (m, k, kf, tp, tl, sb, sz, nu, kTe ct 0)) := by simp [-Nat.add_zero, sp_count, sp_tell, nI_l0, nI_l1, nI_l2, nI_l3, nI_l4, tN_l0, tN_l1, tN_l2, tN_l3, tN_l4, c1_0, c1_1, c1_2, c1_3] <;> (repeat' (first | intro _ | refine ⟨?_, ?_⟩ | split)) <;> first | rfl | omega | (exfalso; omega)
  exact k_eqw (ws2 := clsA g a aK aL aT (sp_count (m, k, kf, tp, tl, sb, sz, nu, ct) x).2 (jk, lk, lm, t, lt, nx, tk, sr, va)) (by rw [hsp]; rfl) (hR _ _ _ (jk, lk, lm, t, lt, nx, tk, sr, va) dX3_count_84 (by rw [hsp]))
set_option maxHeartbeats 4000000 in
set_option maxRecDepth 100000 in
theorem cp_status (l : Launch) (g : KG) (a aK aL aT : Nat → Nat) (j : CJ) (s : KS) (hs : kOk s) (x : Int32) : CT l yX3_status cX3_status 4 (some .int) (rmK 2) g [.ref (a 0), .int x] (clsA g a aK aL aT s j) (S := CJ) oI (fun r _ => r = (sp_status s x).1) (fun j => clsA g a aK aL aT (sp_status s x).2 j) := by
  obtain ⟨m, k, kf, tp, tl, sb, sz, nu, ct⟩ := s
  obtain ⟨jk, lk, lm, t, lt, nx, tk, sr, va⟩ := j
  obtain ⟨hm, hk, htl, htp, hsh⟩ := hs
  have h0 : m 0 ≤ 8 := hm.1
  have h1 : m 1 ≤ 9999 := hm.2.1
  have h2 : m 2 ≤ 4 := hm.2.2.1
  have h3 : m 3 ≤ 99 := hm.2.2.2.2.1
  have hB : 9999 < 2 ^ 30 := by decide
  refine k_bodyI (by decide) (Nat.le_of_ble_eq_true rfl) (fun _ _ _ => rfl) (fun J hJ hR => ?_)
  show J (clsW g a aK aL aT kf ct (if kf then k else jk) lk m lm t lt tp tl nx tk sr va sb sz nu) [(0, .ref (a 0)), (1, .int x)] 0 []
  refine k_iload_n hJ dX3_status_0 1 rfl ?_
  refine k_iconst (v := nI 0) hJ dX3_status_1 (by decide) ?_
  refine k_bipush (v := nI 6) hJ dX3_status_2 (by decide) ?_
  refine c_SI (As := [.int x, .int (nI 0), .int (nI 6)]) (st := []) hJ (ct_X3_within l g x 0 6) Fr.none ms_X3_within ml_X3_44 (kRm_ok (by decide) (by decide)) rfl rfl (Nat.le_of_ble_eq_true rfl) dX3_status_4 ?_
  refine k_eqs (st2 := [.int (kb (vIn x 7))]) (by rw [vBt_in _ (by decide)]) ?_
  refine b_if_eq (tgt := 17) hJ dX3_status_7 (by decide) (fun c7 => ?_) (fun c7 => ?_)
  · refine k_iload_n hJ dX3_status_17 1 rfl ?_
    refine k_iconst (v := (-1)) hJ dX3_status_18 (by decide) ?_
    refine k_icmp_eq (tgt := 29) hJ dX3_status_19 (by decide) (fun (c19 : x = (-1)) => ?_) (fun (c19 : ¬ x = (-1)) => ?_)
    · refine k_iconst (v := nI 0) hJ dX3_status_29 (by decide) ?_
      refine k_istore_n (lv1 := [(0, .ref (a 0)), (1, .int x), (2, .int (nI 0))]) hJ dX3_status_30 (by decide) [1, 2, 0] rfl ?_
      refine k_iconst (v := nI 0) hJ dX3_status_31 (by decide) ?_
      refine k_istore_n (lv1 := [(0, .ref (a 0)), (1, .int x), (2, .int (nI 0)), (3, .int (nI 0))]) hJ dX3_status_32 (by decide) [1, 2, 3, 0] rfl ?_
      have L33 : ∀ (fu : Nat) (i : Nat), (i ≤ 7) → (8 ≤ i + fu) → J (clsW g a aK aL aT kf ct (if kf then k else jk) lk m lm t lt tp tl nx tk sr va sb sz nu) [(0, .ref (a 0)), (1, .int x), (2, .int (vAll ct i)), (3, .int (nI i))] 33 [] := by
        intro fu
        induction fu with
        | zero => intro i hi hf; exfalso; omega
        | succ fu ih =>
          intro i hi hf
          refine k_iload_n hJ dX3_status_33 3 rfl ?_
          refine k_bipush (v := nI 7) hJ dX3_status_34 (by decide) ?_
          refine n_icmp_ge (tgt := 54) hJ dX3_status_36 (by decide) (by omega) (by omega) (fun c36 => ?_) (fun c36 => ?_)
          · refine k_iload_n hJ dX3_status_54 2 rfl ?_
            have hi7 : i = 7 := by omega
            have hsp : sp_status (m, k, kf, tp, tl, sb, sz, nu, ct) x = (vAll ct i, (m, k, kf, tp, tl, sb, sz, nu, ct)) := by simp only [sp_status]; rw [if_neg (by rw [c7]; decide), if_pos c19, hi7]
            exact k_eqw (ws2 := clsA g a aK aL aT (sp_status (m, k, kf, tp, tl, sb, sz, nu, ct) x).2 (jk, lk, lm, t, lt, nx, tk, sr, va)) (by rw [hsp]; rfl) (hR _ _ _ (jk, lk, lm, t, lt, nx, tk, sr, va) dX3_status_55 (by rw [hsp]))
          · refine k_iload_n hJ dX3_status_39 2 rfl ?_
            refine k_aload_n hJ dX3_status_40 0 rfl ?_
            refine gf_X3_36 (v := .ref (a 1)) hJ 0 rfl rfl dX3_status_41 ?_
            refine k_iload_n hJ dX3_status_44 3 rfl ?_
            refine k_iald hJ 1 rfl i (by omega) (by decide) rfl dX3_status_45 ?_
            refine k_iadd hJ dX3_status_46 ?_
            refine k_istore_n (lv1 := [(0, .ref (a 0)), (1, .int x), (2, .int ((vAll ct i) + (ct i))), (3, .int (nI i))]) hJ dX3_status_47 (by decide) [1, 2, 0, 3] rfl ?_
            refine n_iinc (b := 1) (lv1 := [(0, .ref (a 0)), (1, .int x), (2, .int ((vAll ct i) + (ct i))), (3, .int (nI (i + 1)))]) hJ dX3_status_48 3 rfl (by decide) (by decide) [1, 2, 3, 0] rfl ?_
            refine k_goto (tgt := 33) hJ dX3_status_51 (by decide) ?_
            refine k_eql (lv1 := [(0, .ref (a 0)), (1, .int x), (2, .int (vAll ct (i + 1))), (3, .int (nI (i + 1)))]) (by rw [vAll]) ?_
            exact ih (i + 1) (by omega) (by omega)
      exact L33 8 0 (by omega) (by omega)
    · refine k_aload_n hJ dX3_status_22 0 rfl ?_
      refine k_ldc hJ dX3_status_23 cw_X3_55 ?_
      refine k_eqs (st2 := [.int (kFi 0), .ref (a 0)]) (by rw [kFi_c0]) ?_
      refine c_VI (As := [.int (kFi 0)]) (st := []) hJ (ct_X3_tell l g a aK aL aT kf ct 0 (by decide)) cls_frX mv_X3_tell ml_X3_56 0 rfl rfl rfl (kRm_ok (by decide) (by decide)) rfl rfl (Nat.le_of_ble_eq_true rfl) dX3_status_25 ?_
      have hsp : sp_status (m, k, kf, tp, tl, sb, sz, nu, ct) x = (kFi 0, (m, k, kf, tp, tl, sb, sz, nu, kTe ct 0)) := by simp only [sp_status]; rw [if_neg (by rw [c7]; decide), if_neg c19]; rfl
      exact k_eqw (ws2 := clsA g a aK aL aT (sp_status (m, k, kf, tp, tl, sb, sz, nu, ct) x).2 (jk, lk, lm, t, lt, nx, tk, sr, va)) (by rw [hsp]; rfl) (hR _ _ _ (jk, lk, lm, t, lt, nx, tk, sr, va) dX3_status_28 (by rw [hsp]))
  · obtain ⟨px, hpx, rfl⟩ := vIn_of (by omega) c7
    refine k_aload_n hJ dX3_status_10 0 rfl ?_
    refine gf_X3_36 (v := .ref (a 1)) hJ 0 rfl rfl dX3_status_11 ?_
    refine k_iload_n hJ dX3_status_14 1 rfl ?_
    refine k_iald hJ 1 rfl px (by omega) (by decide) rfl dX3_status_15 ?_
    have hsp : sp_status (m, k, kf, tp, tl, sb, sz, nu, ct) (nI px) = (ct px, (m, k, kf, tp, tl, sb, sz, nu, ct)) := by simp only [sp_status]; rw [if_pos c7, tN_nI (by omega)]
    exact k_eqw (ws2 := clsA g a aK aL aT (sp_status (m, k, kf, tp, tl, sb, sz, nu, ct) (nI px)).2 (jk, lk, lm, t, lt, nx, tk, sr, va)) (by rw [hsp]; rfl) (hR _ _ _ (jk, lk, lm, t, lt, nx, tk, sr, va) dX3_status_16 (by rw [hsp]))
