theorem nI_l8 : nI 8 = 8 := rfl
theorem nI_l16 : nI 16 = 16 := rfl
theorem nI_l64 : nI 64 = 64 := rfl
theorem tN_l8 : tN 8 = 8 := by decide
theorem tN_l16 : tN 16 = 16 := by decide
theorem tN_l64 : tN 64 = 64 := by decide
theorem nI_nlt0 {p : Nat} (h : p < 2 ^ 31) : ¬ nI p < 0 := nI_pos h
theorem nI_gt40 {p : Nat} (h : p ≤ 40) : ¬ 40 < nI p := nI_nlt (a := 40) (b := p) h (by decide)
theorem nI_is40 {p : Nat} (h : 40 < p) (hp : p < 2 ^ 31) : 40 < nI p := nI_lt (a := 40) h hp
set_option maxHeartbeats 4000000 in
set_option maxRecDepth 100000 in
theorem mp_sheet (l : Launch) (g : KG) (b : Nat → Nat) (j : MJ) (s : KS) (hs : kOk s) (x : Int32) (y : Int32) (z : Int32) : CT l yX4_sheet cX4_sheet 5 (some .int) (rmK 2) g [.ref (b 0), .int x, .int y, .int z] (modA g b s j) (S := MJ) oI (fun r _ => r = (sp_sheet s x y z).1) (fun j => modA g b (sp_sheet s x y z).2 j) := by
  obtain ⟨m, k, kf, tp, tl, sb, sz, nu, ct⟩ := s
  obtain ⟨fj, mj, fr, to, va, iw, jk, th, ai, ot, mo⟩ := j
  obtain ⟨hm, hk, htl, htp, hsh⟩ := hs
  have h0 : m 0 ≤ 8 := hm.1
  have h1 : m 1 ≤ 9999 := hm.2.1
  have h2 : m 2 ≤ 4 := hm.2.2.1
  have h3 : m 3 ≤ 99 := hm.2.2.2.2.1
  have hB : 9999 < 2 ^ 30 := by decide
  refine k_bodyI (by decide) (Nat.le_of_ble_eq_true rfl) (fun _ _ _ => rfl) (fun J hJ hR => ?_)
  have hsb := fun s (h : s < 4) => (hsh s h).1
  have hsz := fun s (h : s < 4) => (hsh s h).2
  show J (modW g b (mE kf fj mj tl fr to va iw) m th ai ct (fun i => nI ((if kf then k else jk) i)) ot tp sb sz nu mo) [(0, .ref (b 0)), (1, .int x), (2, .int y), (3, .int z)] 0 []
  refine k_iload_n hJ dX4_sheet_0 1 rfl ?_
  refine c_SI (As := [.int x]) (st := []) hJ (ct_X4_isOne l g x ) Fr.none ms_X4_isOne ml_X4_282 (kRm_ok (by decide) (by decide)) rfl rfl (Nat.le_of_ble_eq_true rfl) dX4_sheet_1 ?_
  refine b_if_eq (tgt := 29) hJ dX4_sheet_4 (by decide) (fun c4 => ?_) (fun c4 => ?_)
  · refine k_aload_n hJ dX4_sheet_29 0 rfl ?_
    refine k_ldc hJ dX4_sheet_30 cw_X4_44 ?_
    refine k_eqs (st2 := [.int (kFi 0), .ref (b 0)]) (by rw [kFi_c0]) ?_
    refine c_VI (As := [.int (kFi 0)]) (st := []) hJ (ct_X4_finds l g b (mE kf fj mj tl fr to va iw) m th ai ct (fun i => nI ((if kf then k else jk) i)) ot tp sb sz nu mo 0 (by decide)) (Fr.all rfl) mv_X4_finds ml_X4_68 0 rfl rfl rfl (kRm_ok (by decide) (by decide)) rfl rfl (Nat.le_of_ble_eq_true rfl) dX4_sheet_32 ?_
    have hsp : sp_sheet (m, k, kf, tp, tl, sb, sz, nu, ct) x y z = (kFi 0, (m, k, kf, tp, tl, sb, sz, nu, kTe ct 0)) := by simp [sp_sheet, sp_tell, nI_l0, nI_l8, nI_l16, nI_l64, c4]
    exact k_eqw (ws2 := modA g b (sp_sheet (m, k, kf, tp, tl, sb, sz, nu, ct) x y z).2 (fj, mj, fr, to, va, iw, jk, th, ai, ot, mo)) (by rw [hsp]; rfl) (hR _ _ _ (fj, mj, fr, to, va, iw, jk, th, ai, ot, mo) dX4_sheet_35 (by rw [hsp]))
  · obtain ⟨px, hpx, rfl⟩ := vIn_of (by omega) c4
    refine k_iload_n hJ dX4_sheet_7 2 rfl ?_
    refine k_if_eq (tgt := 36) hJ dX4_sheet_8 (by decide) (fun (c8 : y = nI 0) => ?_) (fun c8 => ?_)
    · subst c8
      refine k_iload_n hJ dX4_sheet_36 3 rfl ?_
      refine k_if_ge (tgt := 48) hJ dX4_sheet_37 (by decide) (fun c37 => ?_) (fun c37 => ?_)
      · obtain ⟨pz, hpz, rfl⟩ := nI_of (Int32.not_lt.mpr c37)
        refine k_iload_n hJ dX4_sheet_48 3 rfl ?_
        refine k_bipush (v := nI 40) hJ dX4_sheet_49 (by decide) ?_
        refine n_icmp_le (tgt := 61) hJ dX4_sheet_51 (by decide) (by omega) (by omega) (fun c51 => ?_) (fun c51 => ?_)
        · have hz40 : pz ≤ 40 := by omega
          refine k_aload_n hJ dX4_sheet_61 0 rfl ?_
          refine gf_X4_31 (v := .ref (b 8)) hJ 0 rfl rfl dX4_sheet_62 ?_
          refine k_iload_n hJ dX4_sheet_65 1 rfl ?_
          refine k_iload_n hJ dX4_sheet_66 2 rfl ?_
          refine k_iast (ws2 := modW g b (mE kf fj mj tl fr to va iw) m th ai ct (fun i => nI ((if kf then k else jk) i)) ot tp (vUp sb px 0) sz nu mo) hJ 8 rfl px (by omega) (by decide) (mw_sb (v := 0)) dX4_sheet_67 ?_
          refine k_aload_n hJ dX4_sheet_68 0 rfl ?_
          refine gf_X4_34 (v := .ref (b 9)) hJ 0 rfl rfl dX4_sheet_69 ?_
          refine k_iload_n hJ dX4_sheet_72 1 rfl ?_
          refine k_iload_n hJ dX4_sheet_73 2 rfl ?_
          refine n_if_ne (tgt := 81) hJ dX4_sheet_74 (by decide) (by omega) (fun c74 => ?_) (fun c74 => ?_)
          · exact absurd c74 (by decide)
          · refine k_iconst (v := nI 0) hJ dX4_sheet_77 (by decide) ?_
            refine k_goto (tgt := 82) hJ dX4_sheet_78 (by decide) ?_
            refine k_iast (ws2 := modW g b (mE kf fj mj tl fr to va iw) m th ai ct (fun i => nI ((if kf then k else jk) i)) ot tp (vUp sb px 0) (vUp sz px 0) nu mo) hJ 9 rfl px (by omega) (by decide) (mw_sz (v := 0)) dX4_sheet_82 ?_
            refine k_iconst (v := nI 0) hJ dX4_sheet_83 (by decide) ?_
            refine k_istore (lv1 := [(0, .ref (b 0)), (1, .int (nI px)), (2, .int (nI 0)), (3, .int (nI pz)), (4, .int (nI 0))]) hJ dX4_sheet_84 (by decide) [1, 2, 3, 4, 0] rfl ?_
            have L86 : ∀ (fu : Nat) (i : Nat) (Nu : Nat → Nat → Int64), (i ≤ 40) → (41 ≤ i + fu) → ((∀ a c, a ≠ px → Nu a c = nu a c) ∧ ∀ c, c < i → Nu px c = 0) → J (modW g b (mE kf fj mj tl fr to va iw) m th ai ct (fun i => nI ((if kf then k else jk) i)) ot tp (vUp sb px 0) (vUp sz px 0) Nu mo) [(0, .ref (b 0)), (1, .int (nI px)), (2, .int (nI 0)), (3, .int (nI pz)), (4, .int (nI i))] 86 [] := by
              intro fu
              induction fu with
              | zero => intro i Nu hi hf hN; exfalso; omega
              | succ fu ih =>
                intro i Nu hi hf hN
                refine k_iload hJ dX4_sheet_86 4 rfl ?_
                refine k_bipush (v := nI 40) hJ dX4_sheet_88 (by decide) ?_
                refine n_icmp_ge (tgt := 112) hJ dX4_sheet_90 (by decide) (by omega) (by omega) (fun c90 => ?_) (fun c90 => ?_)
                · refine k_aload_n hJ dX4_sheet_112 0 rfl ?_
                  refine gf_X4_34 (v := .ref (b 9)) hJ 0 rfl rfl dX4_sheet_113 ?_
                  refine k_iload_n hJ dX4_sheet_116 1 rfl ?_
                  refine k_iald hJ 9 rfl px (by omega) (by decide) rfl dX4_sheet_117 ?_
                  refine k_ws (ws2 := modW g b (mE kf fj mj tl fr to va iw) m th ai ct (fun i => nI ((if kf then k else jk) i)) ot tp (vUp sb px 0) (vUp sz px 0) (fun s i => if s = px then 0 else nu s i) mo) hJ (fun H hP => mw_nuc (fun a c ha hc => by by_cases q : a = px; subst q; rw [if_pos rfl]; exact (hN.2 c (by omega)).symm; rw [if_neg q]; exact (hN.1 a c q).symm) hP) rfl ?_
                  have hz : (vUp sz px (0)) px = 0 := vUp_s _ _ _
                  refine k_eqs (st2 := [.int (nI 0)]) (by rw [hz]) ?_
                  have hsp : sp_sheet (m, k, kf, tp, tl, sb, sz, nu, ct) (nI px) (nI 0) (nI pz) = (nI 0, (m, k, kf, tp, tl, vUp sb px 0, vUp sz px 0, fun s i => if s = px then 0 else nu s i, ct)) := by simp [sp_sheet, c4, tN_l0, nI_clamp (show px < 2 ^ 31 by omega), nI_clamp (show pz < 2 ^ 31 by omega), nI_nlt0 (show pz < 2 ^ 31 by omega), nI_gt40 (show pz ≤ 40 by omega), tN_l8, tN_l16, tN_l64, nI_l8, nI_l16, nI_l64, nI_l0]
                  exact k_eqw (ws2 := modA g b (sp_sheet (m, k, kf, tp, tl, sb, sz, nu, ct) (nI px) (nI 0) (nI pz)).2 (fj, mj, fr, to, va, iw, jk, th, ai, ot, mo)) (by rw [hsp]; rfl) (hR _ _ _ (fj, mj, fr, to, va, iw, jk, th, ai, ot, mo) dX4_sheet_118 (by rw [hsp]))
                · refine k_aload_n hJ dX4_sheet_93 0 rfl ?_
                  refine gf_X4_37 (v := .ref (b 10)) hJ 0 rfl rfl dX4_sheet_94 ?_
                  refine k_bipush (v := nI 40) hJ dX4_sheet_97 (by decide) ?_
                  refine k_iload_n hJ dX4_sheet_99 1 rfl ?_
                  refine n_imul hJ dX4_sheet_100 ?_
                  refine k_iload hJ dX4_sheet_101 4 rfl ?_
                  refine n_iadd hJ dX4_sheet_103 ?_
                  refine k_lconst (v := 0) hJ dX4_sheet_104 (by decide) ?_
                  refine k_last (ws2 := modW g b (mE kf fj mj tl fr to va iw) m th ai ct (fun i => nI ((if kf then k else jk) i)) ot tp (vUp sb px 0) (vUp sz px 0) (vN Nu px i 0) mo) hJ 10 rfl ((40 * px) + i) (by omega) (by decide) (mw_nu (show (40 * px) + i = 40 * px + i by omega) (by omega)) dX4_sheet_105 ?_
                  refine n_iinc (b := 1) (lv1 := [(0, .ref (b 0)), (1, .int (nI px)), (2, .int (nI 0)), (3, .int (nI pz)), (4, .int (nI (i + 1)))]) hJ dX4_sheet_106 4 rfl (by decide) (by decide) [1, 2, 3, 4, 0] rfl ?_
                  refine k_goto (tgt := 86) hJ dX4_sheet_109 (by decide) ?_
                  refine ih (i + 1) _ (by omega) (by omega) ⟨fun a c ha => ?_, fun c hc => ?_⟩
                  · show (if a = px ∧ c = i then _ else _) = _; rw [if_neg (fun q => ha q.1)]; exact hN.1 a c ha
                  · show (if px = px ∧ c = i then _ else _) = _; by_cases q : c = i; rw [if_pos ⟨rfl, q⟩]; rw [if_neg (fun x => q x.2)]; exact hN.2 c (by omega)
            exact L86 41 0 nu (by omega) (by omega) ⟨fun _ _ _ => rfl, fun c hc => absurd hc (by omega)⟩
        · refine k_aload_n hJ dX4_sheet_54 0 rfl ?_
          refine k_ldc hJ dX4_sheet_55 cw_X4_44 ?_
          refine k_eqs (st2 := [.int (kFi 0), .ref (b 0)]) (by rw [kFi_c0]) ?_
          refine c_VI (As := [.int (kFi 0)]) (st := []) hJ (ct_X4_finds l g b (mE kf fj mj tl fr to va iw) m th ai ct (fun i => nI ((if kf then k else jk) i)) ot tp sb sz nu mo 0 (by decide)) (Fr.all rfl) mv_X4_finds ml_X4_68 0 rfl rfl rfl (kRm_ok (by decide) (by decide)) rfl rfl (Nat.le_of_ble_eq_true rfl) dX4_sheet_57 ?_
          have hsp : sp_sheet (m, k, kf, tp, tl, sb, sz, nu, ct) (nI px) (nI 0) (nI pz) = (kFi 0, (m, k, kf, tp, tl, sb, sz, nu, kTe ct 0)) := by simp [sp_sheet, sp_tell, nI_l0, nI_l8, nI_l16, nI_l64, c4, nI_nlt0 hpz, nI_is40 c51 hpz]
          exact k_eqw (ws2 := modA g b (sp_sheet (m, k, kf, tp, tl, sb, sz, nu, ct) (nI px) (nI 0) (nI pz)).2 (fj, mj, fr, to, va, iw, jk, th, ai, ot, mo)) (by rw [hsp]; rfl) (hR _ _ _ (fj, mj, fr, to, va, iw, jk, th, ai, ot, mo) dX4_sheet_60 (by rw [hsp]))
      · refine k_aload_n hJ dX4_sheet_40 0 rfl ?_
        refine k_ldcw hJ dX4_sheet_41 cw_X4_285 ?_
        refine k_eqs (st2 := [.int (kFi 6), .ref (b 0)]) (by rw [kFi_c6]) ?_
        refine c_VI (As := [.int (kFi 6)]) (st := []) hJ (ct_X4_finds l g b (mE kf fj mj tl fr to va iw) m th ai ct (fun i => nI ((if kf then k else jk) i)) ot tp sb sz nu mo 6 (by decide)) (Fr.all rfl) mv_X4_finds ml_X4_68 0 rfl rfl rfl (kRm_ok (by decide) (by decide)) rfl rfl (Nat.le_of_ble_eq_true rfl) dX4_sheet_44 ?_
        have hsp : sp_sheet (m, k, kf, tp, tl, sb, sz, nu, ct) (nI px) (nI 0) z = (kFi 6, (m, k, kf, tp, tl, sb, sz, nu, kTe ct 6)) := by simp [sp_sheet, sp_tell, nI_l0, nI_l8, nI_l16, nI_l64, c4, c37]
        exact k_eqw (ws2 := modA g b (sp_sheet (m, k, kf, tp, tl, sb, sz, nu, ct) (nI px) (nI 0) z).2 (fj, mj, fr, to, va, iw, jk, th, ai, ot, mo)) (by rw [hsp]; rfl) (hR _ _ _ (fj, mj, fr, to, va, iw, jk, th, ai, ot, mo) dX4_sheet_47 (by rw [hsp]))
    · refine k_iload_n hJ dX4_sheet_11 2 rfl ?_
      refine k_bipush (v := nI 8) hJ dX4_sheet_12 (by decide) ?_
      refine k_icmp_eq (tgt := 36) hJ dX4_sheet_14 (by decide) (fun (c14 : y = nI 8) => ?_) (fun (c14 : ¬ y = (8 : Int32)) => ?_)
      · subst c14
        refine k_iload_n hJ dX4_sheet_36 3 rfl ?_
        refine k_if_ge (tgt := 48) hJ dX4_sheet_37 (by decide) (fun c37 => ?_) (fun c37 => ?_)
        · obtain ⟨pz, hpz, rfl⟩ := nI_of (Int32.not_lt.mpr c37)
          refine k_iload_n hJ dX4_sheet_48 3 rfl ?_
          refine k_bipush (v := nI 40) hJ dX4_sheet_49 (by decide) ?_
          refine n_icmp_le (tgt := 61) hJ dX4_sheet_51 (by decide) (by omega) (by omega) (fun c51 => ?_) (fun c51 => ?_)
          · have hz40 : pz ≤ 40 := by omega
            refine k_aload_n hJ dX4_sheet_61 0 rfl ?_
            refine gf_X4_31 (v := .ref (b 8)) hJ 0 rfl rfl dX4_sheet_62 ?_
            refine k_iload_n hJ dX4_sheet_65 1 rfl ?_
            refine k_iload_n hJ dX4_sheet_66 2 rfl ?_
            refine k_iast (ws2 := modW g b (mE kf fj mj tl fr to va iw) m th ai ct (fun i => nI ((if kf then k else jk) i)) ot tp (vUp sb px 8) sz nu mo) hJ 8 rfl px (by omega) (by decide) (mw_sb (v := 8)) dX4_sheet_67 ?_
            refine k_aload_n hJ dX4_sheet_68 0 rfl ?_
            refine gf_X4_34 (v := .ref (b 9)) hJ 0 rfl rfl dX4_sheet_69 ?_
            refine k_iload_n hJ dX4_sheet_72 1 rfl ?_
            refine k_iload_n hJ dX4_sheet_73 2 rfl ?_
            refine n_if_ne (tgt := 81) hJ dX4_sheet_74 (by decide) (by omega) (fun c74 => ?_) (fun c74 => ?_)
            · refine k_iload_n hJ dX4_sheet_81 3 rfl ?_
              refine k_iast (ws2 := modW g b (mE kf fj mj tl fr to va iw) m th ai ct (fun i => nI ((if kf then k else jk) i)) ot tp (vUp sb px 8) (vUp sz px pz) nu mo) hJ 9 rfl px (by omega) (by decide) (mw_sz (v := pz)) dX4_sheet_82 ?_
              refine k_iconst (v := nI 0) hJ dX4_sheet_83 (by decide) ?_
              refine k_istore (lv1 := [(0, .ref (b 0)), (1, .int (nI px)), (2, .int (nI 8)), (3, .int (nI pz)), (4, .int (nI 0))]) hJ dX4_sheet_84 (by decide) [1, 2, 3, 4, 0] rfl ?_
              have L86 : ∀ (fu : Nat) (i : Nat) (Nu : Nat → Nat → Int64), (i ≤ 40) → (41 ≤ i + fu) → ((∀ a c, a ≠ px → Nu a c = nu a c) ∧ ∀ c, c < i → Nu px c = 0) → J (modW g b (mE kf fj mj tl fr to va iw) m th ai ct (fun i => nI ((if kf then k else jk) i)) ot tp (vUp sb px 8) (vUp sz px pz) Nu mo) [(0, .ref (b 0)), (1, .int (nI px)), (2, .int (nI 8)), (3, .int (nI pz)), (4, .int (nI i))] 86 [] := by
                intro fu
                induction fu with
                | zero => intro i Nu hi hf hN; exfalso; omega
                | succ fu ih =>
                  intro i Nu hi hf hN
                  refine k_iload hJ dX4_sheet_86 4 rfl ?_
                  refine k_bipush (v := nI 40) hJ dX4_sheet_88 (by decide) ?_
                  refine n_icmp_ge (tgt := 112) hJ dX4_sheet_90 (by decide) (by omega) (by omega) (fun c90 => ?_) (fun c90 => ?_)
                  · refine k_aload_n hJ dX4_sheet_112 0 rfl ?_
                    refine gf_X4_34 (v := .ref (b 9)) hJ 0 rfl rfl dX4_sheet_113 ?_
                    refine k_iload_n hJ dX4_sheet_116 1 rfl ?_
                    refine k_iald hJ 9 rfl px (by omega) (by decide) rfl dX4_sheet_117 ?_
                    refine k_ws (ws2 := modW g b (mE kf fj mj tl fr to va iw) m th ai ct (fun i => nI ((if kf then k else jk) i)) ot tp (vUp sb px 8) (vUp sz px pz) (fun s i => if s = px then 0 else nu s i) mo) hJ (fun H hP => mw_nuc (fun a c ha hc => by by_cases q : a = px; subst q; rw [if_pos rfl]; exact (hN.2 c (by omega)).symm; rw [if_neg q]; exact (hN.1 a c q).symm) hP) rfl ?_
                    have hz : (vUp sz px (pz)) px = pz := vUp_s _ _ _
                    refine k_eqs (st2 := [.int (nI pz)]) (by rw [hz]) ?_
                    have hsp : sp_sheet (m, k, kf, tp, tl, sb, sz, nu, ct) (nI px) (nI 8) (nI pz) = (nI pz, (m, k, kf, tp, tl, vUp sb px 8, vUp sz px pz, fun s i => if s = px then 0 else nu s i, ct)) := by simp [sp_sheet, c4, tN_l0, nI_clamp (show px < 2 ^ 31 by omega), nI_clamp (show pz < 2 ^ 31 by omega), nI_nlt0 (show pz < 2 ^ 31 by omega), nI_gt40 (show pz ≤ 40 by omega), tN_l8, tN_l16, tN_l64, nI_l8, nI_l16, nI_l64, nI_l0]
                    exact k_eqw (ws2 := modA g b (sp_sheet (m, k, kf, tp, tl, sb, sz, nu, ct) (nI px) (nI 8) (nI pz)).2 (fj, mj, fr, to, va, iw, jk, th, ai, ot, mo)) (by rw [hsp]; rfl) (hR _ _ _ (fj, mj, fr, to, va, iw, jk, th, ai, ot, mo) dX4_sheet_118 (by rw [hsp]))
                  · refine k_aload_n hJ dX4_sheet_93 0 rfl ?_
                    refine gf_X4_37 (v := .ref (b 10)) hJ 0 rfl rfl dX4_sheet_94 ?_
                    refine k_bipush (v := nI 40) hJ dX4_sheet_97 (by decide) ?_
                    refine k_iload_n hJ dX4_sheet_99 1 rfl ?_
                    refine n_imul hJ dX4_sheet_100 ?_
                    refine k_iload hJ dX4_sheet_101 4 rfl ?_
                    refine n_iadd hJ dX4_sheet_103 ?_
                    refine k_lconst (v := 0) hJ dX4_sheet_104 (by decide) ?_
                    refine k_last (ws2 := modW g b (mE kf fj mj tl fr to va iw) m th ai ct (fun i => nI ((if kf then k else jk) i)) ot tp (vUp sb px 8) (vUp sz px pz) (vN Nu px i 0) mo) hJ 10 rfl ((40 * px) + i) (by omega) (by decide) (mw_nu (show (40 * px) + i = 40 * px + i by omega) (by omega)) dX4_sheet_105 ?_
                    refine n_iinc (b := 1) (lv1 := [(0, .ref (b 0)), (1, .int (nI px)), (2, .int (nI 8)), (3, .int (nI pz)), (4, .int (nI (i + 1)))]) hJ dX4_sheet_106 4 rfl (by decide) (by decide) [1, 2, 3, 4, 0] rfl ?_
                    refine k_goto (tgt := 86) hJ dX4_sheet_109 (by decide) ?_
                    refine ih (i + 1) _ (by omega) (by omega) ⟨fun a c ha => ?_, fun c hc => ?_⟩
                    · show (if a = px ∧ c = i then _ else _) = _; rw [if_neg (fun q => ha q.1)]; exact hN.1 a c ha
                    · show (if px = px ∧ c = i then _ else _) = _; by_cases q : c = i; rw [if_pos ⟨rfl, q⟩]; rw [if_neg (fun x => q x.2)]; exact hN.2 c (by omega)
              exact L86 41 0 nu (by omega) (by omega) ⟨fun _ _ _ => rfl, fun c hc => absurd hc (by omega)⟩
            · exact absurd c74 (by decide)
          · refine k_aload_n hJ dX4_sheet_54 0 rfl ?_
            refine k_ldc hJ dX4_sheet_55 cw_X4_44 ?_
            refine k_eqs (st2 := [.int (kFi 0), .ref (b 0)]) (by rw [kFi_c0]) ?_
            refine c_VI (As := [.int (kFi 0)]) (st := []) hJ (ct_X4_finds l g b (mE kf fj mj tl fr to va iw) m th ai ct (fun i => nI ((if kf then k else jk) i)) ot tp sb sz nu mo 0 (by decide)) (Fr.all rfl) mv_X4_finds ml_X4_68 0 rfl rfl rfl (kRm_ok (by decide) (by decide)) rfl rfl (Nat.le_of_ble_eq_true rfl) dX4_sheet_57 ?_
            have hsp : sp_sheet (m, k, kf, tp, tl, sb, sz, nu, ct) (nI px) (nI 8) (nI pz) = (kFi 0, (m, k, kf, tp, tl, sb, sz, nu, kTe ct 0)) := by simp [sp_sheet, sp_tell, nI_l0, nI_l8, nI_l16, nI_l64, c4, c8, nI_nlt0 hpz, nI_is40 c51 hpz]
            exact k_eqw (ws2 := modA g b (sp_sheet (m, k, kf, tp, tl, sb, sz, nu, ct) (nI px) (nI 8) (nI pz)).2 (fj, mj, fr, to, va, iw, jk, th, ai, ot, mo)) (by rw [hsp]; rfl) (hR _ _ _ (fj, mj, fr, to, va, iw, jk, th, ai, ot, mo) dX4_sheet_60 (by rw [hsp]))
        · refine k_aload_n hJ dX4_sheet_40 0 rfl ?_
          refine k_ldcw hJ dX4_sheet_41 cw_X4_285 ?_
          refine k_eqs (st2 := [.int (kFi 6), .ref (b 0)]) (by rw [kFi_c6]) ?_
          refine c_VI (As := [.int (kFi 6)]) (st := []) hJ (ct_X4_finds l g b (mE kf fj mj tl fr to va iw) m th ai ct (fun i => nI ((if kf then k else jk) i)) ot tp sb sz nu mo 6 (by decide)) (Fr.all rfl) mv_X4_finds ml_X4_68 0 rfl rfl rfl (kRm_ok (by decide) (by decide)) rfl rfl (Nat.le_of_ble_eq_true rfl) dX4_sheet_44 ?_
          have hsp : sp_sheet (m, k, kf, tp, tl, sb, sz, nu, ct) (nI px) (nI 8) z = (kFi 6, (m, k, kf, tp, tl, sb, sz, nu, kTe ct 6)) := by simp [sp_sheet, sp_tell, nI_l0, nI_l8, nI_l16, nI_l64, c4, c8, c37]
          exact k_eqw (ws2 := modA g b (sp_sheet (m, k, kf, tp, tl, sb, sz, nu, ct) (nI px) (nI 8) z).2 (fj, mj, fr, to, va, iw, jk, th, ai, ot, mo)) (by rw [hsp]; rfl) (hR _ _ _ (fj, mj, fr, to, va, iw, jk, th, ai, ot, mo) dX4_sheet_47 (by rw [hsp]))
      · refine k_iload_n hJ dX4_sheet_17 2 rfl ?_
        refine k_bipush (v := nI 16) hJ dX4_sheet_18 (by decide) ?_
        refine k_icmp_eq (tgt := 36) hJ dX4_sheet_20 (by decide) (fun (c20 : y = nI 16) => ?_) (fun (c20 : ¬ y = (16 : Int32)) => ?_)
        · subst c20
          refine k_iload_n hJ dX4_sheet_36 3 rfl ?_
          refine k_if_ge (tgt := 48) hJ dX4_sheet_37 (by decide) (fun c37 => ?_) (fun c37 => ?_)
          · obtain ⟨pz, hpz, rfl⟩ := nI_of (Int32.not_lt.mpr c37)
            refine k_iload_n hJ dX4_sheet_48 3 rfl ?_
            refine k_bipush (v := nI 40) hJ dX4_sheet_49 (by decide) ?_
            refine n_icmp_le (tgt := 61) hJ dX4_sheet_51 (by decide) (by omega) (by omega) (fun c51 => ?_) (fun c51 => ?_)
            · have hz40 : pz ≤ 40 := by omega
              refine k_aload_n hJ dX4_sheet_61 0 rfl ?_
              refine gf_X4_31 (v := .ref (b 8)) hJ 0 rfl rfl dX4_sheet_62 ?_
              refine k_iload_n hJ dX4_sheet_65 1 rfl ?_
              refine k_iload_n hJ dX4_sheet_66 2 rfl ?_
              refine k_iast (ws2 := modW g b (mE kf fj mj tl fr to va iw) m th ai ct (fun i => nI ((if kf then k else jk) i)) ot tp (vUp sb px 16) sz nu mo) hJ 8 rfl px (by omega) (by decide) (mw_sb (v := 16)) dX4_sheet_67 ?_
              refine k_aload_n hJ dX4_sheet_68 0 rfl ?_
              refine gf_X4_34 (v := .ref (b 9)) hJ 0 rfl rfl dX4_sheet_69 ?_
              refine k_iload_n hJ dX4_sheet_72 1 rfl ?_
              refine k_iload_n hJ dX4_sheet_73 2 rfl ?_
              refine n_if_ne (tgt := 81) hJ dX4_sheet_74 (by decide) (by omega) (fun c74 => ?_) (fun c74 => ?_)
              · refine k_iload_n hJ dX4_sheet_81 3 rfl ?_
                refine k_iast (ws2 := modW g b (mE kf fj mj tl fr to va iw) m th ai ct (fun i => nI ((if kf then k else jk) i)) ot tp (vUp sb px 16) (vUp sz px pz) nu mo) hJ 9 rfl px (by omega) (by decide) (mw_sz (v := pz)) dX4_sheet_82 ?_
                refine k_iconst (v := nI 0) hJ dX4_sheet_83 (by decide) ?_
                refine k_istore (lv1 := [(0, .ref (b 0)), (1, .int (nI px)), (2, .int (nI 16)), (3, .int (nI pz)), (4, .int (nI 0))]) hJ dX4_sheet_84 (by decide) [1, 2, 3, 4, 0] rfl ?_
                have L86 : ∀ (fu : Nat) (i : Nat) (Nu : Nat → Nat → Int64), (i ≤ 40) → (41 ≤ i + fu) → ((∀ a c, a ≠ px → Nu a c = nu a c) ∧ ∀ c, c < i → Nu px c = 0) → J (modW g b (mE kf fj mj tl fr to va iw) m th ai ct (fun i => nI ((if kf then k else jk) i)) ot tp (vUp sb px 16) (vUp sz px pz) Nu mo) [(0, .ref (b 0)), (1, .int (nI px)), (2, .int (nI 16)), (3, .int (nI pz)), (4, .int (nI i))] 86 [] := by
                  intro fu
                  induction fu with
                  | zero => intro i Nu hi hf hN; exfalso; omega
                  | succ fu ih =>
                    intro i Nu hi hf hN
                    refine k_iload hJ dX4_sheet_86 4 rfl ?_
                    refine k_bipush (v := nI 40) hJ dX4_sheet_88 (by decide) ?_
                    refine n_icmp_ge (tgt := 112) hJ dX4_sheet_90 (by decide) (by omega) (by omega) (fun c90 => ?_) (fun c90 => ?_)
                    · refine k_aload_n hJ dX4_sheet_112 0 rfl ?_
                      refine gf_X4_34 (v := .ref (b 9)) hJ 0 rfl rfl dX4_sheet_113 ?_
                      refine k_iload_n hJ dX4_sheet_116 1 rfl ?_
                      refine k_iald hJ 9 rfl px (by omega) (by decide) rfl dX4_sheet_117 ?_
                      refine k_ws (ws2 := modW g b (mE kf fj mj tl fr to va iw) m th ai ct (fun i => nI ((if kf then k else jk) i)) ot tp (vUp sb px 16) (vUp sz px pz) (fun s i => if s = px then 0 else nu s i) mo) hJ (fun H hP => mw_nuc (fun a c ha hc => by by_cases q : a = px; subst q; rw [if_pos rfl]; exact (hN.2 c (by omega)).symm; rw [if_neg q]; exact (hN.1 a c q).symm) hP) rfl ?_
                      have hz : (vUp sz px (pz)) px = pz := vUp_s _ _ _
                      refine k_eqs (st2 := [.int (nI pz)]) (by rw [hz]) ?_
                      have hsp : sp_sheet (m, k, kf, tp, tl, sb, sz, nu, ct) (nI px) (nI 16) (nI pz) = (nI pz, (m, k, kf, tp, tl, vUp sb px 16, vUp sz px pz, fun s i => if s = px then 0 else nu s i, ct)) := by simp [sp_sheet, c4, tN_l0, nI_clamp (show px < 2 ^ 31 by omega), nI_clamp (show pz < 2 ^ 31 by omega), nI_nlt0 (show pz < 2 ^ 31 by omega), nI_gt40 (show pz ≤ 40 by omega), tN_l8, tN_l16, tN_l64, nI_l8, nI_l16, nI_l64, nI_l0]
                      exact k_eqw (ws2 := modA g b (sp_sheet (m, k, kf, tp, tl, sb, sz, nu, ct) (nI px) (nI 16) (nI pz)).2 (fj, mj, fr, to, va, iw, jk, th, ai, ot, mo)) (by rw [hsp]; rfl) (hR _ _ _ (fj, mj, fr, to, va, iw, jk, th, ai, ot, mo) dX4_sheet_118 (by rw [hsp]))
                    · refine k_aload_n hJ dX4_sheet_93 0 rfl ?_
                      refine gf_X4_37 (v := .ref (b 10)) hJ 0 rfl rfl dX4_sheet_94 ?_
                      refine k_bipush (v := nI 40) hJ dX4_sheet_97 (by decide) ?_
                      refine k_iload_n hJ dX4_sheet_99 1 rfl ?_
                      refine n_imul hJ dX4_sheet_100 ?_
                      refine k_iload hJ dX4_sheet_101 4 rfl ?_
                      refine n_iadd hJ dX4_sheet_103 ?_
                      refine k_lconst (v := 0) hJ dX4_sheet_104 (by decide) ?_
                      refine k_last (ws2 := modW g b (mE kf fj mj tl fr to va iw) m th ai ct (fun i => nI ((if kf then k else jk) i)) ot tp (vUp sb px 16) (vUp sz px pz) (vN Nu px i 0) mo) hJ 10 rfl ((40 * px) + i) (by omega) (by decide) (mw_nu (show (40 * px) + i = 40 * px + i by omega) (by omega)) dX4_sheet_105 ?_
                      refine n_iinc (b := 1) (lv1 := [(0, .ref (b 0)), (1, .int (nI px)), (2, .int (nI 16)), (3, .int (nI pz)), (4, .int (nI (i + 1)))]) hJ dX4_sheet_106 4 rfl (by decide) (by decide) [1, 2, 3, 4, 0] rfl ?_
                      refine k_goto (tgt := 86) hJ dX4_sheet_109 (by decide) ?_
                      refine ih (i + 1) _ (by omega) (by omega) ⟨fun a c ha => ?_, fun c hc => ?_⟩
                      · show (if a = px ∧ c = i then _ else _) = _; rw [if_neg (fun q => ha q.1)]; exact hN.1 a c ha
                      · show (if px = px ∧ c = i then _ else _) = _; by_cases q : c = i; rw [if_pos ⟨rfl, q⟩]; rw [if_neg (fun x => q x.2)]; exact hN.2 c (by omega)
                exact L86 41 0 nu (by omega) (by omega) ⟨fun _ _ _ => rfl, fun c hc => absurd hc (by omega)⟩
              · exact absurd c74 (by decide)
            · refine k_aload_n hJ dX4_sheet_54 0 rfl ?_
              refine k_ldc hJ dX4_sheet_55 cw_X4_44 ?_
              refine k_eqs (st2 := [.int (kFi 0), .ref (b 0)]) (by rw [kFi_c0]) ?_
              refine c_VI (As := [.int (kFi 0)]) (st := []) hJ (ct_X4_finds l g b (mE kf fj mj tl fr to va iw) m th ai ct (fun i => nI ((if kf then k else jk) i)) ot tp sb sz nu mo 0 (by decide)) (Fr.all rfl) mv_X4_finds ml_X4_68 0 rfl rfl rfl (kRm_ok (by decide) (by decide)) rfl rfl (Nat.le_of_ble_eq_true rfl) dX4_sheet_57 ?_
              have hsp : sp_sheet (m, k, kf, tp, tl, sb, sz, nu, ct) (nI px) (nI 16) (nI pz) = (kFi 0, (m, k, kf, tp, tl, sb, sz, nu, kTe ct 0)) := by simp [sp_sheet, sp_tell, nI_l0, nI_l8, nI_l16, nI_l64, c4, c8, c14, nI_nlt0 hpz, nI_is40 c51 hpz]
              exact k_eqw (ws2 := modA g b (sp_sheet (m, k, kf, tp, tl, sb, sz, nu, ct) (nI px) (nI 16) (nI pz)).2 (fj, mj, fr, to, va, iw, jk, th, ai, ot, mo)) (by rw [hsp]; rfl) (hR _ _ _ (fj, mj, fr, to, va, iw, jk, th, ai, ot, mo) dX4_sheet_60 (by rw [hsp]))
          · refine k_aload_n hJ dX4_sheet_40 0 rfl ?_
            refine k_ldcw hJ dX4_sheet_41 cw_X4_285 ?_
            refine k_eqs (st2 := [.int (kFi 6), .ref (b 0)]) (by rw [kFi_c6]) ?_
            refine c_VI (As := [.int (kFi 6)]) (st := []) hJ (ct_X4_finds l g b (mE kf fj mj tl fr to va iw) m th ai ct (fun i => nI ((if kf then k else jk) i)) ot tp sb sz nu mo 6 (by decide)) (Fr.all rfl) mv_X4_finds ml_X4_68 0 rfl rfl rfl (kRm_ok (by decide) (by decide)) rfl rfl (Nat.le_of_ble_eq_true rfl) dX4_sheet_44 ?_
            have hsp : sp_sheet (m, k, kf, tp, tl, sb, sz, nu, ct) (nI px) (nI 16) z = (kFi 6, (m, k, kf, tp, tl, sb, sz, nu, kTe ct 6)) := by simp [sp_sheet, sp_tell, nI_l0, nI_l8, nI_l16, nI_l64, c4, c8, c14, c37]
            exact k_eqw (ws2 := modA g b (sp_sheet (m, k, kf, tp, tl, sb, sz, nu, ct) (nI px) (nI 16) z).2 (fj, mj, fr, to, va, iw, jk, th, ai, ot, mo)) (by rw [hsp]; rfl) (hR _ _ _ (fj, mj, fr, to, va, iw, jk, th, ai, ot, mo) dX4_sheet_47 (by rw [hsp]))
        · refine k_iload_n hJ dX4_sheet_23 2 rfl ?_
          refine k_bipush (v := nI 64) hJ dX4_sheet_24 (by decide) ?_
          refine k_icmp_eq (tgt := 36) hJ dX4_sheet_26 (by decide) (fun (c26 : y = nI 64) => ?_) (fun (c26 : ¬ y = (64 : Int32)) => ?_)
          · subst c26
            refine k_iload_n hJ dX4_sheet_36 3 rfl ?_
            refine k_if_ge (tgt := 48) hJ dX4_sheet_37 (by decide) (fun c37 => ?_) (fun c37 => ?_)
            · obtain ⟨pz, hpz, rfl⟩ := nI_of (Int32.not_lt.mpr c37)
              refine k_iload_n hJ dX4_sheet_48 3 rfl ?_
              refine k_bipush (v := nI 40) hJ dX4_sheet_49 (by decide) ?_
              refine n_icmp_le (tgt := 61) hJ dX4_sheet_51 (by decide) (by omega) (by omega) (fun c51 => ?_) (fun c51 => ?_)
              · have hz40 : pz ≤ 40 := by omega
                refine k_aload_n hJ dX4_sheet_61 0 rfl ?_
                refine gf_X4_31 (v := .ref (b 8)) hJ 0 rfl rfl dX4_sheet_62 ?_
                refine k_iload_n hJ dX4_sheet_65 1 rfl ?_
                refine k_iload_n hJ dX4_sheet_66 2 rfl ?_
                refine k_iast (ws2 := modW g b (mE kf fj mj tl fr to va iw) m th ai ct (fun i => nI ((if kf then k else jk) i)) ot tp (vUp sb px 64) sz nu mo) hJ 8 rfl px (by omega) (by decide) (mw_sb (v := 64)) dX4_sheet_67 ?_
                refine k_aload_n hJ dX4_sheet_68 0 rfl ?_
                refine gf_X4_34 (v := .ref (b 9)) hJ 0 rfl rfl dX4_sheet_69 ?_
                refine k_iload_n hJ dX4_sheet_72 1 rfl ?_
                refine k_iload_n hJ dX4_sheet_73 2 rfl ?_
                refine n_if_ne (tgt := 81) hJ dX4_sheet_74 (by decide) (by omega) (fun c74 => ?_) (fun c74 => ?_)
                · refine k_iload_n hJ dX4_sheet_81 3 rfl ?_
                  refine k_iast (ws2 := modW g b (mE kf fj mj tl fr to va iw) m th ai ct (fun i => nI ((if kf then k else jk) i)) ot tp (vUp sb px 64) (vUp sz px pz) nu mo) hJ 9 rfl px (by omega) (by decide) (mw_sz (v := pz)) dX4_sheet_82 ?_
                  refine k_iconst (v := nI 0) hJ dX4_sheet_83 (by decide) ?_
                  refine k_istore (lv1 := [(0, .ref (b 0)), (1, .int (nI px)), (2, .int (nI 64)), (3, .int (nI pz)), (4, .int (nI 0))]) hJ dX4_sheet_84 (by decide) [1, 2, 3, 4, 0] rfl ?_
                  have L86 : ∀ (fu : Nat) (i : Nat) (Nu : Nat → Nat → Int64), (i ≤ 40) → (41 ≤ i + fu) → ((∀ a c, a ≠ px → Nu a c = nu a c) ∧ ∀ c, c < i → Nu px c = 0) → J (modW g b (mE kf fj mj tl fr to va iw) m th ai ct (fun i => nI ((if kf then k else jk) i)) ot tp (vUp sb px 64) (vUp sz px pz) Nu mo) [(0, .ref (b 0)), (1, .int (nI px)), (2, .int (nI 64)), (3, .int (nI pz)), (4, .int (nI i))] 86 [] := by
                    intro fu
                    induction fu with
                    | zero => intro i Nu hi hf hN; exfalso; omega
                    | succ fu ih =>
                      intro i Nu hi hf hN
                      refine k_iload hJ dX4_sheet_86 4 rfl ?_
                      refine k_bipush (v := nI 40) hJ dX4_sheet_88 (by decide) ?_
                      refine n_icmp_ge (tgt := 112) hJ dX4_sheet_90 (by decide) (by omega) (by omega) (fun c90 => ?_) (fun c90 => ?_)
                      · refine k_aload_n hJ dX4_sheet_112 0 rfl ?_
                        refine gf_X4_34 (v := .ref (b 9)) hJ 0 rfl rfl dX4_sheet_113 ?_
                        refine k_iload_n hJ dX4_sheet_116 1 rfl ?_
                        refine k_iald hJ 9 rfl px (by omega) (by decide) rfl dX4_sheet_117 ?_
                        refine k_ws (ws2 := modW g b (mE kf fj mj tl fr to va iw) m th ai ct (fun i => nI ((if kf then k else jk) i)) ot tp (vUp sb px 64) (vUp sz px pz) (fun s i => if s = px then 0 else nu s i) mo) hJ (fun H hP => mw_nuc (fun a c ha hc => by by_cases q : a = px; subst q; rw [if_pos rfl]; exact (hN.2 c (by omega)).symm; rw [if_neg q]; exact (hN.1 a c q).symm) hP) rfl ?_
                        have hz : (vUp sz px (pz)) px = pz := vUp_s _ _ _
                        refine k_eqs (st2 := [.int (nI pz)]) (by rw [hz]) ?_
                        have hsp : sp_sheet (m, k, kf, tp, tl, sb, sz, nu, ct) (nI px) (nI 64) (nI pz) = (nI pz, (m, k, kf, tp, tl, vUp sb px 64, vUp sz px pz, fun s i => if s = px then 0 else nu s i, ct)) := by simp [sp_sheet, c4, tN_l0, nI_clamp (show px < 2 ^ 31 by omega), nI_clamp (show pz < 2 ^ 31 by omega), nI_nlt0 (show pz < 2 ^ 31 by omega), nI_gt40 (show pz ≤ 40 by omega), tN_l8, tN_l16, tN_l64, nI_l8, nI_l16, nI_l64, nI_l0]
                        exact k_eqw (ws2 := modA g b (sp_sheet (m, k, kf, tp, tl, sb, sz, nu, ct) (nI px) (nI 64) (nI pz)).2 (fj, mj, fr, to, va, iw, jk, th, ai, ot, mo)) (by rw [hsp]; rfl) (hR _ _ _ (fj, mj, fr, to, va, iw, jk, th, ai, ot, mo) dX4_sheet_118 (by rw [hsp]))
                      · refine k_aload_n hJ dX4_sheet_93 0 rfl ?_
                        refine gf_X4_37 (v := .ref (b 10)) hJ 0 rfl rfl dX4_sheet_94 ?_
                        refine k_bipush (v := nI 40) hJ dX4_sheet_97 (by decide) ?_
                        refine k_iload_n hJ dX4_sheet_99 1 rfl ?_
                        refine n_imul hJ dX4_sheet_100 ?_
                        refine k_iload hJ dX4_sheet_101 4 rfl ?_
                        refine n_iadd hJ dX4_sheet_103 ?_
                        refine k_lconst (v := 0) hJ dX4_sheet_104 (by decide) ?_
                        refine k_last (ws2 := modW g b (mE kf fj mj tl fr to va iw) m th ai ct (fun i => nI ((if kf then k else jk) i)) ot tp (vUp sb px 64) (vUp sz px pz) (vN Nu px i 0) mo) hJ 10 rfl ((40 * px) + i) (by omega) (by decide) (mw_nu (show (40 * px) + i = 40 * px + i by omega) (by omega)) dX4_sheet_105 ?_
                        refine n_iinc (b := 1) (lv1 := [(0, .ref (b 0)), (1, .int (nI px)), (2, .int (nI 64)), (3, .int (nI pz)), (4, .int (nI (i + 1)))]) hJ dX4_sheet_106 4 rfl (by decide) (by decide) [1, 2, 3, 4, 0] rfl ?_
                        refine k_goto (tgt := 86) hJ dX4_sheet_109 (by decide) ?_
                        refine ih (i + 1) _ (by omega) (by omega) ⟨fun a c ha => ?_, fun c hc => ?_⟩
                        · show (if a = px ∧ c = i then _ else _) = _; rw [if_neg (fun q => ha q.1)]; exact hN.1 a c ha
                        · show (if px = px ∧ c = i then _ else _) = _; by_cases q : c = i; rw [if_pos ⟨rfl, q⟩]; rw [if_neg (fun x => q x.2)]; exact hN.2 c (by omega)
                  exact L86 41 0 nu (by omega) (by omega) ⟨fun _ _ _ => rfl, fun c hc => absurd hc (by omega)⟩
                · exact absurd c74 (by decide)
              · refine k_aload_n hJ dX4_sheet_54 0 rfl ?_
                refine k_ldc hJ dX4_sheet_55 cw_X4_44 ?_
                refine k_eqs (st2 := [.int (kFi 0), .ref (b 0)]) (by rw [kFi_c0]) ?_
                refine c_VI (As := [.int (kFi 0)]) (st := []) hJ (ct_X4_finds l g b (mE kf fj mj tl fr to va iw) m th ai ct (fun i => nI ((if kf then k else jk) i)) ot tp sb sz nu mo 0 (by decide)) (Fr.all rfl) mv_X4_finds ml_X4_68 0 rfl rfl rfl (kRm_ok (by decide) (by decide)) rfl rfl (Nat.le_of_ble_eq_true rfl) dX4_sheet_57 ?_
                have hsp : sp_sheet (m, k, kf, tp, tl, sb, sz, nu, ct) (nI px) (nI 64) (nI pz) = (kFi 0, (m, k, kf, tp, tl, sb, sz, nu, kTe ct 0)) := by simp [sp_sheet, sp_tell, nI_l0, nI_l8, nI_l16, nI_l64, c4, c8, c14, c20, nI_nlt0 hpz, nI_is40 c51 hpz]
                exact k_eqw (ws2 := modA g b (sp_sheet (m, k, kf, tp, tl, sb, sz, nu, ct) (nI px) (nI 64) (nI pz)).2 (fj, mj, fr, to, va, iw, jk, th, ai, ot, mo)) (by rw [hsp]; rfl) (hR _ _ _ (fj, mj, fr, to, va, iw, jk, th, ai, ot, mo) dX4_sheet_60 (by rw [hsp]))
            · refine k_aload_n hJ dX4_sheet_40 0 rfl ?_
              refine k_ldcw hJ dX4_sheet_41 cw_X4_285 ?_
              refine k_eqs (st2 := [.int (kFi 6), .ref (b 0)]) (by rw [kFi_c6]) ?_
              refine c_VI (As := [.int (kFi 6)]) (st := []) hJ (ct_X4_finds l g b (mE kf fj mj tl fr to va iw) m th ai ct (fun i => nI ((if kf then k else jk) i)) ot tp sb sz nu mo 6 (by decide)) (Fr.all rfl) mv_X4_finds ml_X4_68 0 rfl rfl rfl (kRm_ok (by decide) (by decide)) rfl rfl (Nat.le_of_ble_eq_true rfl) dX4_sheet_44 ?_
              have hsp : sp_sheet (m, k, kf, tp, tl, sb, sz, nu, ct) (nI px) (nI 64) z = (kFi 6, (m, k, kf, tp, tl, sb, sz, nu, kTe ct 6)) := by simp [sp_sheet, sp_tell, nI_l0, nI_l8, nI_l16, nI_l64, c4, c8, c14, c20, c37]
              exact k_eqw (ws2 := modA g b (sp_sheet (m, k, kf, tp, tl, sb, sz, nu, ct) (nI px) (nI 64) z).2 (fj, mj, fr, to, va, iw, jk, th, ai, ot, mo)) (by rw [hsp]; rfl) (hR _ _ _ (fj, mj, fr, to, va, iw, jk, th, ai, ot, mo) dX4_sheet_47 (by rw [hsp]))
          · refine k_aload_n hJ dX4_sheet_29 0 rfl ?_
            refine k_ldc hJ dX4_sheet_30 cw_X4_44 ?_
            refine k_eqs (st2 := [.int (kFi 0), .ref (b 0)]) (by rw [kFi_c0]) ?_
            refine c_VI (As := [.int (kFi 0)]) (st := []) hJ (ct_X4_finds l g b (mE kf fj mj tl fr to va iw) m th ai ct (fun i => nI ((if kf then k else jk) i)) ot tp sb sz nu mo 0 (by decide)) (Fr.all rfl) mv_X4_finds ml_X4_68 0 rfl rfl rfl (kRm_ok (by decide) (by decide)) rfl rfl (Nat.le_of_ble_eq_true rfl) dX4_sheet_32 ?_
            have hsp : sp_sheet (m, k, kf, tp, tl, sb, sz, nu, ct) (nI px) y z = (kFi 0, (m, k, kf, tp, tl, sb, sz, nu, kTe ct 0)) := by simp [sp_sheet, sp_tell, nI_l0, nI_l8, nI_l16, nI_l64, c4, c8, c14, c20, c26]
            exact k_eqw (ws2 := modA g b (sp_sheet (m, k, kf, tp, tl, sb, sz, nu, ct) (nI px) y z).2 (fj, mj, fr, to, va, iw, jk, th, ai, ot, mo)) (by rw [hsp]; rfl) (hR _ _ _ (fj, mj, fr, to, va, iw, jk, th, ai, ot, mo) dX4_sheet_35 (by rw [hsp]))
def kWr (o : Option Nat) : Int32 := match o with
  | none => nI 0
  | some i => kFi i
theorem kWr_0 : ∀ i, i < 7 → ¬ kFi i = 0 := by decide +kernel
set_option maxHeartbeats 4000000 in
set_option maxRecDepth 100000 in
theorem ct_X4_wrongSheet (l : Launch) (g : KG) (b : Nat → Nat) (e : Nat → Int32) (m : Nat → Nat) (th ai ct ks ot : Nat → Int32) (tp sb sz : Nat → Nat) (nu : Nat → Nat → Int64) (mo : Nat → Int64) (x : Int32)  (hb : ∀ s, s < 4 → sb s < 2 ^ 31) : CI l yX4_wrongSheet cX4_wrongSheet 2 (some .int) (rmK 2) g [.ref (b 0), .int x] (modW g b e m th ai ct ks ot tp sb sz nu mo) (kWr (vWr sb x)) (modW g b e m th ai ct ks ot tp sb sz nu mo) := by
  refine k_bodyI (by decide) (Nat.le_of_ble_eq_true rfl) (fun _ _ _ => rfl) (fun J hJ hR => ?_)
  show J (modW g b e m th ai ct ks ot tp sb sz nu mo) [(0, .ref (b 0)), (1, .int x)] 0 []
  refine k_iload_n hJ dX4_wrongSheet_0 1 rfl ?_
  refine c_SI (As := [.int x]) (st := []) hJ (ct_X4_isOne l g x ) Fr.none ms_X4_isOne ml_X4_282 (kRm_ok (by decide) (by decide)) rfl rfl (Nat.le_of_ble_eq_true rfl) dX4_wrongSheet_1 ?_
  refine b_if_ne (tgt := 12) hJ dX4_wrongSheet_4 (by decide) (fun c4 => ?_) (fun c4 => ?_)
  · obtain ⟨px, hpx, rfl⟩ := vIn_of (by omega) c4
    refine k_aload_n hJ dX4_wrongSheet_12 0 rfl ?_
    refine gf_X4_31 hJ 0 rfl rfl dX4_wrongSheet_13 ?_
    refine k_iload_n hJ dX4_wrongSheet_16 1 rfl ?_
    refine k_iald hJ 8 rfl px (by omega) (by decide) rfl dX4_wrongSheet_17 ?_
    refine n_if_ne (tgt := 27) hJ dX4_wrongSheet_18 (by decide) (hb px (by omega)) (fun c18 => ?_) (fun c18 => ?_)
    · refine k_iconst (v := nI 0) hJ dX4_wrongSheet_27 (by decide) ?_
      exact hR _ _ _ () dX4_wrongSheet_28 (by unfold vWr; rw [if_pos c4, tN_nI (by omega), if_neg c18]; rfl)
    · refine k_ldcw hJ dX4_wrongSheet_21 cw_X4_286 ?_
      refine k_eqs (st2 := [.int (kFi 5)]) (by rw [kFi_c5]) ?_
      refine k_goto (tgt := 28) hJ dX4_wrongSheet_24 (by decide) ?_
      exact hR _ _ _ () dX4_wrongSheet_28 (by unfold vWr; rw [if_pos c4, tN_nI (by omega), if_pos c18]; rfl)
  · refine k_ldc hJ dX4_wrongSheet_7 cw_X4_44 ?_
    refine k_eqs (st2 := [.int (kFi 0)]) (by rw [kFi_c0]) ?_
    refine k_goto (tgt := 28) hJ dX4_wrongSheet_9 (by decide) ?_
    exact hR _ _ _ () dX4_wrongSheet_28 (by unfold vWr; rw [if_neg (by rw [c4]; decide)]; rfl)
theorem vWr_lt {sb : Nat → Nat} {x : Int32} {i : Nat} (h : vWr sb x = some i) : i < 7 := by
  unfold vWr at h
  split at h
  · split at h
    · cases h; omega
    · cases h
  · cases h; omega
theorem vWr_ok {sb : Nat → Nat} {x : Int32} (h : vWr sb x = none) : ∃ p, p < 4 ∧ x = nI p ∧ vIn x 4 = true ∧ sb p ≠ 0 := by
  unfold vWr at h
  split at h
  · rename_i c
    split at h
    · cases h
    · rename_i c2
      obtain ⟨p, hp, rfl⟩ := vIn_of (by decide) c
      rw [tN_nI (by omega)] at c2
      exact ⟨p, hp, rfl, c, c2⟩
  · cases h
set_option maxHeartbeats 4000000 in
set_option maxRecDepth 100000 in
theorem mp_write (l : Launch) (g : KG) (b : Nat → Nat) (j : MJ) (s : KS) (hs : kOk s) (x : Int32) (y : Int32) (z : Int64) : CT l yX4_write cX4_write 8 (some .long) (rmK 3) g [.ref (b 0), .int x, .int y, .long z] (modA g b s j) (S := MJ) oL (fun r _ => r = (sp_write s x y z).1) (fun j => modA g b (sp_write s x y z).2 j) := by
  obtain ⟨m, k, kf, tp, tl, sb, sz, nu, ct⟩ := s
  obtain ⟨fj, mj, fr, to, va, iw, jk, th, ai, ot, mo⟩ := j
  obtain ⟨hm, hk, htl, htp, hsh⟩ := hs
  have h0 : m 0 ≤ 8 := hm.1
  have h1 : m 1 ≤ 9999 := hm.2.1
  have h2 : m 2 ≤ 4 := hm.2.2.1
  have h3 : m 3 ≤ 99 := hm.2.2.2.2.1
  have hB : 9999 < 2 ^ 30 := by decide
  refine k_bodyL (by decide) (Nat.le_of_ble_eq_true rfl) (fun J hJ hR => ?_)
  have hsb := fun s (h : s < 4) => (hsh s h).1
  have hsz := fun s (h : s < 4) => (hsh s h).2
  show J (modW g b (mE kf fj mj tl fr to va iw) m th ai ct (fun i => nI ((if kf then k else jk) i)) ot tp sb sz nu mo) [(0, .ref (b 0)), (1, .int x), (2, .int y), (3, .long z)] 0 []
  refine k_aload_n hJ dX4_write_0 0 rfl ?_
  refine k_iload_n hJ dX4_write_1 1 rfl ?_
  refine c_VI (As := [.int x]) (st := []) hJ (ct_X4_wrongSheet l g b (mE kf fj mj tl fr to va iw) m th ai ct (fun i => nI ((if kf then k else jk) i)) ot tp sb sz nu mo x (fun s h => by have := hsb s h; omega)) (Fr.all rfl) mv_X4_wrongSheet ml_X4_287 0 rfl rfl rfl (kRm_ok (by decide) (by decide)) rfl rfl (Nat.le_of_ble_eq_true rfl) dX4_write_2 ?_
  refine k_istore (lv1 := [(0, .ref (b 0)), (1, .int x), (2, .int y), (3, .long z), (5, .int (kWr (vWr sb x)))]) hJ dX4_write_5 (by decide) [1, 2, 3, 4, 0] rfl ?_
  rcases hW : vWr sb x with _ | wi
  · show J (modW g b (mE kf fj mj tl fr to va iw) m th ai ct (fun i => nI ((if kf then k else jk) i)) ot tp sb sz nu mo) [(0, .ref (b 0)), (1, .int x), (2, .int y), (3, .long z), (5, .int (nI 0))] 7 []
    obtain ⟨px, hpx, rfl, hv4, hb0⟩ := vWr_ok hW
    have hzx := hsz px hpx
    have hbx := hsb px hpx
    refine k_iload hJ dX4_write_7 4 rfl ?_
    refine n_if_eq (tgt := 20) hJ dX4_write_9 (by decide) (by omega) (fun c9 => ?_) (fun c9 => ?_)
    · refine k_iload_n hJ dX4_write_20 2 rfl ?_
      refine k_i2l hJ dX4_write_21 rfl ?_
      refine k_lconst (v := 0) hJ dX4_write_22 (by decide) ?_
      refine k_aload_n hJ dX4_write_23 0 rfl ?_
      refine gf_X4_34 (v := .ref (b 9)) hJ 0 rfl rfl dX4_write_24 ?_
      refine k_iload_n hJ dX4_write_27 1 rfl ?_
      refine k_iald hJ 9 rfl px (by omega) (by decide) rfl dX4_write_28 ?_
      refine k_iconst (v := nI 1) hJ dX4_write_29 (by decide) ?_
      refine k_isub hJ dX4_write_30 ?_
      refine k_i2l hJ dX4_write_31 rfl ?_
      refine c_SI (As := [.long y.toInt64, .long 0, .long (((nI (sz px)) - (nI 1)).toInt64)]) (st := []) hJ (ct_X4_in l g y.toInt64 0 (((nI (sz px)) - (nI 1)).toInt64)) Fr.none ms_X4_in ml_X4_47 (kRm_ok (by decide) (by decide)) rfl rfl (Nat.le_of_ble_eq_true rfl) dX4_write_32 ?_
      refine k_eqs (st2 := [.int (kb (vIn y (sz px)))]) (by rw [vInL_pp (by omega)]) ?_
      refine b_if_ne (tgt := 46) hJ dX4_write_35 (by decide) (fun c35 => ?_) (fun c35 => ?_)
      · obtain ⟨py, hpy, rfl⟩ := vIn_of (by omega) c35
        refine k_aload_n hJ dX4_write_46 0 rfl ?_
        refine gf_X4_37 (v := .ref (b 10)) hJ 0 rfl rfl dX4_write_47 ?_
        refine k_bipush (v := nI 40) hJ dX4_write_50 (by decide) ?_
        refine k_iload_n hJ dX4_write_52 1 rfl ?_
        refine n_imul hJ dX4_write_53 ?_
        refine k_iload_n hJ dX4_write_54 2 rfl ?_
        refine n_iadd hJ dX4_write_55 ?_
        refine k_lald hJ 10 rfl ((40 * px) + py) (by omega) (by decide) (show nu (((40 * px) + py) / 40) (((40 * px) + py) % 40) = nu px py by rw [show ((40 * px) + py) / 40 = px by omega, show ((40 * px) + py) % 40 = py by omega]) dX4_write_56 ?_
        refine k_lstore (lv1 := [(0, .ref (b 0)), (1, .int (nI px)), (2, .int (nI py)), (3, .long z), (5, .int (nI 0)), (6, .long (nu px py))]) hJ dX4_write_57 (by decide) [1, 2, 3, 4, 5, 0] rfl ?_
        refine k_aload_n hJ dX4_write_59 0 rfl ?_
        refine gf_X4_37 (v := .ref (b 10)) hJ 0 rfl rfl dX4_write_60 ?_
        refine k_bipush (v := nI 40) hJ dX4_write_63 (by decide) ?_
        refine k_iload_n hJ dX4_write_65 1 rfl ?_
        refine n_imul hJ dX4_write_66 ?_
        refine k_iload_n hJ dX4_write_67 2 rfl ?_
        refine n_iadd hJ dX4_write_68 ?_
        refine k_aload_n hJ dX4_write_69 0 rfl ?_
        refine gf_X4_31 (v := .ref (b 8)) hJ 0 rfl rfl dX4_write_70 ?_
        refine k_iload_n hJ dX4_write_73 1 rfl ?_
        refine k_iald hJ 8 rfl px (by omega) (by decide) rfl dX4_write_74 ?_
        refine k_lload_n hJ dX4_write_75 3 rfl ?_
        refine c_SL (As := [.int (nI (sb px)), .long z]) (st := [.int (nI ((40 * px) + py)), .ref (b 10)]) hJ (ct_X4_narrowed l g (sb px) z (by omega)) Fr.none ms_X4_narrowed ml_X4_290 (kRm_ok (by decide) (by decide)) rfl rfl (Nat.le_of_ble_eq_true rfl) dX4_write_76 ?_
        refine k_last (ws2 := modW g b (mE kf fj mj tl fr to va iw) m th ai ct (fun i => nI ((if kf then k else jk) i)) ot tp sb sz (vN nu px py (vNar (sb px) z)) mo) hJ 10 rfl ((40 * px) + py) (by omega) (by decide) (mw_nu (show (40 * px) + py = 40 * px + py by omega) (by omega)) dX4_write_79 ?_
        refine k_lload hJ dX4_write_80 5 rfl ?_
        have hsp : sp_write (m, k, kf, tp, tl, sb, sz, nu, ct) (nI px) (nI py) z = (nu px py, (m, k, kf, tp, tl, sb, sz, vN nu px py (vNar (sb px) z), ct)) := by simp only [sp_write, hW]; rw [tN_nI (show px < 2 ^ 31 by omega), tN_nI (show py < 2 ^ 31 by omega), if_pos c35]; rfl
        exact k_eqw (ws2 := modA g b (sp_write (m, k, kf, tp, tl, sb, sz, nu, ct) (nI px) (nI py) z).2 (fj, mj, fr, to, va, iw, jk, th, ai, ot, mo)) (by rw [hsp]; rfl) (hR _ _ _ (fj, mj, fr, to, va, iw, jk, th, ai, ot, mo) dX4_write_82 (by rw [hsp]))
      · refine k_aload_n hJ dX4_write_38 0 rfl ?_
        refine k_ldc hJ dX4_write_39 cw_X4_44 ?_
        refine k_eqs (st2 := [.int (kFi 0), .ref (b 0)]) (by rw [kFi_c0]) ?_
        refine c_VI (As := [.int (kFi 0)]) (st := []) hJ (ct_X4_finds l g b (mE kf fj mj tl fr to va iw) m th ai ct (fun i => nI ((if kf then k else jk) i)) ot tp sb sz nu mo 0 (by decide)) (Fr.all rfl) mv_X4_finds ml_X4_68 0 rfl rfl rfl (kRm_ok (by decide) (by decide)) rfl rfl (Nat.le_of_ble_eq_true rfl) dX4_write_41 ?_
        refine k_i2l hJ dX4_write_44 rfl ?_
        have hsp : sp_write (m, k, kf, tp, tl, sb, sz, nu, ct) (nI px) y z = ((kFi 0).toInt64, (m, k, kf, tp, tl, sb, sz, nu, kTe ct 0)) := by simp only [sp_write, hW]; rw [tN_nI (show px < 2 ^ 31 by omega), if_neg (by rw [c35]; decide)]; rfl
        exact k_eqw (ws2 := modA g b (sp_write (m, k, kf, tp, tl, sb, sz, nu, ct) (nI px) y z).2 (fj, mj, fr, to, va, iw, jk, th, ai, ot, mo)) (by rw [hsp]; rfl) (hR _ _ _ (fj, mj, fr, to, va, iw, jk, th, ai, ot, mo) dX4_write_45 (by rw [hsp]))
    · exact absurd c9 (by decide)
  · show J (modW g b (mE kf fj mj tl fr to va iw) m th ai ct (fun i => nI ((if kf then k else jk) i)) ot tp sb sz nu mo) [(0, .ref (b 0)), (1, .int x), (2, .int y), (3, .long z), (5, .int (kFi wi))] 7 []
    have hwi : wi < 7 := vWr_lt hW
    refine k_iload hJ dX4_write_7 4 rfl ?_
    refine k_if_eq (tgt := 20) hJ dX4_write_9 (by decide) (fun c9 => ?_) (fun c9 => ?_)
    · exact absurd c9 (kWr_0 wi hwi)
    · refine k_aload_n hJ dX4_write_12 0 rfl ?_
      refine k_iload hJ dX4_write_13 4 rfl ?_
      refine c_VI (As := [.int (kFi wi)]) (st := []) hJ (ct_X4_finds l g b (mE kf fj mj tl fr to va iw) m th ai ct (fun i => nI ((if kf then k else jk) i)) ot tp sb sz nu mo wi hwi) (Fr.all rfl) mv_X4_finds ml_X4_68 0 rfl rfl rfl (kRm_ok (by decide) (by decide)) rfl rfl (Nat.le_of_ble_eq_true rfl) dX4_write_15 ?_
      refine k_i2l hJ dX4_write_18 rfl ?_
      have hsp : sp_write (m, k, kf, tp, tl, sb, sz, nu, ct) x y z = ((kFi wi).toInt64, (m, k, kf, tp, tl, sb, sz, nu, kTe ct wi)) := by simp only [sp_write, hW]; rfl
      exact k_eqw (ws2 := modA g b (sp_write (m, k, kf, tp, tl, sb, sz, nu, ct) x y z).2 (fj, mj, fr, to, va, iw, jk, th, ai, ot, mo)) (by rw [hsp]; rfl) (hR _ _ _ (fj, mj, fr, to, va, iw, jk, th, ai, ot, mo) dX4_write_19 (by rw [hsp]))
set_option maxHeartbeats 4000000 in
set_option maxRecDepth 100000 in
theorem mp_copy (l : Launch) (g : KG) (b : Nat → Nat) (j : MJ) (s : KS) (hs : kOk s) (x : Int32) (y : Int32) (z : Int32) (u : Int32) (v : Int32) : CT l yX4_copy cX4_copy 7 (some .int) (rmK 2) g [.ref (b 0), .int x, .int y, .int z, .int u, .int v] (modA g b s j) (S := MJ) oI (fun r _ => r = (sp_copy s x y z u v).1) (fun j => modA g b (sp_copy s x y z u v).2 j) := by
  obtain ⟨m, k, kf, tp, tl, sb, sz, nu, ct⟩ := s
  obtain ⟨fj, mj, fr, to, va, iw, jk, th, ai, ot, mo⟩ := j
  obtain ⟨hm, hk, htl, htp, hsh⟩ := hs
  have h0 : m 0 ≤ 8 := hm.1
  have h1 : m 1 ≤ 9999 := hm.2.1
  have h2 : m 2 ≤ 4 := hm.2.2.1
  have h3 : m 3 ≤ 99 := hm.2.2.2.2.1
  have hB : 9999 < 2 ^ 30 := by decide
  refine k_bodyI (by decide) (Nat.le_of_ble_eq_true rfl) (fun _ _ _ => rfl) (fun J hJ hR => ?_)
  have hsb := fun s (h : s < 4) => (hsh s h).1
  have hsz := fun s (h : s < 4) => (hsh s h).2
  show J (modW g b (mE kf fj mj tl fr to va iw) m th ai ct (fun i => nI ((if kf then k else jk) i)) ot tp sb sz nu mo) [(0, .ref (b 0)), (1, .int x), (2, .int y), (3, .int z), (4, .int u), (5, .int v)] 0 []
  refine k_iload_n hJ dX4_copy_0 1 rfl ?_
  refine c_SI (As := [.int x]) (st := []) hJ (ct_X4_isOne l g x ) Fr.none ms_X4_isOne ml_X4_282 (kRm_ok (by decide) (by decide)) rfl rfl (Nat.le_of_ble_eq_true rfl) dX4_copy_1 ?_
  refine b_if_eq (tgt := 14) hJ dX4_copy_4 (by decide) (fun c4 => ?_) (fun c4 => ?_)
  · refine k_aload_n hJ dX4_copy_14 0 rfl ?_
    refine k_ldc hJ dX4_copy_15 cw_X4_44 ?_
    refine k_eqs (st2 := [.int (kFi 0), .ref (b 0)]) (by rw [kFi_c0]) ?_
    refine c_VI (As := [.int (kFi 0)]) (st := []) hJ (ct_X4_finds l g b (mE kf fj mj tl fr to va iw) m th ai ct (fun i => nI ((if kf then k else jk) i)) ot tp sb sz nu mo 0 (by decide)) (Fr.all rfl) mv_X4_finds ml_X4_68 0 rfl rfl rfl (kRm_ok (by decide) (by decide)) rfl rfl (Nat.le_of_ble_eq_true rfl) dX4_copy_17 ?_
    have hsp : sp_copy (m, k, kf, tp, tl, sb, sz, nu, ct) x y z u v = (kFi 0, (m, k, kf, tp, tl, sb, sz, nu, kTe ct 0)) := by simp only [sp_copy]; rw [if_neg (fun q => by have a := q.1; rw [c4] at a; cases a)]; rfl
    exact k_eqw (ws2 := modA g b (sp_copy (m, k, kf, tp, tl, sb, sz, nu, ct) x y z u v).2 (fj, mj, fr, to, va, iw, jk, th, ai, ot, mo)) (by rw [hsp]; rfl) (hR _ _ _ (fj, mj, fr, to, va, iw, jk, th, ai, ot, mo) dX4_copy_20 (by rw [hsp]))
  · obtain ⟨px, hpx, rfl⟩ := vIn_of (by omega) c4
    refine k_iload_n hJ dX4_copy_7 3 rfl ?_
    refine c_SI (As := [.int z]) (st := []) hJ (ct_X4_isOne l g z ) Fr.none ms_X4_isOne ml_X4_282 (kRm_ok (by decide) (by decide)) rfl rfl (Nat.le_of_ble_eq_true rfl) dX4_copy_8 ?_
    refine b_if_ne (tgt := 21) hJ dX4_copy_11 (by decide) (fun c11 => ?_) (fun c11 => ?_)
    · obtain ⟨pz, hpz, rfl⟩ := vIn_of (by omega) c11
      have hzx := hsz px hpx
      have hzz := hsz pz hpz
      have hbx := hsb px hpx
      have hbz := hsb pz hpz
      refine k_aload_n hJ dX4_copy_21 0 rfl ?_
      refine gf_X4_31 (v := .ref (b 8)) hJ 0 rfl rfl dX4_copy_22 ?_
      refine k_iload_n hJ dX4_copy_25 1 rfl ?_
      refine k_iald hJ 8 rfl px (by omega) (by decide) rfl dX4_copy_26 ?_
      refine n_if_eq (tgt := 39) hJ dX4_copy_27 (by decide) (by omega) (fun c27 => ?_) (fun c27 => ?_)
      · refine k_aload_n hJ dX4_copy_39 0 rfl ?_
        refine k_ldcw hJ dX4_copy_40 cw_X4_286 ?_
        refine k_eqs (st2 := [.int (kFi 5), .ref (b 0)]) (by rw [kFi_c5]) ?_
        refine c_VI (As := [.int (kFi 5)]) (st := []) hJ (ct_X4_finds l g b (mE kf fj mj tl fr to va iw) m th ai ct (fun i => nI ((if kf then k else jk) i)) ot tp sb sz nu mo 5 (by decide)) (Fr.all rfl) mv_X4_finds ml_X4_68 0 rfl rfl rfl (kRm_ok (by decide) (by decide)) rfl rfl (Nat.le_of_ble_eq_true rfl) dX4_copy_43 ?_
        have hsp : sp_copy (m, k, kf, tp, tl, sb, sz, nu, ct) (nI px) y (nI pz) u v = (kFi 5, (m, k, kf, tp, tl, sb, sz, nu, kTe ct 5)) := by simp only [sp_copy]; rw [if_pos ⟨c4, c11⟩, tN_nI (show px < 2 ^ 31 by omega), tN_nI (show pz < 2 ^ 31 by omega), if_pos (Or.inl c27)]; rfl
        exact k_eqw (ws2 := modA g b (sp_copy (m, k, kf, tp, tl, sb, sz, nu, ct) (nI px) y (nI pz) u v).2 (fj, mj, fr, to, va, iw, jk, th, ai, ot, mo)) (by rw [hsp]; rfl) (hR _ _ _ (fj, mj, fr, to, va, iw, jk, th, ai, ot, mo) dX4_copy_46 (by rw [hsp]))
      · refine k_aload_n hJ dX4_copy_30 0 rfl ?_
        refine gf_X4_31 (v := .ref (b 8)) hJ 0 rfl rfl dX4_copy_31 ?_
        refine k_iload_n hJ dX4_copy_34 3 rfl ?_
        refine k_iald hJ 8 rfl pz (by omega) (by decide) rfl dX4_copy_35 ?_
        refine n_if_ne (tgt := 47) hJ dX4_copy_36 (by decide) (by omega) (fun c36 => ?_) (fun c36 => ?_)
        · refine k_aload_n hJ dX4_copy_47 0 rfl ?_
          refine gf_X4_31 (v := .ref (b 8)) hJ 0 rfl rfl dX4_copy_48 ?_
          refine k_iload_n hJ dX4_copy_51 1 rfl ?_
          refine k_iald hJ 8 rfl px (by omega) (by decide) rfl dX4_copy_52 ?_
          refine k_aload_n hJ dX4_copy_53 0 rfl ?_
          refine gf_X4_31 (v := .ref (b 8)) hJ 0 rfl rfl dX4_copy_54 ?_
          refine k_iload_n hJ dX4_copy_57 3 rfl ?_
          refine k_iald hJ 8 rfl pz (by omega) (by decide) rfl dX4_copy_58 ?_
          refine n_icmp_eq (tgt := 69) hJ dX4_copy_59 (by decide) (by omega) (by omega) (fun c59 => ?_) (fun c59 => ?_)
          · refine k_iload_n hJ dX4_copy_69 2 rfl ?_
            refine k_if_lt (tgt := 110) hJ dX4_copy_70 (by decide) (fun c70 => ?_) (fun c70 => ?_)
            · refine k_aload_n hJ dX4_copy_110 0 rfl ?_
              refine k_ldc hJ dX4_copy_111 cw_X4_44 ?_
              refine k_eqs (st2 := [.int (kFi 0), .ref (b 0)]) (by rw [kFi_c0]) ?_
              refine c_VI (As := [.int (kFi 0)]) (st := []) hJ (ct_X4_finds l g b (mE kf fj mj tl fr to va iw) m th ai ct (fun i => nI ((if kf then k else jk) i)) ot tp sb sz nu mo 0 (by decide)) (Fr.all rfl) mv_X4_finds ml_X4_68 0 rfl rfl rfl (kRm_ok (by decide) (by decide)) rfl rfl (Nat.le_of_ble_eq_true rfl) dX4_copy_113 ?_
              have hsp : sp_copy (m, k, kf, tp, tl, sb, sz, nu, ct) (nI px) y (nI pz) u v = (kFi 0, (m, k, kf, tp, tl, sb, sz, nu, kTe ct 0)) := by simp only [sp_copy]; rw [if_pos ⟨c4, c11⟩, tN_nI (show px < 2 ^ 31 by omega), tN_nI (show pz < 2 ^ 31 by omega), if_neg (show ¬ (sb px = 0 ∨ sb pz = 0) by omega), if_neg (fun q => q c59), if_neg (fun q => by have a := q.1; rw [vRun_s c70] at a; cases a)]; rfl
              exact k_eqw (ws2 := modA g b (sp_copy (m, k, kf, tp, tl, sb, sz, nu, ct) (nI px) y (nI pz) u v).2 (fj, mj, fr, to, va, iw, jk, th, ai, ot, mo)) (by rw [hsp]; rfl) (hR _ _ _ (fj, mj, fr, to, va, iw, jk, th, ai, ot, mo) dX4_copy_116 (by rw [hsp]))
            · obtain ⟨py, hpy, rfl⟩ := nI_of c70
              refine k_iload hJ dX4_copy_73 4 rfl ?_
              refine k_if_lt (tgt := 110) hJ dX4_copy_75 (by decide) (fun c75 => ?_) (fun c75 => ?_)
              · refine k_aload_n hJ dX4_copy_110 0 rfl ?_
                refine k_ldc hJ dX4_copy_111 cw_X4_44 ?_
                refine k_eqs (st2 := [.int (kFi 0), .ref (b 0)]) (by rw [kFi_c0]) ?_
                refine c_VI (As := [.int (kFi 0)]) (st := []) hJ (ct_X4_finds l g b (mE kf fj mj tl fr to va iw) m th ai ct (fun i => nI ((if kf then k else jk) i)) ot tp sb sz nu mo 0 (by decide)) (Fr.all rfl) mv_X4_finds ml_X4_68 0 rfl rfl rfl (kRm_ok (by decide) (by decide)) rfl rfl (Nat.le_of_ble_eq_true rfl) dX4_copy_113 ?_
                have hsp : sp_copy (m, k, kf, tp, tl, sb, sz, nu, ct) (nI px) (nI py) (nI pz) u v = (kFi 0, (m, k, kf, tp, tl, sb, sz, nu, kTe ct 0)) := by simp only [sp_copy]; rw [if_pos ⟨c4, c11⟩, tN_nI (show px < 2 ^ 31 by omega), tN_nI (show pz < 2 ^ 31 by omega), if_neg (show ¬ (sb px = 0 ∨ sb pz = 0) by omega), if_neg (fun q => q c59), if_neg (fun q => by have a := q.2; rw [vRun_s c75] at a; cases a)]; rfl
                exact k_eqw (ws2 := modA g b (sp_copy (m, k, kf, tp, tl, sb, sz, nu, ct) (nI px) (nI py) (nI pz) u v).2 (fj, mj, fr, to, va, iw, jk, th, ai, ot, mo)) (by rw [hsp]; rfl) (hR _ _ _ (fj, mj, fr, to, va, iw, jk, th, ai, ot, mo) dX4_copy_116 (by rw [hsp]))
              · obtain ⟨pu, hpu, rfl⟩ := nI_of c75
                refine k_iload hJ dX4_copy_78 5 rfl ?_
                refine k_if_lt (tgt := 110) hJ dX4_copy_80 (by decide) (fun c80 => ?_) (fun c80 => ?_)
                · refine k_aload_n hJ dX4_copy_110 0 rfl ?_
                  refine k_ldc hJ dX4_copy_111 cw_X4_44 ?_
                  refine k_eqs (st2 := [.int (kFi 0), .ref (b 0)]) (by rw [kFi_c0]) ?_
                  refine c_VI (As := [.int (kFi 0)]) (st := []) hJ (ct_X4_finds l g b (mE kf fj mj tl fr to va iw) m th ai ct (fun i => nI ((if kf then k else jk) i)) ot tp sb sz nu mo 0 (by decide)) (Fr.all rfl) mv_X4_finds ml_X4_68 0 rfl rfl rfl (kRm_ok (by decide) (by decide)) rfl rfl (Nat.le_of_ble_eq_true rfl) dX4_copy_113 ?_
                  have hsp : sp_copy (m, k, kf, tp, tl, sb, sz, nu, ct) (nI px) (nI py) (nI pz) (nI pu) v = (kFi 0, (m, k, kf, tp, tl, sb, sz, nu, kTe ct 0)) := by simp only [sp_copy]; rw [if_pos ⟨c4, c11⟩, tN_nI (show px < 2 ^ 31 by omega), tN_nI (show pz < 2 ^ 31 by omega), if_neg (show ¬ (sb px = 0 ∨ sb pz = 0) by omega), if_neg (fun q => q c59), if_neg (fun q => by have a := q.1; rw [vRun_n c80] at a; cases a)]; rfl
                  exact k_eqw (ws2 := modA g b (sp_copy (m, k, kf, tp, tl, sb, sz, nu, ct) (nI px) (nI py) (nI pz) (nI pu) v).2 (fj, mj, fr, to, va, iw, jk, th, ai, ot, mo)) (by rw [hsp]; rfl) (hR _ _ _ (fj, mj, fr, to, va, iw, jk, th, ai, ot, mo) dX4_copy_116 (by rw [hsp]))
                · obtain ⟨pv, hpv, rfl⟩ := nI_of c80
                  refine k_iload hJ dX4_copy_83 5 rfl ?_
                  refine k_aload_n hJ dX4_copy_85 0 rfl ?_
                  refine gf_X4_34 (v := .ref (b 9)) hJ 0 rfl rfl dX4_copy_86 ?_
                  refine k_iload_n hJ dX4_copy_89 1 rfl ?_
                  refine k_iald hJ 9 rfl px (by omega) (by decide) rfl dX4_copy_90 ?_
                  refine k_iload_n hJ dX4_copy_91 2 rfl ?_
                  refine k_isub hJ dX4_copy_92 ?_
                  refine k_icmp_gt (tgt := 110) hJ dX4_copy_93 (by decide) (fun c93 => ?_) (fun c93 => ?_)
                  · rw [(nI_dif hzx hpy hpv).1] at c93
                    refine k_aload_n hJ dX4_copy_110 0 rfl ?_
                    refine k_ldc hJ dX4_copy_111 cw_X4_44 ?_
                    refine k_eqs (st2 := [.int (kFi 0), .ref (b 0)]) (by rw [kFi_c0]) ?_
                    refine c_VI (As := [.int (kFi 0)]) (st := []) hJ (ct_X4_finds l g b (mE kf fj mj tl fr to va iw) m th ai ct (fun i => nI ((if kf then k else jk) i)) ot tp sb sz nu mo 0 (by decide)) (Fr.all rfl) mv_X4_finds ml_X4_68 0 rfl rfl rfl (kRm_ok (by decide) (by decide)) rfl rfl (Nat.le_of_ble_eq_true rfl) dX4_copy_113 ?_
                    have hsp : sp_copy (m, k, kf, tp, tl, sb, sz, nu, ct) (nI px) (nI py) (nI pz) (nI pu) (nI pv) = (kFi 0, (m, k, kf, tp, tl, sb, sz, nu, kTe ct 0)) := by simp only [sp_copy]; rw [if_pos ⟨c4, c11⟩, tN_nI (show px < 2 ^ 31 by omega), tN_nI (show pz < 2 ^ 31 by omega), if_neg (show ¬ (sb px = 0 ∨ sb pz = 0) by omega), if_neg (fun q => q c59), if_neg (fun q => by have a := q.1; rw [vRun_nI hpy hpv hzx] at a; have := of_decide_eq_true a; omega)]; rfl
                    exact k_eqw (ws2 := modA g b (sp_copy (m, k, kf, tp, tl, sb, sz, nu, ct) (nI px) (nI py) (nI pz) (nI pu) (nI pv)).2 (fj, mj, fr, to, va, iw, jk, th, ai, ot, mo)) (by rw [hsp]; rfl) (hR _ _ _ (fj, mj, fr, to, va, iw, jk, th, ai, ot, mo) dX4_copy_116 (by rw [hsp]))
                  · rw [(nI_dif hzx hpy hpv).1] at c93
                    refine k_iload hJ dX4_copy_96 5 rfl ?_
                    refine k_aload_n hJ dX4_copy_98 0 rfl ?_
                    refine gf_X4_34 (v := .ref (b 9)) hJ 0 rfl rfl dX4_copy_99 ?_
                    refine k_iload_n hJ dX4_copy_102 3 rfl ?_
                    refine k_iald hJ 9 rfl pz (by omega) (by decide) rfl dX4_copy_103 ?_
                    refine k_iload hJ dX4_copy_104 4 rfl ?_
                    refine k_isub hJ dX4_copy_106 ?_
                    refine k_icmp_le (tgt := 117) hJ dX4_copy_107 (by decide) (fun c107 => ?_) (fun c107 => ?_)
                    · rw [(nI_dif hzz hpu hpv).2] at c107
                      refine k_iconst (v := nI 0) hJ dX4_copy_117 (by decide) ?_
                      refine k_istore (lv1 := [(0, .ref (b 0)), (1, .int (nI px)), (2, .int (nI py)), (3, .int (nI pz)), (4, .int (nI pu)), (5, .int (nI pv)), (6, .int (nI 0))]) hJ dX4_copy_118 (by decide) [1, 2, 3, 4, 5, 6, 0] rfl ?_
                      have L120 : ∀ (fu : Nat) (i : Nat) (Mo : Nat → Int64), (i ≤ pv) → (pv + 1 ≤ i + fu) → (∀ j, j < i → Mo j = nu px (py + j)) → J (modW g b (mE kf fj mj tl fr to va iw) m th ai ct (fun i => nI ((if kf then k else jk) i)) ot tp sb sz nu Mo) [(0, .ref (b 0)), (1, .int (nI px)), (2, .int (nI py)), (3, .int (nI pz)), (4, .int (nI pu)), (5, .int (nI pv)), (6, .int (nI i))] 120 [] := by
                        intro fu
                        induction fu with
                        | zero => intro i Mo hi hf hMo; exfalso; omega
                        | succ fu ih =>
                          intro i Mo hi hf hMo
                          refine k_iload hJ dX4_copy_120 6 rfl ?_
                          refine k_iload hJ dX4_copy_122 5 rfl ?_
                          refine n_icmp_ge (tgt := 154) hJ dX4_copy_124 (by decide) (by omega) (by omega) (fun c124 => ?_) (fun c124 => ?_)
                          · refine k_iconst (v := nI 0) hJ dX4_copy_154 (by decide) ?_
                            refine k_istore (lv1 := [(0, .ref (b 0)), (1, .int (nI px)), (2, .int (nI py)), (3, .int (nI pz)), (4, .int (nI pu)), (5, .int (nI pv)), (6, .int (nI 0))]) hJ dX4_copy_155 (by decide) [1, 2, 3, 4, 5, 6, 0] rfl ?_
                            have hMo : ∀ j, j < pv → Mo j = nu px (py + j) := fun j hj => hMo j (by omega)
                            have L157 : ∀ (fu : Nat) (i : Nat) (Nu : Nat → Nat → Int64), (i ≤ pv) → (pv + 1 ≤ i + fu) → (∀ a c, Nu a c = if a = pz ∧ pu ≤ c ∧ c < pu + i then nu px (py + (c - pu)) else nu a c) → J (modW g b (mE kf fj mj tl fr to va iw) m th ai ct (fun i => nI ((if kf then k else jk) i)) ot tp sb sz Nu Mo) [(0, .ref (b 0)), (1, .int (nI px)), (2, .int (nI py)), (3, .int (nI pz)), (4, .int (nI pu)), (5, .int (nI pv)), (6, .int (nI i))] 157 [] := by
                              intro fu
                              induction fu with
                              | zero => intro i Nu hi hf hN; exfalso; omega
                              | succ fu ih =>
                                intro i Nu hi hf hN
                                refine k_iload hJ dX4_copy_157 6 rfl ?_
                                refine k_iload hJ dX4_copy_159 5 rfl ?_
                                refine n_icmp_ge (tgt := 192) hJ dX4_copy_161 (by decide) (by omega) (by omega) (fun c161 => ?_) (fun c161 => ?_)
                                · refine k_iload hJ dX4_copy_192 5 rfl ?_
                                  refine k_eqw (ws2 := modW g b (mE kf fj mj tl fr to va iw) m th ai ct (fun i => nI ((if kf then k else jk) i)) ot tp sb sz (fun s i => if s = pz ∧ pu ≤ i ∧ i < pu + pv then nu px (py + (i - pu)) else nu s i) Mo) (by rw [show Nu = fun s i => if s = pz ∧ pu ≤ i ∧ i < pu + pv then nu px (py + (i - pu)) else nu s i from funext fun a => funext fun c => by rw [hN a c, show i = pv by omega]]) ?_
                                  have hsp : sp_copy (m, k, kf, tp, tl, sb, sz, nu, ct) (nI px) (nI py) (nI pz) (nI pu) (nI pv) = (nI pv, (m, k, kf, tp, tl, sb, sz, fun s i => if s = pz ∧ pu ≤ i ∧ i < pu + pv then nu px (py + (i - pu)) else nu s i, ct)) := by simp only [sp_copy]; rw [if_pos ⟨c4, c11⟩, tN_nI (show px < 2 ^ 31 by omega), tN_nI (show pz < 2 ^ 31 by omega), if_neg (show ¬ (sb px = 0 ∨ sb pz = 0) by omega), if_neg (fun q => q c59), if_pos ⟨by rw [vRun_nI hpy hpv hzx]; exact decide_eq_true (by omega), by rw [vRun_nI hpu hpv hzz]; exact decide_eq_true (by omega)⟩, tN_nI hpy, tN_nI hpu, tN_nI hpv]
                                  exact k_eqw (ws2 := modA g b (sp_copy (m, k, kf, tp, tl, sb, sz, nu, ct) (nI px) (nI py) (nI pz) (nI pu) (nI pv)).2 (fj, mj, fr, to, va, iw, jk, th, ai, ot, Mo)) (by rw [hsp]; rfl) (hR _ _ _ (fj, mj, fr, to, va, iw, jk, th, ai, ot, Mo) dX4_copy_194 (by rw [hsp]))
                                · refine k_aload_n hJ dX4_copy_164 0 rfl ?_
                                  refine gf_X4_37 (v := .ref (b 10)) hJ 0 rfl rfl dX4_copy_165 ?_
                                  refine k_bipush (v := nI 40) hJ dX4_copy_168 (by decide) ?_
                                  refine k_iload_n hJ dX4_copy_170 3 rfl ?_
                                  refine n_imul hJ dX4_copy_171 ?_
                                  refine k_iload hJ dX4_copy_172 4 rfl ?_
                                  refine n_iadd hJ dX4_copy_174 ?_
                                  refine k_iload hJ dX4_copy_175 6 rfl ?_
                                  refine n_iadd hJ dX4_copy_177 ?_
                                  refine k_aload_n hJ dX4_copy_178 0 rfl ?_
                                  refine gf_X4_41 (v := .ref (b 11)) hJ 0 rfl rfl dX4_copy_179 ?_
                                  refine k_iload hJ dX4_copy_182 6 rfl ?_
                                  refine k_lald hJ 11 rfl i (by omega) (by decide) rfl dX4_copy_184 ?_
                                  refine k_last (ws2 := modW g b (mE kf fj mj tl fr to va iw) m th ai ct (fun i => nI ((if kf then k else jk) i)) ot tp sb sz (vN Nu pz (pu + i) (Mo i)) Mo) hJ 10 rfl (((40 * pz) + pu) + i) (by omega) (by decide) (mw_nu (show ((40 * pz) + pu) + i = 40 * pz + (pu + i) by omega) (by omega)) dX4_copy_185 ?_
                                  refine n_iinc (b := 1) (lv1 := [(0, .ref (b 0)), (1, .int (nI px)), (2, .int (nI py)), (3, .int (nI pz)), (4, .int (nI pu)), (5, .int (nI pv)), (6, .int (nI (i + 1)))]) hJ dX4_copy_186 6 rfl (by decide) (by decide) [1, 2, 3, 4, 5, 6, 0] rfl ?_
                                  refine k_goto (tgt := 157) hJ dX4_copy_189 (by decide) ?_
                                  refine ih (i + 1) _ (by omega) (by omega) (fun a c => ?_)
                                  show (if a = pz ∧ c = pu + i then Mo i else Nu a c) = _
                                  by_cases q : a = pz ∧ c = pu + i
                                  · rw [if_pos q, if_pos (by omega), hMo i (by omega), show c - pu = i by omega]
                                  · rw [if_neg q, hN a c]; by_cases c2 : a = pz ∧ pu ≤ c ∧ c < pu + i
                                    · rw [if_pos c2, if_pos (by omega)]
                                    · rw [if_neg c2, if_neg (by omega)]
                            exact L157 (pv + 1) 0 nu (by omega) (by omega) (fun a c => by rw [if_neg (by omega)])
                          · refine k_aload_n hJ dX4_copy_127 0 rfl ?_
                            refine gf_X4_41 (v := .ref (b 11)) hJ 0 rfl rfl dX4_copy_128 ?_
                            refine k_iload hJ dX4_copy_131 6 rfl ?_
                            refine k_aload_n hJ dX4_copy_133 0 rfl ?_
                            refine gf_X4_37 (v := .ref (b 10)) hJ 0 rfl rfl dX4_copy_134 ?_
                            refine k_bipush (v := nI 40) hJ dX4_copy_137 (by decide) ?_
                            refine k_iload_n hJ dX4_copy_139 1 rfl ?_
                            refine n_imul hJ dX4_copy_140 ?_
                            refine k_iload_n hJ dX4_copy_141 2 rfl ?_
                            refine n_iadd hJ dX4_copy_142 ?_
                            refine k_iload hJ dX4_copy_143 6 rfl ?_
                            refine n_iadd hJ dX4_copy_145 ?_
                            refine k_lald hJ 10 rfl (((40 * px) + py) + i) (by omega) (by decide) (show nu ((((40 * px) + py) + i) / 40) ((((40 * px) + py) + i) % 40) = nu px (py + i) by rw [show (((40 * px) + py) + i) / 40 = px by omega, show (((40 * px) + py) + i) % 40 = py + i by omega]) dX4_copy_146 ?_
                            refine k_last (ws2 := modW g b (mE kf fj mj tl fr to va iw) m th ai ct (fun i => nI ((if kf then k else jk) i)) ot tp sb sz nu (vp_updL Mo i (nu px (py + i)))) hJ 11 rfl i (by omega) (by decide) rfl dX4_copy_147 ?_
                            refine n_iinc (b := 1) (lv1 := [(0, .ref (b 0)), (1, .int (nI px)), (2, .int (nI py)), (3, .int (nI pz)), (4, .int (nI pu)), (5, .int (nI pv)), (6, .int (nI (i + 1)))]) hJ dX4_copy_148 6 rfl (by decide) (by decide) [1, 2, 3, 4, 5, 6, 0] rfl ?_
                            refine k_goto (tgt := 120) hJ dX4_copy_151 (by decide) ?_
                            refine ih (i + 1) _ (by omega) (by omega) (fun j hj => ?_)
                            by_cases q : j = i
                            · rw [q, pk_uLs]
                            · rw [pk_uLn q]; exact hMo j (by omega)
                      exact L120 (pv + 1) 0 mo (by omega) (by omega) (fun j hj => absurd hj (by omega))
                    · rw [(nI_dif hzz hpu hpv).2] at c107
                      refine k_aload_n hJ dX4_copy_110 0 rfl ?_
                      refine k_ldc hJ dX4_copy_111 cw_X4_44 ?_
                      refine k_eqs (st2 := [.int (kFi 0), .ref (b 0)]) (by rw [kFi_c0]) ?_
                      refine c_VI (As := [.int (kFi 0)]) (st := []) hJ (ct_X4_finds l g b (mE kf fj mj tl fr to va iw) m th ai ct (fun i => nI ((if kf then k else jk) i)) ot tp sb sz nu mo 0 (by decide)) (Fr.all rfl) mv_X4_finds ml_X4_68 0 rfl rfl rfl (kRm_ok (by decide) (by decide)) rfl rfl (Nat.le_of_ble_eq_true rfl) dX4_copy_113 ?_
                      have hsp : sp_copy (m, k, kf, tp, tl, sb, sz, nu, ct) (nI px) (nI py) (nI pz) (nI pu) (nI pv) = (kFi 0, (m, k, kf, tp, tl, sb, sz, nu, kTe ct 0)) := by simp only [sp_copy]; rw [if_pos ⟨c4, c11⟩, tN_nI (show px < 2 ^ 31 by omega), tN_nI (show pz < 2 ^ 31 by omega), if_neg (show ¬ (sb px = 0 ∨ sb pz = 0) by omega), if_neg (fun q => q c59), if_neg (fun q => by have a := q.2; rw [vRun_nI hpu hpv hzz] at a; have := of_decide_eq_true a; omega)]; rfl
                      exact k_eqw (ws2 := modA g b (sp_copy (m, k, kf, tp, tl, sb, sz, nu, ct) (nI px) (nI py) (nI pz) (nI pu) (nI pv)).2 (fj, mj, fr, to, va, iw, jk, th, ai, ot, mo)) (by rw [hsp]; rfl) (hR _ _ _ (fj, mj, fr, to, va, iw, jk, th, ai, ot, mo) dX4_copy_116 (by rw [hsp]))
          · refine k_aload_n hJ dX4_copy_62 0 rfl ?_
            refine k_ldc hJ dX4_copy_63 cw_X4_103 ?_
            refine k_eqs (st2 := [.int (kFi 2), .ref (b 0)]) (by rw [kFi_c2]) ?_
            refine c_VI (As := [.int (kFi 2)]) (st := []) hJ (ct_X4_finds l g b (mE kf fj mj tl fr to va iw) m th ai ct (fun i => nI ((if kf then k else jk) i)) ot tp sb sz nu mo 2 (by decide)) (Fr.all rfl) mv_X4_finds ml_X4_68 0 rfl rfl rfl (kRm_ok (by decide) (by decide)) rfl rfl (Nat.le_of_ble_eq_true rfl) dX4_copy_65 ?_
            have hsp : sp_copy (m, k, kf, tp, tl, sb, sz, nu, ct) (nI px) y (nI pz) u v = (kFi 2, (m, k, kf, tp, tl, sb, sz, nu, kTe ct 2)) := by simp only [sp_copy]; rw [if_pos ⟨c4, c11⟩, tN_nI (show px < 2 ^ 31 by omega), tN_nI (show pz < 2 ^ 31 by omega), if_neg (show ¬ (sb px = 0 ∨ sb pz = 0) by omega), if_pos c59]; rfl
            exact k_eqw (ws2 := modA g b (sp_copy (m, k, kf, tp, tl, sb, sz, nu, ct) (nI px) y (nI pz) u v).2 (fj, mj, fr, to, va, iw, jk, th, ai, ot, mo)) (by rw [hsp]; rfl) (hR _ _ _ (fj, mj, fr, to, va, iw, jk, th, ai, ot, mo) dX4_copy_68 (by rw [hsp]))
        · refine k_aload_n hJ dX4_copy_39 0 rfl ?_
          refine k_ldcw hJ dX4_copy_40 cw_X4_286 ?_
          refine k_eqs (st2 := [.int (kFi 5), .ref (b 0)]) (by rw [kFi_c5]) ?_
          refine c_VI (As := [.int (kFi 5)]) (st := []) hJ (ct_X4_finds l g b (mE kf fj mj tl fr to va iw) m th ai ct (fun i => nI ((if kf then k else jk) i)) ot tp sb sz nu mo 5 (by decide)) (Fr.all rfl) mv_X4_finds ml_X4_68 0 rfl rfl rfl (kRm_ok (by decide) (by decide)) rfl rfl (Nat.le_of_ble_eq_true rfl) dX4_copy_43 ?_
          have hsp : sp_copy (m, k, kf, tp, tl, sb, sz, nu, ct) (nI px) y (nI pz) u v = (kFi 5, (m, k, kf, tp, tl, sb, sz, nu, kTe ct 5)) := by simp only [sp_copy]; rw [if_pos ⟨c4, c11⟩, tN_nI (show px < 2 ^ 31 by omega), tN_nI (show pz < 2 ^ 31 by omega), if_pos (Or.inr c36)]; rfl
          exact k_eqw (ws2 := modA g b (sp_copy (m, k, kf, tp, tl, sb, sz, nu, ct) (nI px) y (nI pz) u v).2 (fj, mj, fr, to, va, iw, jk, th, ai, ot, mo)) (by rw [hsp]; rfl) (hR _ _ _ (fj, mj, fr, to, va, iw, jk, th, ai, ot, mo) dX4_copy_46 (by rw [hsp]))
    · refine k_aload_n hJ dX4_copy_14 0 rfl ?_
      refine k_ldc hJ dX4_copy_15 cw_X4_44 ?_
      refine k_eqs (st2 := [.int (kFi 0), .ref (b 0)]) (by rw [kFi_c0]) ?_
      refine c_VI (As := [.int (kFi 0)]) (st := []) hJ (ct_X4_finds l g b (mE kf fj mj tl fr to va iw) m th ai ct (fun i => nI ((if kf then k else jk) i)) ot tp sb sz nu mo 0 (by decide)) (Fr.all rfl) mv_X4_finds ml_X4_68 0 rfl rfl rfl (kRm_ok (by decide) (by decide)) rfl rfl (Nat.le_of_ble_eq_true rfl) dX4_copy_17 ?_
      have hsp : sp_copy (m, k, kf, tp, tl, sb, sz, nu, ct) (nI px) y z u v = (kFi 0, (m, k, kf, tp, tl, sb, sz, nu, kTe ct 0)) := by simp only [sp_copy]; rw [if_neg (fun q => by have a := q.2; rw [c11] at a; cases a)]; rfl
      exact k_eqw (ws2 := modA g b (sp_copy (m, k, kf, tp, tl, sb, sz, nu, ct) (nI px) y z u v).2 (fj, mj, fr, to, va, iw, jk, th, ai, ot, mo)) (by rw [hsp]; rfl) (hR _ _ _ (fj, mj, fr, to, va, iw, jk, th, ai, ot, mo) dX4_copy_20 (by rw [hsp]))
theorem vLy_0 (m : Nat → Nat) (f : Nat → Int64) : ∀ n, (vLy m f n).1 0 = m 0
  | 0 => rfl
  | n + 1 => by
    unfold vLy
    split
    · show vUp (vLy m f n).1 (4 + 10 * n + 1) (tN (f n).toInt32) 0 = m 0
      rw [vUp_ne (by omega)]
      exact vLy_0 m f n
    · exact vLy_0 m f n
theorem vLy_t {m : Nat → Nat} {f : Nat → Int64} {n : Nat} (h : vInL (f n) 0 47 = true) : vLy m f (n + 1) = (vUp (vLy m f n).1 (4 + 10 * n + 1) (tN (f n).toInt32), (vLy m f n).2 + 1) := if_pos h
theorem vLy_f {m : Nat → Nat} {f : Nat → Int64} {n : Nat} (h : vInL (f n) 0 47 = false) : vLy m f (n + 1) = vLy m f n := if_neg (by rw [h]; decide)
theorem vInL_47 {v : Int64} (h : vInL v 0 47 = true) : v.toInt32 = nI (tN v.toInt32) ∧ tN v.toInt32 ≤ 47 := by
  unfold vInL at h
  by_cases c : v < 0
  · rw [if_pos c] at h; cases h
  · rw [if_neg c] at h
    by_cases c2 : 47 < v
    · rw [if_pos c2] at h; cases h
    · obtain ⟨k, hk, rfl⟩ := pk_lOf c
      have h3 : k ≤ 47 := Nat.not_lt.mp (fun q => c2 ((pk_lLT (a := 47) (by decide) hk).mpr q))
      rw [lN_i, tN_nI (by omega)]
      exact ⟨rfl, h3⟩
set_option maxHeartbeats 4000000 in
set_option maxRecDepth 100000 in
theorem mp_lays (l : Launch) (g : KG) (b : Nat → Nat) (j : MJ) (s : KS) (hs : kOk s) (x : Int32) : CT l yX4_lays cX4_lays 6 (some .int) (rmK 3) g [.ref (b 0), .int x] (modA g b s j) (S := MJ) oI (fun r _ => r = (sp_lays s x).1) (fun j => modA g b (sp_lays s x).2 j) := by
  obtain ⟨m, k, kf, tp, tl, sb, sz, nu, ct⟩ := s
  obtain ⟨fj, mj, fr, to, va, iw, jk, th, ai, ot, mo⟩ := j
  obtain ⟨hm, hk, htl, htp, hsh⟩ := hs
  have h0 : m 0 ≤ 8 := hm.1
  have h1 : m 1 ≤ 9999 := hm.2.1
  have h2 : m 2 ≤ 4 := hm.2.2.1
  have h3 : m 3 ≤ 99 := hm.2.2.2.2.1
  have hB : 9999 < 2 ^ 30 := by decide
  refine k_bodyI (by decide) (Nat.le_of_ble_eq_true rfl) (fun _ _ _ => rfl) (fun J hJ hR => ?_)
  have hsb := fun s (h : s < 4) => (hsh s h).1
  have hsz := fun s (h : s < 4) => (hsh s h).2
  show J (modW g b (mE kf fj mj tl fr to va iw) m th ai ct (fun i => nI ((if kf then k else jk) i)) ot tp sb sz nu mo) [(0, .ref (b 0)), (1, .int x)] 0 []
  refine k_aload_n hJ dX4_lays_0 0 rfl ?_
  refine k_iload_n hJ dX4_lays_1 1 rfl ?_
  refine c_VI (As := [.int x]) (st := []) hJ (ct_X4_wrongSheet l g b (mE kf fj mj tl fr to va iw) m th ai ct (fun i => nI ((if kf then k else jk) i)) ot tp sb sz nu mo x (fun s h => by have := hsb s h; omega)) (Fr.all rfl) mv_X4_wrongSheet ml_X4_287 0 rfl rfl rfl (kRm_ok (by decide) (by decide)) rfl rfl (Nat.le_of_ble_eq_true rfl) dX4_lays_2 ?_
  refine k_istore_n (lv1 := [(0, .ref (b 0)), (1, .int x), (2, .int (kWr (vWr sb x)))]) hJ dX4_lays_5 (by decide) [1, 2, 0] rfl ?_
  rcases hW : vWr sb x with _ | wi
  · show J (modW g b (mE kf fj mj tl fr to va iw) m th ai ct (fun i => nI ((if kf then k else jk) i)) ot tp sb sz nu mo) [(0, .ref (b 0)), (1, .int x), (2, .int (nI 0))] 6 []
    obtain ⟨px, hpx, rfl, hv4, hb0⟩ := vWr_ok hW
    have hzx := hsz px hpx
    have hbx := hsb px hpx
    refine k_iload_n hJ dX4_lays_6 2 rfl ?_
    refine n_if_eq (tgt := 16) hJ dX4_lays_7 (by decide) (by omega) (fun c7 => ?_) (fun c7 => ?_)
    · refine k_iconst (v := nI 0) hJ dX4_lays_16 (by decide) ?_
      refine k_istore_n (lv1 := [(0, .ref (b 0)), (1, .int (nI px)), (2, .int (nI 0)), (3, .int (nI 0))]) hJ dX4_lays_17 (by decide) [1, 2, 3, 0] rfl ?_
      refine k_iconst (v := nI 0) hJ dX4_lays_18 (by decide) ?_
      refine k_istore (lv1 := [(0, .ref (b 0)), (1, .int (nI px)), (2, .int (nI 0)), (3, .int (nI 0)), (4, .int (nI 0))]) hJ dX4_lays_19 (by decide) [1, 2, 3, 4, 0] rfl ?_
      have L21 : ∀ (fu : Nat) (i : Nat), (i ≤ sz px) → (i ≤ m 0) → (sz px + 1 ≤ i + fu) → J (modW g b (mE kf fj mj tl fr to va iw) ((vLy m (nu px) i).1) th ai ct (fun i => nI ((if kf then k else jk) i)) ot tp sb sz nu mo) [(0, .ref (b 0)), (1, .int (nI px)), (3, .int (nI ((vLy m (nu px) i).2))), (4, .int (nI i))] 21 [] := by
        intro fu
        induction fu with
        | zero => intro i hi hi2 hf; exfalso; omega
        | succ fu ih =>
          intro i hi hi2 hf
          have hy0 := vLy_0 m (nu px) i
          refine k_iload hJ dX4_lays_21 3 rfl ?_
          refine k_aload_n hJ dX4_lays_23 0 rfl ?_
          refine gf_X4_34 (v := .ref (b 9)) hJ 0 rfl rfl dX4_lays_24 ?_
          refine k_iload_n hJ dX4_lays_27 1 rfl ?_
          refine k_iald hJ 9 rfl px (by omega) (by decide) rfl dX4_lays_28 ?_
          refine n_icmp_ge (tgt := 122) hJ dX4_lays_29 (by decide) (by omega) (by omega) (fun c29 => ?_) (fun c29 => ?_)
          · refine k_iload_n hJ dX4_lays_122 2 rfl ?_
            have hmin : min (sz px) (m 0) = i := by omega
            have hsp : sp_lays (m, k, kf, tp, tl, sb, sz, nu, ct) (nI px) = (nI ((vLy m (nu px) i).2), ((vLy m (nu px) i).1, k, kf, tp, tl, sb, sz, nu, ct)) := by simp only [sp_lays, hW]; rw [tN_nI (show px < 2 ^ 31 by omega), hmin]
            exact k_eqw (ws2 := modA g b (sp_lays (m, k, kf, tp, tl, sb, sz, nu, ct) (nI px)).2 (fj, mj, fr, to, va, iw, jk, th, ai, ot, mo)) (by rw [hsp]; rfl) (hR _ _ _ (fj, mj, fr, to, va, iw, jk, th, ai, ot, mo) dX4_lays_123 (by rw [hsp]))
          · refine k_iload hJ dX4_lays_32 3 rfl ?_
            refine k_aload_n hJ dX4_lays_34 0 rfl ?_
            refine gf_X4_7 (v := .ref (b 1)) hJ 0 rfl rfl dX4_lays_35 ?_
            refine k_iconst (v := nI 0) hJ dX4_lays_38 (by decide) ?_
            refine k_iald hJ 1 rfl 0 (by omega) (by decide) rfl dX4_lays_39 ?_
            refine n_icmp_ge (tgt := 122) hJ dX4_lays_40 (by decide) (by omega) (by omega) (fun c40 => ?_) (fun c40 => ?_)
            · refine k_iload_n hJ dX4_lays_122 2 rfl ?_
              have hmin : min (sz px) (m 0) = i := by omega
              have hsp : sp_lays (m, k, kf, tp, tl, sb, sz, nu, ct) (nI px) = (nI ((vLy m (nu px) i).2), ((vLy m (nu px) i).1, k, kf, tp, tl, sb, sz, nu, ct)) := by simp only [sp_lays, hW]; rw [tN_nI (show px < 2 ^ 31 by omega), hmin]
              exact k_eqw (ws2 := modA g b (sp_lays (m, k, kf, tp, tl, sb, sz, nu, ct) (nI px)).2 (fj, mj, fr, to, va, iw, jk, th, ai, ot, mo)) (by rw [hsp]; rfl) (hR _ _ _ (fj, mj, fr, to, va, iw, jk, th, ai, ot, mo) dX4_lays_123 (by rw [hsp]))
            · refine k_aload_n hJ dX4_lays_43 0 rfl ?_
              refine gf_X4_37 (v := .ref (b 10)) hJ 0 rfl rfl dX4_lays_44 ?_
              refine k_bipush (v := nI 40) hJ dX4_lays_47 (by decide) ?_
              refine k_iload_n hJ dX4_lays_49 1 rfl ?_
              refine n_imul hJ dX4_lays_50 ?_
              refine k_iload hJ dX4_lays_51 3 rfl ?_
              refine n_iadd hJ dX4_lays_53 ?_
              refine k_lald hJ 10 rfl ((40 * px) + i) (by omega) (by decide) (show nu (((40 * px) + i) / 40) (((40 * px) + i) % 40) = nu px i by rw [show ((40 * px) + i) / 40 = px by omega, show ((40 * px) + i) % 40 = i by omega]) dX4_lays_54 ?_
              refine k_lconst (v := 0) hJ dX4_lays_55 (by decide) ?_
              refine k_ldc2 hJ dX4_lays_56 cw_X4_45 ?_
              refine c_SI (As := [.long (nu px i), .long 0, .long 47]) (st := []) hJ (ct_X4_in l g (nu px i) 0 47) Fr.none ms_X4_in ml_X4_47 (kRm_ok (by decide) (by decide)) rfl rfl (Nat.le_of_ble_eq_true rfl) dX4_lays_59 ?_
              refine k_istore (lv1 := [(0, .ref (b 0)), (1, .int (nI px)), (3, .int (nI ((vLy m (nu px) i).2))), (4, .int (nI i)), (5, .int (kb (vInL (nu px i) 0 47)))]) hJ dX4_lays_62 (by decide) [1, 2, 3, 4, 0] rfl ?_
              refine k_aload_n hJ dX4_lays_64 0 rfl ?_
              refine gf_X4_7 (v := .ref (b 1)) hJ 0 rfl rfl dX4_lays_65 ?_
              refine k_iload hJ dX4_lays_68 3 rfl ?_
              refine k_iconst (v := nI 1) hJ dX4_lays_70 (by decide) ?_
              refine c_SI (As := [.int (nI i), .int (nI 1)]) (st := [.ref (b 1)]) hJ (ct_X4_spot l g i 1 ) Fr.none ms_X4_spot ml_X4_57 (kRm_ok (by decide) (by decide)) rfl rfl (Nat.le_of_ble_eq_true rfl) dX4_lays_71 ?_
              refine k_iload hJ dX4_lays_74 4 rfl ?_
              refine b_if_eq (tgt := 95) hJ dX4_lays_76 (by decide) (fun c76 => ?_) (fun c76 => ?_)
              · refine k_aload_n hJ dX4_lays_95 0 rfl ?_
                refine k_iload hJ dX4_lays_96 3 rfl ?_
                refine k_iconst (v := nI 1) hJ dX4_lays_98 (by decide) ?_
                refine c_VI (As := [.int (nI i), .int (nI 1)]) (st := [.int (nI (4 + 10 * i + 1)), .ref (b 1)]) hJ (ct_X4_its l g b (mE kf fj mj tl fr to va iw) ((vLy m (nu px) i).1) i 1 (by omega) (by omega)) (frS rfl) mv_X4_its ml_X4_82 0 rfl rfl rfl (kRm_ok (by decide) (by decide)) rfl rfl (Nat.le_of_ble_eq_true rfl) dX4_lays_99 ?_
                refine k_iast (ws2 := modW g b (mE kf fj mj tl fr to va iw) (vUp ((vLy m (nu px) i).1) (4 + 10 * i + 1) (((vLy m (nu px) i).1) (4 + 10 * i + 1))) th ai ct (fun i => nI ((if kf then k else jk) i)) ot tp sb sz nu mo) hJ 1 rfl (4 + 10 * i + 1) (by omega) (by decide) (mw_s (v := (((vLy m (nu px) i).1) (4 + 10 * i + 1)))) dX4_lays_102 ?_
                refine k_iload_n hJ dX4_lays_103 2 rfl ?_
                refine k_iload hJ dX4_lays_104 4 rfl ?_
                refine b_if_eq (tgt := 113) hJ dX4_lays_106 (by decide) (fun c106 => ?_) (fun c106 => ?_)
                · refine k_iconst (v := nI 0) hJ dX4_lays_113 (by decide) ?_
                  refine n_iadd hJ dX4_lays_114 ?_
                  refine k_istore_n (lv1 := [(0, .ref (b 0)), (1, .int (nI px)), (3, .int (nI (((vLy m (nu px) i).2) + 0))), (4, .int (nI i)), (5, .int (kb (vInL (nu px i) 0 47)))]) hJ dX4_lays_115 (by decide) [1, 2, 0, 3, 4] rfl ?_
                  refine n_iinc (b := 1) (lv1 := [(0, .ref (b 0)), (1, .int (nI px)), (3, .int (nI (((vLy m (nu px) i).2) + 0))), (4, .int (nI (i + 1))), (5, .int (kb (vInL (nu px i) 0 47)))]) hJ dX4_lays_116 3 rfl (by decide) (by decide) [1, 2, 3, 0, 4] rfl ?_
                  refine k_goto (tgt := 21) hJ dX4_lays_119 (by decide) ?_
                  refine k_lv (lv1 := [(0, .ref (b 0)), (1, .int (nI px)), (3, .int (nI (((vLy m (nu px) i).2) + 0))), (4, .int (nI (i + 1)))]) hJ [0, 1, 2, 3] rfl ?_
                  refine k_eqw (ws2 := modW g b (mE kf fj mj tl fr to va iw) ((vLy m (nu px) (i + 1)).1) th ai ct (fun i => nI ((if kf then k else jk) i)) ot tp sb sz nu mo) (by rw [vUp_id, vLy_f c76]) ?_
                  refine k_eql (lv1 := [(0, .ref (b 0)), (1, .int (nI px)), (3, .int (nI ((vLy m (nu px) (i + 1)).2))), (4, .int (nI (i + 1)))]) (by rw [vLy_f c76]; rfl) ?_
                  exact ih (i + 1) (by omega) (by omega) (by omega)
                · refine k_iconst (v := nI 1) hJ dX4_lays_109 (by decide) ?_
                  refine k_goto (tgt := 114) hJ dX4_lays_110 (by decide) ?_
                  refine n_iadd hJ dX4_lays_114 ?_
                  refine k_istore_n (lv1 := [(0, .ref (b 0)), (1, .int (nI px)), (3, .int (nI (((vLy m (nu px) i).2) + 1))), (4, .int (nI i)), (5, .int (kb (vInL (nu px i) 0 47)))]) hJ dX4_lays_115 (by decide) [1, 2, 0, 3, 4] rfl ?_
                  refine n_iinc (b := 1) (lv1 := [(0, .ref (b 0)), (1, .int (nI px)), (3, .int (nI (((vLy m (nu px) i).2) + 1))), (4, .int (nI (i + 1))), (5, .int (kb (vInL (nu px i) 0 47)))]) hJ dX4_lays_116 3 rfl (by decide) (by decide) [1, 2, 3, 0, 4] rfl ?_
                  refine k_goto (tgt := 21) hJ dX4_lays_119 (by decide) ?_
                  exact absurd (c76.symm.trans c106) (by decide)
              · refine k_aload_n hJ dX4_lays_79 0 rfl ?_
                refine gf_X4_37 (v := .ref (b 10)) hJ 0 rfl rfl dX4_lays_80 ?_
                refine k_bipush (v := nI 40) hJ dX4_lays_83 (by decide) ?_
                refine k_iload_n hJ dX4_lays_85 1 rfl ?_
                refine n_imul hJ dX4_lays_86 ?_
                refine k_iload hJ dX4_lays_87 3 rfl ?_
                refine n_iadd hJ dX4_lays_89 ?_
                refine k_lald hJ 10 rfl ((40 * px) + i) (by omega) (by decide) (show nu (((40 * px) + i) / 40) (((40 * px) + i) % 40) = nu px i by rw [show ((40 * px) + i) / 40 = px by omega, show ((40 * px) + i) % 40 = i by omega]) dX4_lays_90 ?_
                refine k_l2i hJ dX4_lays_91 rfl ?_
                refine k_eqs (st2 := [.int (nI (tN (nu px i).toInt32)), .int (nI (4 + 10 * i + 1)), .ref (b 1)]) (by rw [← (vInL_47 c76).1]) ?_
                refine k_goto (tgt := 102) hJ dX4_lays_92 (by decide) ?_
                refine k_iast (ws2 := modW g b (mE kf fj mj tl fr to va iw) (vUp ((vLy m (nu px) i).1) (4 + 10 * i + 1) (tN (nu px i).toInt32)) th ai ct (fun i => nI ((if kf then k else jk) i)) ot tp sb sz nu mo) hJ 1 rfl (4 + 10 * i + 1) (by omega) (by decide) (mw_s (v := (tN (nu px i).toInt32))) dX4_lays_102 ?_
                refine k_iload_n hJ dX4_lays_103 2 rfl ?_
                refine k_iload hJ dX4_lays_104 4 rfl ?_
                refine b_if_eq (tgt := 113) hJ dX4_lays_106 (by decide) (fun c106 => ?_) (fun c106 => ?_)
                · refine k_iconst (v := nI 0) hJ dX4_lays_113 (by decide) ?_
                  refine n_iadd hJ dX4_lays_114 ?_
                  refine k_istore_n (lv1 := [(0, .ref (b 0)), (1, .int (nI px)), (3, .int (nI (((vLy m (nu px) i).2) + 0))), (4, .int (nI i)), (5, .int (kb (vInL (nu px i) 0 47)))]) hJ dX4_lays_115 (by decide) [1, 2, 0, 3, 4] rfl ?_
                  refine n_iinc (b := 1) (lv1 := [(0, .ref (b 0)), (1, .int (nI px)), (3, .int (nI (((vLy m (nu px) i).2) + 0))), (4, .int (nI (i + 1))), (5, .int (kb (vInL (nu px i) 0 47)))]) hJ dX4_lays_116 3 rfl (by decide) (by decide) [1, 2, 3, 0, 4] rfl ?_
                  refine k_goto (tgt := 21) hJ dX4_lays_119 (by decide) ?_
                  exact absurd (c76.symm.trans c106) (by decide)
                · refine k_iconst (v := nI 1) hJ dX4_lays_109 (by decide) ?_
                  refine k_goto (tgt := 114) hJ dX4_lays_110 (by decide) ?_
                  refine n_iadd hJ dX4_lays_114 ?_
                  refine k_istore_n (lv1 := [(0, .ref (b 0)), (1, .int (nI px)), (3, .int (nI (((vLy m (nu px) i).2) + 1))), (4, .int (nI i)), (5, .int (kb (vInL (nu px i) 0 47)))]) hJ dX4_lays_115 (by decide) [1, 2, 0, 3, 4] rfl ?_
                  refine n_iinc (b := 1) (lv1 := [(0, .ref (b 0)), (1, .int (nI px)), (3, .int (nI (((vLy m (nu px) i).2) + 1))), (4, .int (nI (i + 1))), (5, .int (kb (vInL (nu px i) 0 47)))]) hJ dX4_lays_116 3 rfl (by decide) (by decide) [1, 2, 3, 0, 4] rfl ?_
                  refine k_goto (tgt := 21) hJ dX4_lays_119 (by decide) ?_
                  refine k_lv (lv1 := [(0, .ref (b 0)), (1, .int (nI px)), (3, .int (nI (((vLy m (nu px) i).2) + 1))), (4, .int (nI (i + 1)))]) hJ [0, 1, 2, 3] rfl ?_
                  refine k_eqw (ws2 := modW g b (mE kf fj mj tl fr to va iw) ((vLy m (nu px) (i + 1)).1) th ai ct (fun i => nI ((if kf then k else jk) i)) ot tp sb sz nu mo) (by rw [vLy_t c76]) ?_
                  refine k_eql (lv1 := [(0, .ref (b 0)), (1, .int (nI px)), (3, .int (nI ((vLy m (nu px) (i + 1)).2))), (4, .int (nI (i + 1)))]) (by rw [vLy_t c76]) ?_
                  exact ih (i + 1) (by omega) (by omega) (by omega)
      refine k_lv (lv1 := [(0, .ref (b 0)), (1, .int (nI px)), (3, .int (nI 0)), (4, .int (nI 0))]) hJ [0, 1, 3, 4] rfl ?_
      exact L21 (sz px + 1) 0 (by omega) (by omega) (by omega)
    · exact absurd c7 (by decide)
  · show J (modW g b (mE kf fj mj tl fr to va iw) m th ai ct (fun i => nI ((if kf then k else jk) i)) ot tp sb sz nu mo) [(0, .ref (b 0)), (1, .int x), (2, .int (kFi wi))] 6 []
    have hwi : wi < 7 := vWr_lt hW
    refine k_iload_n hJ dX4_lays_6 2 rfl ?_
    refine k_if_eq (tgt := 16) hJ dX4_lays_7 (by decide) (fun c7 => ?_) (fun c7 => ?_)
    · exact absurd c7 (kWr_0 wi hwi)
    · refine k_aload_n hJ dX4_lays_10 0 rfl ?_
      refine k_iload_n hJ dX4_lays_11 2 rfl ?_
      refine c_VI (As := [.int (kFi wi)]) (st := []) hJ (ct_X4_finds l g b (mE kf fj mj tl fr to va iw) m th ai ct (fun i => nI ((if kf then k else jk) i)) ot tp sb sz nu mo wi hwi) (Fr.all rfl) mv_X4_finds ml_X4_68 0 rfl rfl rfl (kRm_ok (by decide) (by decide)) rfl rfl (Nat.le_of_ble_eq_true rfl) dX4_lays_12 ?_
      have hsp : sp_lays (m, k, kf, tp, tl, sb, sz, nu, ct) x = (kFi wi, (m, k, kf, tp, tl, sb, sz, nu, kTe ct wi)) := by simp only [sp_lays, hW]; rfl
      exact k_eqw (ws2 := modA g b (sp_lays (m, k, kf, tp, tl, sb, sz, nu, ct) x).2 (fj, mj, fr, to, va, iw, jk, th, ai, ot, mo)) (by rw [hsp]; rfl) (hR _ _ _ (fj, mj, fr, to, va, iw, jk, th, ai, ot, mo) dX4_lays_15 (by rw [hsp]))
theorem vWb_lt {m sb : Nat → Nat} {x y z u : Int32} {i : Nat} (h : vWb m sb x y z u = some i) : i < 7 := by
  unfold vWb at h
  cases hW : vWr sb x with
  | some j => rw [hW] at h; cases h; exact vWr_lt hW
  | none =>
    rw [hW] at h
    simp only at h
    split at h
    · cases h
    · cases h; omega
theorem vWb_ok {m sb : Nat → Nat} {x y z u : Int32} (h0 : m 0 ≤ 8) (h : vWb m sb x y z u = none) : ∃ a p q d, a < 4 ∧ p < m 0 ∧ q < m 0 ∧ p ≠ q ∧ d < 6 ∧ sb a ≠ 0 ∧ x = nI a ∧ y = nI p ∧ z = nI q ∧ u = nI d := by
  unfold vWb at h
  cases hW : vWr sb x with
  | some j => rw [hW] at h; cases h
  | none =>
    rw [hW] at h
    simp only at h
    split at h
    · rename_i c
      obtain ⟨a, ha, e1, _, e2⟩ := vWr_ok hW
      obtain ⟨p, q, hp, hq, hn, e3, e4⟩ := vTwo_of (by omega) c.1
      obtain ⟨d, hd, e5⟩ := vIn_of (by decide) c.2
      exact ⟨a, p, q, d, ha, hp, hq, hn, hd, e2, e1, e3, e4, e5⟩
    · cases h
set_option maxHeartbeats 4000000 in
set_option maxRecDepth 100000 in
theorem ct_X4_wrongBook (l : Launch) (g : KG) (b : Nat → Nat) (e : Nat → Int32) (m : Nat → Nat) (th ai ct ks ot : Nat → Int32) (tp sb sz : Nat → Nat) (nu : Nat → Nat → Int64) (mo : Nat → Int64) (x y z u : Int32)  (hb : ∀ s, s < 4 → sb s < 2 ^ 31) (h0 : m 0 ≤ 8) : CI l yX4_wrongBook cX4_wrongBook 6 (some .int) (rmK 3) g [.ref (b 0), .int x, .int y, .int z, .int u] (modW g b e m th ai ct ks ot tp sb sz nu mo) (kWr (vWb m sb x y z u)) (modW g b e m th ai ct ks ot tp sb sz nu mo) := by
  refine k_bodyI (by decide) (Nat.le_of_ble_eq_true rfl) (fun _ _ _ => rfl) (fun J hJ hR => ?_)
  show J (modW g b e m th ai ct ks ot tp sb sz nu mo) [(0, .ref (b 0)), (1, .int x), (2, .int y), (3, .int z), (4, .int u)] 0 []
  refine k_aload_n hJ dX4_wrongBook_0 0 rfl ?_
  refine k_iload_n hJ dX4_wrongBook_1 1 rfl ?_
  refine c_VI (As := [.int x]) (st := []) hJ (ct_X4_wrongSheet l g b e m th ai ct ks ot tp sb sz nu mo x hb) (Fr.all rfl) mv_X4_wrongSheet ml_X4_287 0 rfl rfl rfl (kRm_ok (by decide) (by decide)) rfl rfl (Nat.le_of_ble_eq_true rfl) dX4_wrongBook_2 ?_
  refine k_istore (lv1 := [(0, .ref (b 0)), (1, .int x), (2, .int y), (3, .int z), (4, .int u), (5, .int (kWr (vWr sb x)))]) hJ dX4_wrongBook_5 (by decide) [1, 2, 3, 4, 5, 0] rfl ?_
  rcases hW : vWr sb x with _ | wi
  · show J (modW g b e m th ai ct ks ot tp sb sz nu mo) [(0, .ref (b 0)), (1, .int x), (2, .int y), (3, .int z), (4, .int u), (5, .int (nI 0))] 7 []
    refine k_iload hJ dX4_wrongBook_7 5 rfl ?_
    refine n_if_eq (tgt := 17) hJ dX4_wrongBook_9 (by decide) (by omega) (fun c9 => ?_) (fun c9 => ?_)
    · refine k_aload_n hJ dX4_wrongBook_17 0 rfl ?_
      refine k_iload_n hJ dX4_wrongBook_18 2 rfl ?_
      refine k_iload_n hJ dX4_wrongBook_19 3 rfl ?_
      refine c_VI (As := [.int y, .int z]) (st := []) hJ (ct_X4_areTwo l g b e m y z (by omega)) (frS rfl) mv_X4_areTwo ml_X4_107 0 rfl rfl rfl (kRm_ok (by decide) (by decide)) rfl rfl (Nat.le_of_ble_eq_true rfl) dX4_wrongBook_20 ?_
      refine b_if_eq (tgt := 38) hJ dX4_wrongBook_23 (by decide) (fun c23 => ?_) (fun c23 => ?_)
      · refine k_ldc hJ dX4_wrongBook_38 cw_X4_44 ?_
        refine k_eqs (st2 := [.int (kFi 0)]) (by rw [kFi_c0]) ?_
        exact hR _ _ _ () dX4_wrongBook_40 (by unfold vWb; rw [hW]; simp only []; rw [if_neg (fun q => by have a := q.1; rw [c23] at a; cases a)]; rfl)
      · refine k_iload hJ dX4_wrongBook_26 4 rfl ?_
        refine c_SI (As := [.int u]) (st := []) hJ (ct_X4_isDeed l g u ) Fr.none ms_X4_isDeed ml_X4_96 (kRm_ok (by decide) (by decide)) rfl rfl (Nat.le_of_ble_eq_true rfl) dX4_wrongBook_28 ?_
        refine b_if_eq (tgt := 38) hJ dX4_wrongBook_31 (by decide) (fun c31 => ?_) (fun c31 => ?_)
        · refine k_ldc hJ dX4_wrongBook_38 cw_X4_44 ?_
          refine k_eqs (st2 := [.int (kFi 0)]) (by rw [kFi_c0]) ?_
          exact hR _ _ _ () dX4_wrongBook_40 (by unfold vWb; rw [hW]; simp only []; rw [if_neg (fun q => by have a := q.2; rw [c31] at a; cases a)]; rfl)
        · refine k_iconst (v := nI 0) hJ dX4_wrongBook_34 (by decide) ?_
          refine k_goto (tgt := 40) hJ dX4_wrongBook_35 (by decide) ?_
          exact hR _ _ _ () dX4_wrongBook_40 (by unfold vWb; rw [hW]; simp only []; rw [if_pos ⟨c23, c31⟩]; rfl)
    · exact absurd c9 (by decide)
  · show J (modW g b e m th ai ct ks ot tp sb sz nu mo) [(0, .ref (b 0)), (1, .int x), (2, .int y), (3, .int z), (4, .int u), (5, .int (kFi wi))] 7 []
    refine k_iload hJ dX4_wrongBook_7 5 rfl ?_
    refine k_if_eq (tgt := 17) hJ dX4_wrongBook_9 (by decide) (fun c9 => ?_) (fun c9 => ?_)
    · exact absurd c9 (kWr_0 wi (vWr_lt hW))
    · refine k_iload hJ dX4_wrongBook_12 5 rfl ?_
      refine k_goto (tgt := 40) hJ dX4_wrongBook_14 (by decide) ?_
      exact hR _ _ _ () dX4_wrongBook_40 (by unfold vWb; rw [hW]; rfl)
set_option maxHeartbeats 4000000 in
set_option maxRecDepth 100000 in
theorem mp_book (l : Launch) (g : KG) (b : Nat → Nat) (j : MJ) (s : KS) (hs : kOk s) (x : Int32) (y : Int32) (z : Int32) (u : Int32) : CT l yX4_book cX4_book 7 (some .int) (rmK 4) g [.ref (b 0), .int x, .int y, .int z, .int u] (modA g b s j) (S := MJ) oI (fun r _ => r = (sp_book s x y z u).1) (fun j => modA g b (sp_book s x y z u).2 j) := by
  obtain ⟨m, k, kf, tp, tl, sb, sz, nu, ct⟩ := s
  obtain ⟨fj, mj, fr, to, va, iw, jk, th, ai, ot, mo⟩ := j
  obtain ⟨hm, hk, htl, htp, hsh⟩ := hs
  have h0 : m 0 ≤ 8 := hm.1
  have h1 : m 1 ≤ 9999 := hm.2.1
  have h2 : m 2 ≤ 4 := hm.2.2.1
  have h3 : m 3 ≤ 99 := hm.2.2.2.2.1
  have hB : 9999 < 2 ^ 30 := by decide
  refine k_bodyI (by decide) (Nat.le_of_ble_eq_true rfl) (fun _ _ _ => rfl) (fun J hJ hR => ?_)
  have hsb := fun s (h : s < 4) => (hsh s h).1
  have hsz := fun s (h : s < 4) => (hsh s h).2
  show J (modW g b (mE kf fj mj tl fr to va iw) m th ai ct (fun i => nI ((if kf then k else jk) i)) ot tp sb sz nu mo) [(0, .ref (b 0)), (1, .int x), (2, .int y), (3, .int z), (4, .int u)] 0 []
  refine k_aload_n hJ dX4_book_0 0 rfl ?_
  refine k_iload_n hJ dX4_book_1 1 rfl ?_
  refine k_iload_n hJ dX4_book_2 2 rfl ?_
  refine k_iload_n hJ dX4_book_3 3 rfl ?_
  refine k_iload hJ dX4_book_4 4 rfl ?_
  refine c_VI (As := [.int x, .int y, .int z, .int u]) (st := []) hJ (ct_X4_wrongBook l g b (mE kf fj mj tl fr to va iw) m th ai ct (fun i => nI ((if kf then k else jk) i)) ot tp sb sz nu mo x y z u (fun s h => by have := hsb s h; omega) h0) (Fr.all rfl) mv_X4_wrongBook ml_X4_294 0 rfl rfl rfl (kRm_ok (by decide) (by decide)) rfl rfl (Nat.le_of_ble_eq_true rfl) dX4_book_6 ?_
  refine k_istore (lv1 := [(0, .ref (b 0)), (1, .int x), (2, .int y), (3, .int z), (4, .int u), (5, .int (kWr (vWb m sb x y z u)))]) hJ dX4_book_9 (by decide) [1, 2, 3, 4, 5, 0] rfl ?_
  rcases hW : vWb m sb x y z u with _ | wi
  · show J (modW g b (mE kf fj mj tl fr to va iw) m th ai ct (fun i => nI ((if kf then k else jk) i)) ot tp sb sz nu mo) [(0, .ref (b 0)), (1, .int x), (2, .int y), (3, .int z), (4, .int u), (5, .int (nI 0))] 11 []
    have hWk := hW
    obtain ⟨px, py, pz, pu, hpx, hpy, hpz, hnyz, hpu, hb0, rfl, rfl, rfl, rfl⟩ := vWb_ok h0 hW
    have hzx := hsz px hpx
    have hbx := hsb px hpx
    refine k_iload hJ dX4_book_11 5 rfl ?_
    refine n_if_eq (tgt := 23) hJ dX4_book_13 (by decide) (by omega) (fun c13 => ?_) (fun c13 => ?_)
    · refine k_aload_n hJ dX4_book_23 0 rfl ?_
      refine c_VV (As := []) (st := []) hJ (ct_X4_laysAside l g b (mE kf fj mj tl fr to va iw) m th ai ct (fun i => nI ((if kf then k else jk) i)) ot tp sb sz nu mo) (Fr.all rfl) mv_X4_laysAside ml_X4_165 0 rfl rfl rfl (kRm_ok (by decide) (by decide)) rfl rfl (Nat.le_of_ble_eq_true rfl) dX4_book_24 ?_
      refine k_iconst (v := nI 0) hJ dX4_book_27 (by decide) ?_
      refine k_istore (lv1 := [(0, .ref (b 0)), (1, .int (nI px)), (2, .int (nI py)), (3, .int (nI pz)), (4, .int (nI pu)), (5, .int (nI 0)), (6, .int (nI 0))]) hJ dX4_book_28 (by decide) [1, 2, 3, 4, 5, 6, 0] rfl ?_
      have L30 : ∀ (fu : Nat) (i : Nat) (Nu : Nat → Nat → Int64) (T : Nat → Int32), (i ≤ sz px) → (sz px + 1 ≤ i + fu) → (∀ a c, Nu a c = if a = px ∧ c < i then vNar (sb px) (vSmA m py pz pu c) else nu a c) → J (modW g b (mE kf fj mj tl fr to va iw) (vIter vHour i m) T (fun i => nI (m i)) ct (fun i => nI ((if kf then k else jk) i)) ot tp sb sz Nu mo) [(0, .ref (b 0)), (1, .int (nI px)), (2, .int (nI py)), (3, .int (nI pz)), (4, .int (nI pu)), (6, .int (nI i))] 30 [] := by
        intro fu
        induction fu with
        | zero => intro i Nu T hi hf hN; exfalso; omega
        | succ fu ih =>
          intro i Nu T hi hf hN
          refine k_iload hJ dX4_book_30 5 rfl ?_
          refine k_aload_n hJ dX4_book_32 0 rfl ?_
          refine gf_X4_34 (v := .ref (b 9)) hJ 0 rfl rfl dX4_book_33 ?_
          refine k_iload_n hJ dX4_book_36 1 rfl ?_
          refine k_iald hJ 9 rfl px (by omega) (by decide) rfl dX4_book_37 ?_
          refine n_icmp_ge (tgt := 81) hJ dX4_book_38 (by decide) (by omega) (by omega) (fun c38 => ?_) (fun c38 => ?_)
          · refine k_aload_n hJ dX4_book_81 0 rfl ?_
            refine k_aload_n hJ dX4_book_82 0 rfl ?_
            refine gf_X4_34 (v := .ref (b 9)) hJ 0 rfl rfl dX4_book_83 ?_
            refine k_iload_n hJ dX4_book_86 1 rfl ?_
            refine k_iald hJ 9 rfl px (by omega) (by decide) rfl dX4_book_87 ?_
            refine c_VI (As := [.int (nI (sz px))]) (st := []) hJ (ct_X4_takesBack l g b (mE kf fj mj tl fr to va iw) (vIter vHour i m) T (fun i => nI (m i)) ct (fun i => nI ((if kf then k else jk) i)) ot tp sb sz Nu mo m (nI (sz px))) (Fr.all rfl) mv_X4_takesBack ml_X4_168 0 rfl rfl rfl (kRm_ok (by decide) (by decide)) rfl rfl (Nat.le_of_ble_eq_true rfl) dX4_book_88 ?_
            refine k_eqw (ws2 := modW g b (mE kf fj mj tl fr to va iw) m T (fun i => nI (m i)) ct (fun i => nI ((if kf then k else jk) i)) ot tp sb sz (fun s i => if s = px ∧ i < sz px then vNar (sb px) (vSmA m py pz pu i) else nu s i) mo) (by rw [show Nu = fun s i => if s = px ∧ i < sz px then vNar (sb px) (vSmA m py pz pu i) else nu s i from funext fun a => funext fun c => by rw [hN a c, show i = sz px by omega]]) ?_
            have hsp : sp_book (m, k, kf, tp, tl, sb, sz, nu, ct) (nI px) (nI py) (nI pz) (nI pu) = (nI (sz px), (m, k, kf, tp, tl, sb, sz, fun s i => if s = px ∧ i < sz px then vNar (sb px) (vSmA m py pz pu i) else nu s i, ct)) := by simp only [sp_book, hWk]; rw [tN_nI (show px < 2 ^ 31 by omega), tN_nI (show py < 2 ^ 31 by omega), tN_nI (show pz < 2 ^ 31 by omega), tN_nI (show pu < 2 ^ 31 by omega)]
            exact k_eqw (ws2 := modA g b (sp_book (m, k, kf, tp, tl, sb, sz, nu, ct) (nI px) (nI py) (nI pz) (nI pu)).2 (fj, mj, fr, to, va, iw, jk, T, fun i => nI (m i), ot, mo)) (by rw [hsp]; rfl) (hR _ _ _ (fj, mj, fr, to, va, iw, jk, T, fun i => nI (m i), ot, mo) dX4_book_91 (by rw [hsp]))
          · refine k_aload_n hJ dX4_book_41 0 rfl ?_
            refine gf_X4_37 (v := .ref (b 10)) hJ 0 rfl rfl dX4_book_42 ?_
            refine k_bipush (v := nI 40) hJ dX4_book_45 (by decide) ?_
            refine k_iload_n hJ dX4_book_47 1 rfl ?_
            refine n_imul hJ dX4_book_48 ?_
            refine k_iload hJ dX4_book_49 5 rfl ?_
            refine n_iadd hJ dX4_book_51 ?_
            refine k_aload_n hJ dX4_book_52 0 rfl ?_
            refine gf_X4_31 (v := .ref (b 8)) hJ 0 rfl rfl dX4_book_53 ?_
            refine k_iload_n hJ dX4_book_56 1 rfl ?_
            refine k_iald hJ 8 rfl px (by omega) (by decide) rfl dX4_book_57 ?_
            refine k_aload_n hJ dX4_book_58 0 rfl ?_
            refine k_iload_n hJ dX4_book_59 2 rfl ?_
            refine k_iload_n hJ dX4_book_60 3 rfl ?_
            refine k_iload hJ dX4_book_61 4 rfl ?_
            refine c_VI (As := [.int (nI py), .int (nI pz), .int (nI pu)]) (st := [.int (nI (sb px)), .int (nI ((40 * px) + i)), .ref (b 10)]) hJ (ct_X4_smell l g b (mE kf fj mj tl fr to va iw) (vIter vHour i m) py pz pu (show 9999 + i < 2 ^ 30 by omega) (vOk_iter hm i) (by omega) (by omega) (by omega)) (frS rfl) mv_X4_smell ml_X4_126 0 rfl rfl rfl (kRm_ok (by decide) (by decide)) rfl rfl (Nat.le_of_ble_eq_true rfl) dX4_book_63 ?_
            refine k_i2l hJ dX4_book_66 rfl ?_
            refine c_SL (As := [.int (nI (sb px)), .long ((nI (vSmell (vIter vHour i m) py pz pu)).toInt64)]) (st := [.int (nI ((40 * px) + i)), .ref (b 10)]) hJ (ct_X4_narrowed l g (sb px) ((nI (vSmell (vIter vHour i m) py pz pu)).toInt64) (by omega)) Fr.none ms_X4_narrowed ml_X4_290 (kRm_ok (by decide) (by decide)) rfl rfl (Nat.le_of_ble_eq_true rfl) dX4_book_67 ?_
            refine k_last (ws2 := modW g b (mE kf fj mj tl fr to va iw) (vIter vHour i m) T (fun i => nI (m i)) ct (fun i => nI ((if kf then k else jk) i)) ot tp sb sz (vN Nu px i (vNar (sb px) ((nI (vSmell (vIter vHour i m) py pz pu)).toInt64))) mo) hJ 10 rfl ((40 * px) + i) (by omega) (by decide) (mw_nu (show (40 * px) + i = 40 * px + i by omega) (by omega)) dX4_book_70 ?_
            refine k_aload_n hJ dX4_book_71 0 rfl ?_
            refine k_callV (As := []) (st := []) hJ (ct_X4_hour l g b (mE kf fj mj tl fr to va iw) (vIter vHour i m) T (fun i => nI (m i)) ct (fun i => nI ((if kf then k else jk) i)) ot tp sb sz (vN Nu px i (vNar (sb px) ((nI (vSmell (vIter vHour i m) py pz pu)).toInt64))) mo (show 9999 + i < 2 ^ 30 by omega) (vOk_iter hm i)) (fun _ => Fr.all rfl) mv_X4_hour ml_X4_149 0 rfl rfl rfl (kRm_ok (by decide) (by decide)) rfl rfl (Nat.le_of_ble_eq_true rfl) dX4_book_72 (fun _ u _ => ?_)
            refine n_iinc (b := 1) (lv1 := [(0, .ref (b 0)), (1, .int (nI px)), (2, .int (nI py)), (3, .int (nI pz)), (4, .int (nI pu)), (6, .int (nI (i + 1)))]) hJ dX4_book_75 5 rfl (by decide) (by decide) [1, 2, 3, 4, 5, 0] rfl ?_
            refine k_goto (tgt := 30) hJ dX4_book_78 (by decide) ?_
            refine ih (i + 1) _ _ (by omega) (by omega) (fun a c => ?_)
            show (if a = px ∧ c = i then vNar (sb px) (vSmA m py pz pu i) else Nu a c) = _
            by_cases q : a = px ∧ c = i
            · rw [if_pos q, if_pos (by omega), q.2]
            · rw [if_neg q, hN a c]; by_cases c2 : a = px ∧ c < i
              · rw [if_pos c2, if_pos (by omega)]
              · rw [if_neg c2, if_neg (by omega)]
      refine k_lv (lv1 := [(0, .ref (b 0)), (1, .int (nI px)), (2, .int (nI py)), (3, .int (nI pz)), (4, .int (nI pu)), (6, .int (nI 0))]) hJ [0, 1, 2, 3, 4, 6] rfl ?_
      exact L30 (sz px + 1) 0 nu th (by omega) (by omega) (fun a c => by rw [if_neg (by omega)])
    · exact absurd c13 (by decide)
  · show J (modW g b (mE kf fj mj tl fr to va iw) m th ai ct (fun i => nI ((if kf then k else jk) i)) ot tp sb sz nu mo) [(0, .ref (b 0)), (1, .int x), (2, .int y), (3, .int z), (4, .int u), (5, .int (kFi wi))] 11 []
    have hwi : wi < 7 := vWb_lt hW
    refine k_iload hJ dX4_book_11 5 rfl ?_
    refine k_if_eq (tgt := 23) hJ dX4_book_13 (by decide) (fun c13 => ?_) (fun c13 => ?_)
    · exact absurd c13 (kWr_0 wi hwi)
    · refine k_aload_n hJ dX4_book_16 0 rfl ?_
      refine k_iload hJ dX4_book_17 5 rfl ?_
      refine c_VI (As := [.int (kFi wi)]) (st := []) hJ (ct_X4_finds l g b (mE kf fj mj tl fr to va iw) m th ai ct (fun i => nI ((if kf then k else jk) i)) ot tp sb sz nu mo wi hwi) (Fr.all rfl) mv_X4_finds ml_X4_68 0 rfl rfl rfl (kRm_ok (by decide) (by decide)) rfl rfl (Nat.le_of_ble_eq_true rfl) dX4_book_19 ?_
      have hsp : sp_book (m, k, kf, tp, tl, sb, sz, nu, ct) x y z u = (kFi wi, (m, k, kf, tp, tl, sb, sz, nu, kTe ct wi)) := by simp only [sp_book, hW]; rfl
      exact k_eqw (ws2 := modA g b (sp_book (m, k, kf, tp, tl, sb, sz, nu, ct) x y z u).2 (fj, mj, fr, to, va, iw, jk, th, ai, ot, mo)) (by rw [hsp]; rfl) (hR _ _ _ (fj, mj, fr, to, va, iw, jk, th, ai, ot, mo) dX4_book_22 (by rw [hsp]))
theorem vTo_false {m : Nat → Nat} {f : Nat → Int64} {p o d n : Nat} (h : vTo m f p o d n = false) : ∀ k, vTo m f p o d (n + k) = false
  | 0 => h
  | k + 1 => by rw [← Nat.add_assoc, vTo, vTo_false h k]; rfl
set_option maxHeartbeats 4000000 in
set_option maxRecDepth 100000 in
theorem ct_X4_isBook (l : Launch) (g : KG) (b : Nat → Nat) (e : Nat → Int32) (m : Nat → Nat) (th ai ct ks ot : Nat → Int32) (tp sb sz : Nat → Nat) (nu : Nat → Nat → Int64) (mo : Nat → Int64) (a p o d : Nat)  {B : Nat} (hB : B + 40 < 2 ^ 30) (hm : vOk B m) (ha : a < 4) (hz : sz a ≤ 40) (hp : p < 8) (ho : o < 8) (hd : d < 6) : CT l yX4_isBook cX4_isBook 6 (some .boolean) (rmK 4) g [.ref (b 0), .int (nI a), .int (nI p), .int (nI o), .int (nI d)] (modW g b e m th ai ct ks ot tp sb sz nu mo) (S := (Nat → Nat) × (Nat → Int32)) oI (fun r _ => r = kb (vTo m (nu a) p o d (sz a))) (fun u => modW g b e u.1 u.2 ai ct ks ot tp sb sz nu mo) := by
  refine k_bodyI (by decide) (Nat.le_of_ble_eq_true rfl) (fun _ _ h => by rw [h]; exact kb_nar _) (fun J hJ hR => ?_)
  show J (modW g b e m th ai ct ks ot tp sb sz nu mo) [(0, .ref (b 0)), (1, .int (nI a)), (2, .int (nI p)), (3, .int (nI o)), (4, .int (nI d))] 0 []
  have L3 : ∀ (fu : Nat) (i : Nat) (T : Nat → Int32), (i ≤ sz a) → (sz a + 1 ≤ i + fu) → (vTo m (nu a) p o d i = true) → J (modW g b e (vIter vHour i m) T ai ct ks ot tp sb sz nu mo) [(0, .ref (b 0)), (1, .int (nI a)), (2, .int (nI p)), (3, .int (nI o)), (4, .int (nI d)), (5, .int (nI i))] 3 [] := by
    intro fu
    induction fu with
    | zero => intro i T hi hf hT; exfalso; omega
    | succ fu ih =>
      intro i T hi hf hT
      refine k_iload hJ dX4_isBook_3 5 rfl ?_
      refine k_aload_n hJ dX4_isBook_5 0 rfl ?_
      refine gf_X4_34 hJ 0 rfl rfl dX4_isBook_6 ?_
      refine k_iload_n hJ dX4_isBook_9 1 rfl ?_
      refine k_iald hJ 9 rfl a (by omega) (by decide) rfl dX4_isBook_10 ?_
      refine n_icmp_ge (tgt := 51) hJ dX4_isBook_11 (by decide) (by omega) (by omega) (fun c11 => ?_) (fun c11 => ?_)
      · refine k_iconst (v := nI 1) hJ dX4_isBook_51 (by decide) ?_
        refine hR _ _ _ (vIter vHour i m, T) dX4_isBook_52 ?_
        show kb true = _
        refine congrArg kb ?_
        rw [show sz a = i by omega, hT]
      · refine k_aload_n hJ dX4_isBook_14 0 rfl ?_
        refine gf_X4_37 hJ 0 rfl rfl dX4_isBook_15 ?_
        refine k_bipush (v := nI 40) hJ dX4_isBook_18 (by decide) ?_
        refine k_iload_n hJ dX4_isBook_20 1 rfl ?_
        refine n_imul hJ dX4_isBook_21 ?_
        refine k_iload hJ dX4_isBook_22 5 rfl ?_
        refine n_iadd hJ dX4_isBook_24 ?_
        refine k_lald hJ 10 rfl ((40 * a) + i) (by omega) (by decide) (show nu (((40 * a) + i) / 40) (((40 * a) + i) % 40) = nu a i by rw [show ((40 * a) + i) / 40 = a by omega, show ((40 * a) + i) % 40 = i by omega]) dX4_isBook_25 ?_
        refine k_aload_n hJ dX4_isBook_26 0 rfl ?_
        refine k_iload_n hJ dX4_isBook_27 2 rfl ?_
        refine k_iload_n hJ dX4_isBook_28 3 rfl ?_
        refine k_iload hJ dX4_isBook_29 4 rfl ?_
        refine c_VI (As := [.int (nI p), .int (nI o), .int (nI d)]) (st := [.long (nu a i)]) hJ (ct_X4_smell l g b e (vIter vHour i m) p o d (show B + i < 2 ^ 30 by omega) (vOk_iter hm i) hp ho hd) (frS rfl) mv_X4_smell ml_X4_126 0 rfl rfl rfl (kRm_ok (by decide) (by decide)) rfl rfl (Nat.le_of_ble_eq_true rfl) dX4_isBook_31 ?_
        refine k_i2l hJ dX4_isBook_34 rfl ?_
        refine k_lcmp hJ dX4_isBook_35 ?_
        refine k_if_eq (tgt := 41) hJ dX4_isBook_36 (by decide) (fun c36 => ?_) (fun c36 => ?_)
        · rw [lg_eq] at c36
          refine k_aload_n hJ dX4_isBook_41 0 rfl ?_
          refine k_callV (As := []) (st := []) hJ (ct_X4_hour l g b e (vIter vHour i m) T ai ct ks ot tp sb sz nu mo (show B + i < 2 ^ 30 by omega) (vOk_iter hm i)) (fun _ => Fr.all rfl) mv_X4_hour ml_X4_149 0 rfl rfl rfl (kRm_ok (by decide) (by decide)) rfl rfl (Nat.le_of_ble_eq_true rfl) dX4_isBook_42 (fun _ u _ => ?_)
          refine n_iinc (b := 1) (lv1 := [(0, .ref (b 0)), (1, .int (nI a)), (2, .int (nI p)), (3, .int (nI o)), (4, .int (nI d)), (5, .int (nI (i + 1)))]) hJ dX4_isBook_45 5 rfl (by decide) (by decide) [1, 2, 3, 4, 5, 0] rfl ?_
          refine k_goto (tgt := 3) hJ dX4_isBook_48 (by decide) ?_
          exact ih (i + 1) u (by omega) (by omega) (by rw [vTo, hT, decide_eq_true (show nu a i = vSmA m p o d i from c36)]; rfl)
        · rw [lg_eq] at c36
          refine k_iconst (v := nI 0) hJ dX4_isBook_39 (by decide) ?_
          refine hR _ _ _ (vIter vHour i m, T) dX4_isBook_40 ?_
          show kb false = _
          refine congrArg kb ?_
          have q : vTo m (nu a) p o d (i + 1) = false := by rw [vTo, decide_eq_false (show ¬ nu a i = vSmA m p o d i from c36), Bool.and_false]
          rw [show sz a = (i + 1) + (sz a - (i + 1)) by omega, vTo_false q]
  refine k_iconst (v := nI 0) hJ dX4_isBook_0 (by decide) ?_
  refine k_istore (lv1 := [(0, .ref (b 0)), (1, .int (nI a)), (2, .int (nI p)), (3, .int (nI o)), (4, .int (nI d)), (5, .int (nI 0))]) hJ dX4_isBook_1 (by decide) [1, 2, 3, 4, 5, 0] rfl ?_
  exact L3 (sz a + 1) 0 th (by omega) (by omega) rfl
set_option maxHeartbeats 4000000 in
set_option maxRecDepth 100000 in
theorem mp_read (l : Launch) (g : KG) (b : Nat → Nat) (j : MJ) (s : KS) (hs : kOk s) (x : Int32) (y : Int32) (z : Int32) (u : Int32) : CT l yX4_read cX4_read 8 (some .int) (rmK 5) g [.ref (b 0), .int x, .int y, .int z, .int u] (modA g b s j) (S := MJ) oI (fun r _ => r = (sp_read s x y z u).1) (fun j => modA g b (sp_read s x y z u).2 j) := by
  obtain ⟨m, k, kf, tp, tl, sb, sz, nu, ct⟩ := s
  obtain ⟨fj, mj, fr, to, va, iw, jk, th, ai, ot, mo⟩ := j
  obtain ⟨hm, hk, htl, htp, hsh⟩ := hs
  have h0 : m 0 ≤ 8 := hm.1
  have h1 : m 1 ≤ 9999 := hm.2.1
  have h2 : m 2 ≤ 4 := hm.2.2.1
  have h3 : m 3 ≤ 99 := hm.2.2.2.2.1
  have hB : 9999 < 2 ^ 30 := by decide
  refine k_bodyI (by decide) (Nat.le_of_ble_eq_true rfl) (fun _ _ _ => rfl) (fun J hJ hR => ?_)
  have hsb := fun s (h : s < 4) => (hsh s h).1
  have hsz := fun s (h : s < 4) => (hsh s h).2
  show J (modW g b (mE kf fj mj tl fr to va iw) m th ai ct (fun i => nI ((if kf then k else jk) i)) ot tp sb sz nu mo) [(0, .ref (b 0)), (1, .int x), (2, .int y), (3, .int z), (4, .int u)] 0 []
  refine k_aload_n hJ dX4_read_0 0 rfl ?_
  refine k_iload_n hJ dX4_read_1 1 rfl ?_
  refine k_iload_n hJ dX4_read_2 2 rfl ?_
  refine k_iload_n hJ dX4_read_3 3 rfl ?_
  refine k_iload hJ dX4_read_4 4 rfl ?_
  refine c_VI (As := [.int x, .int y, .int z, .int u]) (st := []) hJ (ct_X4_wrongBook l g b (mE kf fj mj tl fr to va iw) m th ai ct (fun i => nI ((if kf then k else jk) i)) ot tp sb sz nu mo x y z u (fun s h => by have := hsb s h; omega) h0) (Fr.all rfl) mv_X4_wrongBook ml_X4_294 0 rfl rfl rfl (kRm_ok (by decide) (by decide)) rfl rfl (Nat.le_of_ble_eq_true rfl) dX4_read_6 ?_
  refine k_istore (lv1 := [(0, .ref (b 0)), (1, .int x), (2, .int y), (3, .int z), (4, .int u), (5, .int (kWr (vWb m sb x y z u)))]) hJ dX4_read_9 (by decide) [1, 2, 3, 4, 5, 0] rfl ?_
  rcases hW : vWb m sb x y z u with _ | wi
  · show J (modW g b (mE kf fj mj tl fr to va iw) m th ai ct (fun i => nI ((if kf then k else jk) i)) ot tp sb sz nu mo) [(0, .ref (b 0)), (1, .int x), (2, .int y), (3, .int z), (4, .int u), (5, .int (nI 0))] 11 []
    have hWk := hW
    obtain ⟨px, py, pz, pu, hpx, hpy, hpz, hnyz, hpu, hb0, rfl, rfl, rfl, rfl⟩ := vWb_ok h0 hW
    have hzx := hsz px hpx
    have hbx := hsb px hpx
    refine k_iload hJ dX4_read_11 5 rfl ?_
    refine n_if_eq (tgt := 23) hJ dX4_read_13 (by decide) (by omega) (fun c13 => ?_) (fun c13 => ?_)
    · refine k_aload_n hJ dX4_read_23 0 rfl ?_
      refine c_VV (As := []) (st := []) hJ (ct_X4_laysAside l g b (mE kf fj mj tl fr to va iw) m th ai ct (fun i => nI ((if kf then k else jk) i)) ot tp sb sz nu mo) (Fr.all rfl) mv_X4_laysAside ml_X4_165 0 rfl rfl rfl (kRm_ok (by decide) (by decide)) rfl rfl (Nat.le_of_ble_eq_true rfl) dX4_read_24 ?_
      refine k_iconst (v := nI 0) hJ dX4_read_27 (by decide) ?_
      refine k_istore (lv1 := [(0, .ref (b 0)), (1, .int (nI px)), (2, .int (nI py)), (3, .int (nI pz)), (4, .int (nI pu)), (5, .int (nI 0)), (6, .int (nI 0))]) hJ dX4_read_28 (by decide) [1, 2, 3, 4, 5, 6, 0] rfl ?_
      refine k_iconst (v := nI 0) hJ dX4_read_30 (by decide) ?_
      refine k_istore (lv1 := [(0, .ref (b 0)), (1, .int (nI px)), (2, .int (nI py)), (3, .int (nI pz)), (4, .int (nI pu)), (5, .int (nI 0)), (6, .int (nI 0)), (7, .int (nI 0))]) hJ dX4_read_31 (by decide) [1, 2, 3, 4, 5, 6, 7, 0] rfl ?_
      have L33 : ∀ (fu : Nat) (v : Nat) (S : Nat) (T : Nat → Int32), (v ≤ 100) → (101 ≤ v + fu) → (S = vRe m (nu px) py pz pu (sz px) v) → J (modW g b (mE kf fj mj tl fr to va iw) m T (fun i => nI (m i)) ct (fun i => nI ((if kf then k else jk) i)) ot tp sb sz nu mo) [(0, .ref (b 0)), (1, .int (nI px)), (2, .int (nI py)), (3, .int (nI pz)), (4, .int (nI pu)), (6, .int (nI S)), (7, .int (nI v))] 33 [] := by
        intro fu
        induction fu with
        | zero => intro v S T hv hf hS; exfalso; omega
        | succ fu ih =>
          intro v S T hv hf hS
          refine k_iload hJ dX4_read_33 6 rfl ?_
          refine k_bipush (v := nI 99) hJ dX4_read_35 (by decide) ?_
          refine n_icmp_gt (tgt := 87) hJ dX4_read_37 (by decide) (by omega) (by omega) (fun c37 => ?_) (fun c37 => ?_)
          · refine k_iload hJ dX4_read_87 5 rfl ?_
            have hsp : sp_read (m, k, kf, tp, tl, sb, sz, nu, ct) (nI px) (nI py) (nI pz) (nI pu) = (nI S, (m, k, kf, tp, tl, sb, sz, nu, ct)) := by simp only [sp_read, hWk]; rw [tN_nI (show px < 2 ^ 31 by omega), tN_nI (show py < 2 ^ 31 by omega), tN_nI (show pz < 2 ^ 31 by omega), tN_nI (show pu < 2 ^ 31 by omega), hS, show v = 100 by omega]
            exact k_eqw (ws2 := modA g b (sp_read (m, k, kf, tp, tl, sb, sz, nu, ct) (nI px) (nI py) (nI pz) (nI pu)).2 (fj, mj, fr, to, va, iw, jk, T, fun i => nI (m i), ot, mo)) (by rw [hsp]; rfl) (hR _ _ _ (fj, mj, fr, to, va, iw, jk, T, fun i => nI (m i), ot, mo) dX4_read_89 (by rw [hsp]))
          · refine k_aload_n hJ dX4_read_40 0 rfl ?_
            refine gf_X4_7 (v := .ref (b 1)) hJ 0 rfl rfl dX4_read_41 ?_
            refine k_iload_n hJ dX4_read_44 3 rfl ?_
            refine k_iconst (v := nI 4) hJ dX4_read_45 (by decide) ?_
            refine k_iload hJ dX4_read_46 4 rfl ?_
            refine n_iadd hJ dX4_read_48 ?_
            refine c_SI (As := [.int (nI pz), .int (nI (4 + pu))]) (st := [.ref (b 1)]) hJ (ct_X4_spot l g pz (4 + pu) ) Fr.none ms_X4_spot ml_X4_57 (kRm_ok (by decide) (by decide)) rfl rfl (Nat.le_of_ble_eq_true rfl) dX4_read_49 ?_
            refine k_iload hJ dX4_read_52 6 rfl ?_
            refine k_iast (ws2 := modW g b (mE kf fj mj tl fr to va iw) (vUp m (4 + 10 * pz + (4 + pu)) v) T (fun i => nI (m i)) ct (fun i => nI ((if kf then k else jk) i)) ot tp sb sz nu mo) hJ 1 rfl (4 + 10 * pz + (4 + pu)) (by omega) (by decide) (mw_s (v := v)) dX4_read_54 ?_
            refine k_aload_n hJ dX4_read_55 0 rfl ?_
            refine k_iload hJ dX4_read_56 5 rfl ?_
            refine k_aload_n hJ dX4_read_58 0 rfl ?_
            refine k_iload_n hJ dX4_read_59 1 rfl ?_
            refine k_iload_n hJ dX4_read_60 2 rfl ?_
            refine k_iload_n hJ dX4_read_61 3 rfl ?_
            refine k_iload hJ dX4_read_62 4 rfl ?_
            refine k_callV (As := [.int (nI px), .int (nI py), .int (nI pz), .int (nI pu)]) (st := [.int (nI S), .ref (b 0)]) hJ (ct_X4_isBook l g b (mE kf fj mj tl fr to va iw) (vUp m (4 + 10 * pz + (4 + pu)) v) T (fun i => nI (m i)) ct (fun i => nI ((if kf then k else jk) i)) ot tp sb sz nu mo px py pz pu (show 9999 + 40 < 2 ^ 30 by decide) (vOk_sc hm pz pu hpu (show v ≤ 99 by omega)) hpx hzx (by omega) (by omega) hpu) (fun _ => Fr.all rfl) mv_X4_isBook ml_X4_298 0 rfl rfl rfl (kRm_ok (by decide) (by decide)) rfl rfl (Nat.le_of_ble_eq_true rfl) dX4_read_64 (fun r u hr => ?_)
            subst hr
            show J (modW g b (mE kf fj mj tl fr to va iw) u.1 u.2 (fun i => nI (m i)) ct (fun i => nI ((if kf then k else jk) i)) ot tp sb sz nu mo) [(0, .ref (b 0)), (1, .int (nI px)), (2, .int (nI py)), (3, .int (nI pz)), (4, .int (nI pu)), (6, .int (nI S)), (7, .int (nI v))] 67 [.int (kb (vTo (vUp m (4 + 10 * pz + (4 + pu)) v) (nu px) py pz pu (sz px))), .int (nI S), .ref (b 0)]
            refine b_if_eq (tgt := 74) hJ dX4_read_67 (by decide) (fun c67 => ?_) (fun c67 => ?_)
            · refine k_iconst (v := nI 0) hJ dX4_read_74 (by decide) ?_
              refine n_iadd hJ dX4_read_75 ?_
              refine c_VI (As := [.int (nI (S + 0))]) (st := []) hJ (ct_X4_takesBack l g b (mE kf fj mj tl fr to va iw) u.1 u.2 (fun i => nI (m i)) ct (fun i => nI ((if kf then k else jk) i)) ot tp sb sz nu mo m (nI (S + 0))) (Fr.all rfl) mv_X4_takesBack ml_X4_168 0 rfl rfl rfl (kRm_ok (by decide) (by decide)) rfl rfl (Nat.le_of_ble_eq_true rfl) dX4_read_76 ?_
              refine k_istore (lv1 := [(0, .ref (b 0)), (1, .int (nI px)), (2, .int (nI py)), (3, .int (nI pz)), (4, .int (nI pu)), (6, .int (nI (S + 0))), (7, .int (nI v))]) hJ dX4_read_79 (by decide) [1, 2, 3, 4, 5, 0, 6] rfl ?_
              refine n_iinc (b := 1) (lv1 := [(0, .ref (b 0)), (1, .int (nI px)), (2, .int (nI py)), (3, .int (nI pz)), (4, .int (nI pu)), (6, .int (nI (S + 0))), (7, .int (nI (v + 1)))]) hJ dX4_read_81 6 rfl (by decide) (by decide) [1, 2, 3, 4, 5, 6, 0] rfl ?_
              refine k_goto (tgt := 33) hJ dX4_read_84 (by decide) ?_
              exact ih (v + 1) _ _ (by omega) (by omega) (by rw [vRe, c67, hS]; rfl)
            · refine k_iconst (v := nI 1) hJ dX4_read_70 (by decide) ?_
              refine k_goto (tgt := 75) hJ dX4_read_71 (by decide) ?_
              refine n_iadd hJ dX4_read_75 ?_
              refine c_VI (As := [.int (nI (S + 1))]) (st := []) hJ (ct_X4_takesBack l g b (mE kf fj mj tl fr to va iw) u.1 u.2 (fun i => nI (m i)) ct (fun i => nI ((if kf then k else jk) i)) ot tp sb sz nu mo m (nI (S + 1))) (Fr.all rfl) mv_X4_takesBack ml_X4_168 0 rfl rfl rfl (kRm_ok (by decide) (by decide)) rfl rfl (Nat.le_of_ble_eq_true rfl) dX4_read_76 ?_
              refine k_istore (lv1 := [(0, .ref (b 0)), (1, .int (nI px)), (2, .int (nI py)), (3, .int (nI pz)), (4, .int (nI pu)), (6, .int (nI (S + 1))), (7, .int (nI v))]) hJ dX4_read_79 (by decide) [1, 2, 3, 4, 5, 0, 6] rfl ?_
              refine n_iinc (b := 1) (lv1 := [(0, .ref (b 0)), (1, .int (nI px)), (2, .int (nI py)), (3, .int (nI pz)), (4, .int (nI pu)), (6, .int (nI (S + 1))), (7, .int (nI (v + 1)))]) hJ dX4_read_81 6 rfl (by decide) (by decide) [1, 2, 3, 4, 5, 6, 0] rfl ?_
              refine k_goto (tgt := 33) hJ dX4_read_84 (by decide) ?_
              exact ih (v + 1) _ _ (by omega) (by omega) (by rw [vRe, c67, hS]; rfl)
      refine k_lv (lv1 := [(0, .ref (b 0)), (1, .int (nI px)), (2, .int (nI py)), (3, .int (nI pz)), (4, .int (nI pu)), (6, .int (nI 0)), (7, .int (nI 0))]) hJ [0, 1, 2, 3, 4, 6, 7] rfl ?_
      exact L33 101 0 0 th (by omega) (by omega) rfl
    · exact absurd c13 (by decide)
  · show J (modW g b (mE kf fj mj tl fr to va iw) m th ai ct (fun i => nI ((if kf then k else jk) i)) ot tp sb sz nu mo) [(0, .ref (b 0)), (1, .int x), (2, .int y), (3, .int z), (4, .int u), (5, .int (kFi wi))] 11 []
    have hwi : wi < 7 := vWb_lt hW
    refine k_iload hJ dX4_read_11 5 rfl ?_
    refine k_if_eq (tgt := 23) hJ dX4_read_13 (by decide) (fun c13 => ?_) (fun c13 => ?_)
    · exact absurd c13 (kWr_0 wi hwi)
    · refine k_aload_n hJ dX4_read_16 0 rfl ?_
      refine k_iload hJ dX4_read_17 5 rfl ?_
      refine c_VI (As := [.int (kFi wi)]) (st := []) hJ (ct_X4_finds l g b (mE kf fj mj tl fr to va iw) m th ai ct (fun i => nI ((if kf then k else jk) i)) ot tp sb sz nu mo wi hwi) (Fr.all rfl) mv_X4_finds ml_X4_68 0 rfl rfl rfl (kRm_ok (by decide) (by decide)) rfl rfl (Nat.le_of_ble_eq_true rfl) dX4_read_19 ?_
      have hsp : sp_read (m, k, kf, tp, tl, sb, sz, nu, ct) x y z u = (kFi wi, (m, k, kf, tp, tl, sb, sz, nu, kTe ct wi)) := by simp only [sp_read, hW]; rfl
      exact k_eqw (ws2 := modA g b (sp_read (m, k, kf, tp, tl, sb, sz, nu, ct) x y z u).2 (fj, mj, fr, to, va, iw, jk, th, ai, ot, mo)) (by rw [hsp]; rfl) (hR _ _ _ (fj, mj, fr, to, va, iw, jk, th, ai, ot, mo) dX4_read_22 (by rw [hsp]))
