theorem vS1_id {α : Type} (f : Nat → α) (s : Nat) : vS1 f s (f s) = f := funext fun j => by
  by_cases e : j = s
  · rw [e, vS1_s]
  · rw [vS1_ne e]
theorem vNc_id (nu : Nat → Nat → Int64) (s : Nat) : vNc nu s (nu s) = nu := funext fun j => by
  by_cases e : j = s
  · rw [e, vNc_s]
  · rw [vNc_ne e]
section CS
variable {g : KG} {a aK aL aT : Nat → Nat} {kf : Bool} {ct : Nat → Int32} {k : Nat → Nat} {lk : Nat → Int32} {m : Nat → Nat} {lm : Nat → Int32} {t : Nat → Nat} {lt : Nat → Int32} {tp : Nat → Nat} {tl nx tk sr va : Nat} {sb sz : Nat → Nat} {nu : Nat → Nat → Int64}
theorem cls_frSn {s : Nat} {f2 : Nat → Int64} (hs : s < 4) : Fr (clsW g a aK aL aT kf ct k lk m lm t lt tp tl nx tk sr va sb sz nu) (shS g a (sb s) (sz s) (nu s) s) (shS g a (sb s) (sz s) f2 s) (clsW g a aK aL aT kf ct k lk m lm t lt tp tl nx tk sr va sb sz (vNc nu s f2)) := by
  have h := cls_frS (g := g) (a := a) (aK := aK) (aL := aL) (aT := aT) (kf := kf) (ct := ct) (k := k) (lk := lk) (m := m) (lm := lm) (t := t) (lt := lt) (tp := tp) (tl := tl) (nx := nx) (tk := tk) (sr := sr) (va := va) (sb := sb) (sz := sz) (nu := nu) (s := s) (c2 := sb s) (z2 := sz s) (f2 := f2) hs
  rw [vS1_id, vS1_id] at h
  exact h
theorem cls_frS0 {s : Nat} (hs : s < 4) : Fr (clsW g a aK aL aT kf ct k lk m lm t lt tp tl nx tk sr va sb sz nu) (shS g a (sb s) (sz s) (nu s) s) (shS g a (sb s) (sz s) (nu s) s) (clsW g a aK aL aT kf ct k lk m lm t lt tp tl nx tk sr va sb sz nu) := by
  have h := cls_frSn (g := g) (a := a) (aK := aK) (aL := aL) (aT := aT) (kf := kf) (ct := ct) (k := k) (lk := lk) (m := m) (lm := lm) (t := t) (lt := lt) (tp := tp) (tl := tl) (nx := nx) (tk := tk) (sr := sr) (va := va) (sb := sb) (sz := sz) (nu := nu) (s := s) (f2 := nu s) hs
  rw [vNc_id] at h
  exact h
theorem cls_frSi {s i : Nat} {v : Int64} (hs : s < 4) : Fr (clsW g a aK aL aT kf ct k lk m lm t lt tp tl nx tk sr va sb sz nu) (shS g a (sb s) (sz s) (nu s) s) (shS g a (sb s) (sz s) (vp_updL (nu s) i v) s) (clsW g a aK aL aT kf ct k lk m lm t lt tp tl nx tk sr va sb sz (vN nu s i v)) := by
  rw [← vN_c]
  exact cls_frSn hs
end CS
def vInR (x lo hi : Int32) : Bool := if x < lo then false else if hi < x then false else true
theorem vInR_pp {x : Int32} {n : Nat} (hn : n < 2 ^ 30) : vInR x (nI 0) (nI n - nI 1) = vIn x n := by
  rw [← vInL_pp hn]
  unfold vInR vInL
  rw [show (0 : Int64) = (nI 0).toInt64 by decide]
  simp only [w_lt]
theorem vRun_of {x y : Int32} {z : Nat} (hz : z ≤ 40) (h : vRun x y z = true) : ∃ p q, p + q ≤ z ∧ x = nI p ∧ y = nI q := by
  by_cases c : x < 0
  · rw [vRun_s c] at h; cases h
  · by_cases c2 : y < 0
    · rw [vRun_n c2] at h; cases h
    · obtain ⟨p, hp, rfl⟩ := nI_of c
      obtain ⟨q, hq, rfl⟩ := nI_of c2
      rw [vRun_nI hp hq hz] at h
      exact ⟨p, q, of_decide_eq_true h, rfl, rfl⟩
theorem vRun_of1 {x : Int32} {q z : Nat} (hz : z ≤ 40) (hq : q ≤ 40) (h : vRun x (nI q) z = true) : ∃ p, p + q ≤ z ∧ x = nI p := by
  by_cases c : x < 0
  · rw [vRun_s c] at h; cases h
  · obtain ⟨p, hp, rfl⟩ := nI_of c
    rw [vRun_nI hp (by omega) hz] at h
    exact ⟨p, of_decide_eq_true h, rfl⟩
theorem lg_48 {v : Int64} (h1 : ¬ v < 0) : v < 48 ↔ ¬ 47 < v := by
  obtain ⟨k, hk, rfl⟩ := pk_lOf h1
  have e1 := pk_lLT (a := 47) (b := k) (by decide) hk
  have e2 := pk_lLT (a := k) (b := 48) hk (by decide)
  constructor
  · intro q r
    have a := e1.mp r
    have b := e2.mp q
    omega
  · intro q
    exact e2.mpr (by have : ¬ 47 < k := fun r => q (e1.mpr r); omega)
set_option maxHeartbeats 4000000 in
set_option maxRecDepth 100000 in
theorem ct_X3_withinR (l : Launch) (g : KG) (x lo hi : Int32)  : CI l yX3_within cX3_within 3 (some .boolean) (rmK 0) g [.int x, .int lo, .int hi] ([]) (kb (vInR x lo hi)) ([]) := by
  refine k_bodyI (by decide) (Nat.le_of_ble_eq_true rfl) (fun _ _ h => by rw [h]; exact kb_nar _) (fun J hJ hR => ?_)
  show J ([]) [(0, .int x), (1, .int lo), (2, .int hi)] 0 []
  refine k_iload_n hJ dX3_within_0 0 rfl ?_
  refine k_iload_n hJ dX3_within_1 1 rfl ?_
  refine k_icmp_lt (tgt := 14) hJ dX3_within_2 (by decide) (fun c2 => ?_) (fun c2 => ?_)
  · refine k_iconst (v := nI 0) hJ dX3_within_14 (by decide) ?_
    exact hR _ _ _ () dX3_within_15 (by unfold vInR; simp only [c2, if_true, if_false]; rfl)
  · refine k_iload_n hJ dX3_within_5 0 rfl ?_
    refine k_iload_n hJ dX3_within_6 2 rfl ?_
    refine k_icmp_gt (tgt := 14) hJ dX3_within_7 (by decide) (fun c7 => ?_) (fun c7 => ?_)
    · refine k_iconst (v := nI 0) hJ dX3_within_14 (by decide) ?_
      exact hR _ _ _ () dX3_within_15 (by unfold vInR; simp only [c2, c7, if_true, if_false]; rfl)
    · refine k_iconst (v := nI 1) hJ dX3_within_10 (by decide) ?_
      refine k_goto (tgt := 15) hJ dX3_within_11 (by decide) ?_
      exact hR _ _ _ () dX3_within_15 (by unfold vInR; simp only [c2, c7, if_true, if_false]; rfl)
set_option maxHeartbeats 4000000 in
set_option maxRecDepth 100000 in
theorem cp_sheet (l : Launch) (g : KG) (a aK aL aT : Nat → Nat) (j : CJ) (s : KS) (hs : kOk s) (x : Int32) (y : Int32) (z : Int32) : CT l yX3_sheet cX3_sheet 4 (some .int) (rmK 2) g [.ref (a 0), .int x, .int y, .int z] (clsA g a aK aL aT s j) (S := CJ) oI (fun r _ => r = (sp_sheet s x y z).1) (fun j => clsA g a aK aL aT (sp_sheet s x y z).2 j) := by
  obtain ⟨m, k, kf, tp, tl, sb, sz, nu, ct⟩ := s
  obtain ⟨jk, lk, lm, t, lt, nx, tk, sr, va⟩ := j
  obtain ⟨hm, hk, htl, htp, hsh⟩ := hs
  have h0 : m 0 ≤ 8 := hm.1
  have h1 : m 1 ≤ 9999 := hm.2.1
  have h2 : m 2 ≤ 4 := hm.2.2.1
  have h3 : m 3 ≤ 99 := hm.2.2.2.2.1
  have hB : 9999 < 2 ^ 30 := by decide
  refine k_bodyI (by decide) (Nat.le_of_ble_eq_true rfl) (fun _ _ _ => rfl) (fun J hJ hR => ?_)
  have hsb := fun s (h : s < 4) => (hsh s h).1
  have hsz := fun s (h : s < 4) => (hsh s h).2
  show J (clsW g a aK aL aT kf ct (if kf then k else jk) lk m lm t lt tp tl nx tk sr va sb sz nu) [(0, .ref (a 0)), (1, .int x), (2, .int y), (3, .int z)] 0 []
  refine k_iload_n hJ dX3_sheet_0 1 rfl ?_
  refine c_SI (As := [.int x]) (st := []) hJ (ct_X3_isSheet l g x) Fr.none ms_X3_isSheet ml_X3_193 (kRm_ok (by decide) (by decide)) rfl rfl (Nat.le_of_ble_eq_true rfl) dX3_sheet_1 ?_
  refine b_if_eq (tgt := 29) hJ dX3_sheet_4 (by decide) (fun c4 => ?_) (fun c4 => ?_)
  · refine k_aload_n hJ dX3_sheet_29 0 rfl ?_
    refine k_ldc hJ dX3_sheet_30 cw_X3_55 ?_
    refine k_eqs (st2 := [.int (kFi 0), .ref (a 0)]) (by rw [kFi_c0]) ?_
    refine c_VI (As := [.int (kFi 0)]) (st := []) hJ (ct_X3_tell l g a aK aL aT kf ct 0 (by decide)) cls_frX mv_X3_tell ml_X3_56 0 rfl rfl rfl (kRm_ok (by decide) (by decide)) rfl rfl (Nat.le_of_ble_eq_true rfl) dX3_sheet_32 ?_
    have hsp : sp_sheet (m, k, kf, tp, tl, sb, sz, nu, ct) x y z = (kFi 0, (m, k, kf, tp, tl, sb, sz, nu, kTe ct 0)) := by simp [sp_sheet, sp_tell, nI_l0, nI_l8, nI_l16, nI_l64, c4]
    exact k_eqw (ws2 := clsA g a aK aL aT (sp_sheet (m, k, kf, tp, tl, sb, sz, nu, ct) x y z).2 (jk, lk, lm, t, lt, nx, tk, sr, va)) (by rw [hsp]; rfl) (hR _ _ _ (jk, lk, lm, t, lt, nx, tk, sr, va) dX3_sheet_35 (by rw [hsp]))
  · obtain ⟨px, hpx, rfl⟩ := vIn_of (by omega) c4
    refine k_iload_n hJ dX3_sheet_7 2 rfl ?_
    refine k_if_eq (tgt := 36) hJ dX3_sheet_8 (by decide) (fun (c8 : y = nI 0) => ?_) (fun c8 => ?_)
    · subst c8
      refine k_iload_n hJ dX3_sheet_36 3 rfl ?_
      refine k_if_ge (tgt := 47) hJ dX3_sheet_37 (by decide) (fun c37 => ?_) (fun c37 => ?_)
      · obtain ⟨pz, hpz, rfl⟩ := nI_of (Int32.not_lt.mpr c37)
        refine k_iload_n hJ dX3_sheet_47 3 rfl ?_
        refine k_bipush (v := nI 40) hJ dX3_sheet_48 (by decide) ?_
        refine n_icmp_le (tgt := 60) hJ dX3_sheet_50 (by decide) (by omega) (by omega) (fun c50 => ?_) (fun c50 => ?_)
        · refine k_aload_n hJ dX3_sheet_60 0 rfl ?_
          refine gf_X3_31 (v := .ref (a 4)) hJ 0 rfl rfl dX3_sheet_61 ?_
          refine k_iload_n hJ dX3_sheet_64 1 rfl ?_
          refine k_aaldS (f := fun i => some (a (5 + 2 * i))) (b := a (5 + 2 * px)) hJ 43 rfl px (by omega) (by decide) rfl dX3_sheet_65 ?_
          refine k_iload_n hJ dX3_sheet_66 2 rfl ?_
          refine k_iload_n hJ dX3_sheet_67 2 rfl ?_
          refine n_if_ne (tgt := 75) hJ dX3_sheet_68 (by decide) (by omega) (fun c68 => ?_) (fun c68 => ?_)
          · exact absurd c68 (by decide)
          · refine k_iconst (v := nI 0) hJ dX3_sheet_71 (by decide) ?_
            refine k_goto (tgt := 76) hJ dX3_sheet_72 (by decide) ?_
            refine c_VV (As := [.int (nI 0), .int (nI 0)]) (st := []) hJ (ct_X1_renew l g a (sb px) (sz px) (nu px) px 0 0) (cls_frS hpx) mv_X1_renew ml_X3_197 (44 + 2 * px) (cls_sh hpx) rfl rfl (kRm_ok (by decide) (by decide)) rfl rfl (Nat.le_of_ble_eq_true rfl) dX3_sheet_76 ?_
            show J (clsW g a aK aL aT kf ct (if kf then k else jk) lk m lm t lt tp tl nx tk sr va (vUp sb px 0) (vUp sz px 0) (fun s i => if s = px then 0 else nu s i)) [(0, .ref (a 0)), (1, .int (nI px)), (2, .int (nI 0)), (3, .int (nI pz))] 79 []
            refine k_aload_n hJ dX3_sheet_79 0 rfl ?_
            refine gf_X3_31 (v := .ref (a 4)) hJ 0 rfl rfl dX3_sheet_80 ?_
            refine k_iload_n hJ dX3_sheet_83 1 rfl ?_
            refine k_aaldS (f := fun i => some (a (5 + 2 * i))) (b := a (5 + 2 * px)) hJ 43 rfl px (by omega) (by decide) rfl dX3_sheet_84 ?_
            refine gf_X3_201 (v := .int (nI ((vUp sz px 0) px))) hJ (44 + 2 * px) (cls_sh (by omega)) rfl dX3_sheet_85 ?_
            have hz : (vUp sz px 0) px = 0 := vUp_s _ _ _
            refine k_eqs (st2 := [.int (nI 0)]) (by rw [hz]) ?_
            have hsp : sp_sheet (m, k, kf, tp, tl, sb, sz, nu, ct) (nI px) (nI 0) (nI pz) = (nI 0, (m, k, kf, tp, tl, vUp sb px 0, vUp sz px 0, fun s i => if s = px then 0 else nu s i, ct)) := by simp [sp_sheet, c4, tN_l0, nI_clamp (show px < 2 ^ 31 by omega), nI_clamp (show pz < 2 ^ 31 by omega), nI_nlt0 (show pz < 2 ^ 31 by omega), nI_gt40 (show pz ≤ 40 by omega), tN_l8, tN_l16, tN_l64, nI_l8, nI_l16, nI_l64, nI_l0]
            exact k_eqw (ws2 := clsA g a aK aL aT (sp_sheet (m, k, kf, tp, tl, sb, sz, nu, ct) (nI px) (nI 0) (nI pz)).2 (jk, lk, lm, t, lt, nx, tk, sr, va)) (by rw [hsp]; rfl) (hR _ _ _ (jk, lk, lm, t, lt, nx, tk, sr, va) dX3_sheet_88 (by rw [hsp]))
        · refine k_aload_n hJ dX3_sheet_53 0 rfl ?_
          refine k_ldc hJ dX3_sheet_54 cw_X3_55 ?_
          refine k_eqs (st2 := [.int (kFi 0), .ref (a 0)]) (by rw [kFi_c0]) ?_
          refine c_VI (As := [.int (kFi 0)]) (st := []) hJ (ct_X3_tell l g a aK aL aT kf ct 0 (by decide)) cls_frX mv_X3_tell ml_X3_56 0 rfl rfl rfl (kRm_ok (by decide) (by decide)) rfl rfl (Nat.le_of_ble_eq_true rfl) dX3_sheet_56 ?_
          have hsp : sp_sheet (m, k, kf, tp, tl, sb, sz, nu, ct) (nI px) (nI 0) (nI pz) = (kFi 0, (m, k, kf, tp, tl, sb, sz, nu, kTe ct 0)) := by simp [sp_sheet, sp_tell, nI_l0, nI_l8, nI_l16, nI_l64, c4, nI_nlt0 hpz, nI_is40 c50 hpz]
          exact k_eqw (ws2 := clsA g a aK aL aT (sp_sheet (m, k, kf, tp, tl, sb, sz, nu, ct) (nI px) (nI 0) (nI pz)).2 (jk, lk, lm, t, lt, nx, tk, sr, va)) (by rw [hsp]; rfl) (hR _ _ _ (jk, lk, lm, t, lt, nx, tk, sr, va) dX3_sheet_59 (by rw [hsp]))
      · refine k_aload_n hJ dX3_sheet_40 0 rfl ?_
        refine k_ldc hJ dX3_sheet_41 cw_X3_196 ?_
        refine k_eqs (st2 := [.int (kFi 6), .ref (a 0)]) (by rw [kFi_c6]) ?_
        refine c_VI (As := [.int (kFi 6)]) (st := []) hJ (ct_X3_tell l g a aK aL aT kf ct 6 (by decide)) cls_frX mv_X3_tell ml_X3_56 0 rfl rfl rfl (kRm_ok (by decide) (by decide)) rfl rfl (Nat.le_of_ble_eq_true rfl) dX3_sheet_43 ?_
        have hsp : sp_sheet (m, k, kf, tp, tl, sb, sz, nu, ct) (nI px) (nI 0) z = (kFi 6, (m, k, kf, tp, tl, sb, sz, nu, kTe ct 6)) := by simp [sp_sheet, sp_tell, nI_l0, nI_l8, nI_l16, nI_l64, c4, c37]
        exact k_eqw (ws2 := clsA g a aK aL aT (sp_sheet (m, k, kf, tp, tl, sb, sz, nu, ct) (nI px) (nI 0) z).2 (jk, lk, lm, t, lt, nx, tk, sr, va)) (by rw [hsp]; rfl) (hR _ _ _ (jk, lk, lm, t, lt, nx, tk, sr, va) dX3_sheet_46 (by rw [hsp]))
    · refine k_iload_n hJ dX3_sheet_11 2 rfl ?_
      refine k_bipush (v := nI 8) hJ dX3_sheet_12 (by decide) ?_
      refine k_icmp_eq (tgt := 36) hJ dX3_sheet_14 (by decide) (fun (c14 : y = nI 8) => ?_) (fun (c14 : ¬ y = (8 : Int32)) => ?_)
      · subst c14
        refine k_iload_n hJ dX3_sheet_36 3 rfl ?_
        refine k_if_ge (tgt := 47) hJ dX3_sheet_37 (by decide) (fun c37 => ?_) (fun c37 => ?_)
        · obtain ⟨pz, hpz, rfl⟩ := nI_of (Int32.not_lt.mpr c37)
          refine k_iload_n hJ dX3_sheet_47 3 rfl ?_
          refine k_bipush (v := nI 40) hJ dX3_sheet_48 (by decide) ?_
          refine n_icmp_le (tgt := 60) hJ dX3_sheet_50 (by decide) (by omega) (by omega) (fun c50 => ?_) (fun c50 => ?_)
          · refine k_aload_n hJ dX3_sheet_60 0 rfl ?_
            refine gf_X3_31 (v := .ref (a 4)) hJ 0 rfl rfl dX3_sheet_61 ?_
            refine k_iload_n hJ dX3_sheet_64 1 rfl ?_
            refine k_aaldS (f := fun i => some (a (5 + 2 * i))) (b := a (5 + 2 * px)) hJ 43 rfl px (by omega) (by decide) rfl dX3_sheet_65 ?_
            refine k_iload_n hJ dX3_sheet_66 2 rfl ?_
            refine k_iload_n hJ dX3_sheet_67 2 rfl ?_
            refine n_if_ne (tgt := 75) hJ dX3_sheet_68 (by decide) (by omega) (fun c68 => ?_) (fun c68 => ?_)
            · refine k_iload_n hJ dX3_sheet_75 3 rfl ?_
              refine c_VV (As := [.int (nI 8), .int (nI pz)]) (st := []) hJ (ct_X1_renew l g a (sb px) (sz px) (nu px) px 8 pz) (cls_frS hpx) mv_X1_renew ml_X3_197 (44 + 2 * px) (cls_sh hpx) rfl rfl (kRm_ok (by decide) (by decide)) rfl rfl (Nat.le_of_ble_eq_true rfl) dX3_sheet_76 ?_
              show J (clsW g a aK aL aT kf ct (if kf then k else jk) lk m lm t lt tp tl nx tk sr va (vUp sb px 8) (vUp sz px pz) (fun s i => if s = px then 0 else nu s i)) [(0, .ref (a 0)), (1, .int (nI px)), (2, .int (nI 8)), (3, .int (nI pz))] 79 []
              refine k_aload_n hJ dX3_sheet_79 0 rfl ?_
              refine gf_X3_31 (v := .ref (a 4)) hJ 0 rfl rfl dX3_sheet_80 ?_
              refine k_iload_n hJ dX3_sheet_83 1 rfl ?_
              refine k_aaldS (f := fun i => some (a (5 + 2 * i))) (b := a (5 + 2 * px)) hJ 43 rfl px (by omega) (by decide) rfl dX3_sheet_84 ?_
              refine gf_X3_201 (v := .int (nI ((vUp sz px pz) px))) hJ (44 + 2 * px) (cls_sh (by omega)) rfl dX3_sheet_85 ?_
              have hz : (vUp sz px pz) px = pz := vUp_s _ _ _
              refine k_eqs (st2 := [.int (nI pz)]) (by rw [hz]) ?_
              have hsp : sp_sheet (m, k, kf, tp, tl, sb, sz, nu, ct) (nI px) (nI 8) (nI pz) = (nI pz, (m, k, kf, tp, tl, vUp sb px 8, vUp sz px pz, fun s i => if s = px then 0 else nu s i, ct)) := by simp [sp_sheet, c4, tN_l0, nI_clamp (show px < 2 ^ 31 by omega), nI_clamp (show pz < 2 ^ 31 by omega), nI_nlt0 (show pz < 2 ^ 31 by omega), nI_gt40 (show pz ≤ 40 by omega), tN_l8, tN_l16, tN_l64, nI_l8, nI_l16, nI_l64, nI_l0]
              exact k_eqw (ws2 := clsA g a aK aL aT (sp_sheet (m, k, kf, tp, tl, sb, sz, nu, ct) (nI px) (nI 8) (nI pz)).2 (jk, lk, lm, t, lt, nx, tk, sr, va)) (by rw [hsp]; rfl) (hR _ _ _ (jk, lk, lm, t, lt, nx, tk, sr, va) dX3_sheet_88 (by rw [hsp]))
            · exact absurd c68 (by decide)
          · refine k_aload_n hJ dX3_sheet_53 0 rfl ?_
            refine k_ldc hJ dX3_sheet_54 cw_X3_55 ?_
            refine k_eqs (st2 := [.int (kFi 0), .ref (a 0)]) (by rw [kFi_c0]) ?_
            refine c_VI (As := [.int (kFi 0)]) (st := []) hJ (ct_X3_tell l g a aK aL aT kf ct 0 (by decide)) cls_frX mv_X3_tell ml_X3_56 0 rfl rfl rfl (kRm_ok (by decide) (by decide)) rfl rfl (Nat.le_of_ble_eq_true rfl) dX3_sheet_56 ?_
            have hsp : sp_sheet (m, k, kf, tp, tl, sb, sz, nu, ct) (nI px) (nI 8) (nI pz) = (kFi 0, (m, k, kf, tp, tl, sb, sz, nu, kTe ct 0)) := by simp [sp_sheet, sp_tell, nI_l0, nI_l8, nI_l16, nI_l64, c4, c8, nI_nlt0 hpz, nI_is40 c50 hpz]
            exact k_eqw (ws2 := clsA g a aK aL aT (sp_sheet (m, k, kf, tp, tl, sb, sz, nu, ct) (nI px) (nI 8) (nI pz)).2 (jk, lk, lm, t, lt, nx, tk, sr, va)) (by rw [hsp]; rfl) (hR _ _ _ (jk, lk, lm, t, lt, nx, tk, sr, va) dX3_sheet_59 (by rw [hsp]))
        · refine k_aload_n hJ dX3_sheet_40 0 rfl ?_
          refine k_ldc hJ dX3_sheet_41 cw_X3_196 ?_
          refine k_eqs (st2 := [.int (kFi 6), .ref (a 0)]) (by rw [kFi_c6]) ?_
          refine c_VI (As := [.int (kFi 6)]) (st := []) hJ (ct_X3_tell l g a aK aL aT kf ct 6 (by decide)) cls_frX mv_X3_tell ml_X3_56 0 rfl rfl rfl (kRm_ok (by decide) (by decide)) rfl rfl (Nat.le_of_ble_eq_true rfl) dX3_sheet_43 ?_
          have hsp : sp_sheet (m, k, kf, tp, tl, sb, sz, nu, ct) (nI px) (nI 8) z = (kFi 6, (m, k, kf, tp, tl, sb, sz, nu, kTe ct 6)) := by simp [sp_sheet, sp_tell, nI_l0, nI_l8, nI_l16, nI_l64, c4, c8, c37]
          exact k_eqw (ws2 := clsA g a aK aL aT (sp_sheet (m, k, kf, tp, tl, sb, sz, nu, ct) (nI px) (nI 8) z).2 (jk, lk, lm, t, lt, nx, tk, sr, va)) (by rw [hsp]; rfl) (hR _ _ _ (jk, lk, lm, t, lt, nx, tk, sr, va) dX3_sheet_46 (by rw [hsp]))
      · refine k_iload_n hJ dX3_sheet_17 2 rfl ?_
        refine k_bipush (v := nI 16) hJ dX3_sheet_18 (by decide) ?_
        refine k_icmp_eq (tgt := 36) hJ dX3_sheet_20 (by decide) (fun (c20 : y = nI 16) => ?_) (fun (c20 : ¬ y = (16 : Int32)) => ?_)
        · subst c20
          refine k_iload_n hJ dX3_sheet_36 3 rfl ?_
          refine k_if_ge (tgt := 47) hJ dX3_sheet_37 (by decide) (fun c37 => ?_) (fun c37 => ?_)
          · obtain ⟨pz, hpz, rfl⟩ := nI_of (Int32.not_lt.mpr c37)
            refine k_iload_n hJ dX3_sheet_47 3 rfl ?_
            refine k_bipush (v := nI 40) hJ dX3_sheet_48 (by decide) ?_
            refine n_icmp_le (tgt := 60) hJ dX3_sheet_50 (by decide) (by omega) (by omega) (fun c50 => ?_) (fun c50 => ?_)
            · refine k_aload_n hJ dX3_sheet_60 0 rfl ?_
              refine gf_X3_31 (v := .ref (a 4)) hJ 0 rfl rfl dX3_sheet_61 ?_
              refine k_iload_n hJ dX3_sheet_64 1 rfl ?_
              refine k_aaldS (f := fun i => some (a (5 + 2 * i))) (b := a (5 + 2 * px)) hJ 43 rfl px (by omega) (by decide) rfl dX3_sheet_65 ?_
              refine k_iload_n hJ dX3_sheet_66 2 rfl ?_
              refine k_iload_n hJ dX3_sheet_67 2 rfl ?_
              refine n_if_ne (tgt := 75) hJ dX3_sheet_68 (by decide) (by omega) (fun c68 => ?_) (fun c68 => ?_)
              · refine k_iload_n hJ dX3_sheet_75 3 rfl ?_
                refine c_VV (As := [.int (nI 16), .int (nI pz)]) (st := []) hJ (ct_X1_renew l g a (sb px) (sz px) (nu px) px 16 pz) (cls_frS hpx) mv_X1_renew ml_X3_197 (44 + 2 * px) (cls_sh hpx) rfl rfl (kRm_ok (by decide) (by decide)) rfl rfl (Nat.le_of_ble_eq_true rfl) dX3_sheet_76 ?_
                show J (clsW g a aK aL aT kf ct (if kf then k else jk) lk m lm t lt tp tl nx tk sr va (vUp sb px 16) (vUp sz px pz) (fun s i => if s = px then 0 else nu s i)) [(0, .ref (a 0)), (1, .int (nI px)), (2, .int (nI 16)), (3, .int (nI pz))] 79 []
                refine k_aload_n hJ dX3_sheet_79 0 rfl ?_
                refine gf_X3_31 (v := .ref (a 4)) hJ 0 rfl rfl dX3_sheet_80 ?_
                refine k_iload_n hJ dX3_sheet_83 1 rfl ?_
                refine k_aaldS (f := fun i => some (a (5 + 2 * i))) (b := a (5 + 2 * px)) hJ 43 rfl px (by omega) (by decide) rfl dX3_sheet_84 ?_
                refine gf_X3_201 (v := .int (nI ((vUp sz px pz) px))) hJ (44 + 2 * px) (cls_sh (by omega)) rfl dX3_sheet_85 ?_
                have hz : (vUp sz px pz) px = pz := vUp_s _ _ _
                refine k_eqs (st2 := [.int (nI pz)]) (by rw [hz]) ?_
                have hsp : sp_sheet (m, k, kf, tp, tl, sb, sz, nu, ct) (nI px) (nI 16) (nI pz) = (nI pz, (m, k, kf, tp, tl, vUp sb px 16, vUp sz px pz, fun s i => if s = px then 0 else nu s i, ct)) := by simp [sp_sheet, c4, tN_l0, nI_clamp (show px < 2 ^ 31 by omega), nI_clamp (show pz < 2 ^ 31 by omega), nI_nlt0 (show pz < 2 ^ 31 by omega), nI_gt40 (show pz ≤ 40 by omega), tN_l8, tN_l16, tN_l64, nI_l8, nI_l16, nI_l64, nI_l0]
                exact k_eqw (ws2 := clsA g a aK aL aT (sp_sheet (m, k, kf, tp, tl, sb, sz, nu, ct) (nI px) (nI 16) (nI pz)).2 (jk, lk, lm, t, lt, nx, tk, sr, va)) (by rw [hsp]; rfl) (hR _ _ _ (jk, lk, lm, t, lt, nx, tk, sr, va) dX3_sheet_88 (by rw [hsp]))
              · exact absurd c68 (by decide)
            · refine k_aload_n hJ dX3_sheet_53 0 rfl ?_
              refine k_ldc hJ dX3_sheet_54 cw_X3_55 ?_
              refine k_eqs (st2 := [.int (kFi 0), .ref (a 0)]) (by rw [kFi_c0]) ?_
              refine c_VI (As := [.int (kFi 0)]) (st := []) hJ (ct_X3_tell l g a aK aL aT kf ct 0 (by decide)) cls_frX mv_X3_tell ml_X3_56 0 rfl rfl rfl (kRm_ok (by decide) (by decide)) rfl rfl (Nat.le_of_ble_eq_true rfl) dX3_sheet_56 ?_
              have hsp : sp_sheet (m, k, kf, tp, tl, sb, sz, nu, ct) (nI px) (nI 16) (nI pz) = (kFi 0, (m, k, kf, tp, tl, sb, sz, nu, kTe ct 0)) := by simp [sp_sheet, sp_tell, nI_l0, nI_l8, nI_l16, nI_l64, c4, c8, c14, nI_nlt0 hpz, nI_is40 c50 hpz]
              exact k_eqw (ws2 := clsA g a aK aL aT (sp_sheet (m, k, kf, tp, tl, sb, sz, nu, ct) (nI px) (nI 16) (nI pz)).2 (jk, lk, lm, t, lt, nx, tk, sr, va)) (by rw [hsp]; rfl) (hR _ _ _ (jk, lk, lm, t, lt, nx, tk, sr, va) dX3_sheet_59 (by rw [hsp]))
          · refine k_aload_n hJ dX3_sheet_40 0 rfl ?_
            refine k_ldc hJ dX3_sheet_41 cw_X3_196 ?_
            refine k_eqs (st2 := [.int (kFi 6), .ref (a 0)]) (by rw [kFi_c6]) ?_
            refine c_VI (As := [.int (kFi 6)]) (st := []) hJ (ct_X3_tell l g a aK aL aT kf ct 6 (by decide)) cls_frX mv_X3_tell ml_X3_56 0 rfl rfl rfl (kRm_ok (by decide) (by decide)) rfl rfl (Nat.le_of_ble_eq_true rfl) dX3_sheet_43 ?_
            have hsp : sp_sheet (m, k, kf, tp, tl, sb, sz, nu, ct) (nI px) (nI 16) z = (kFi 6, (m, k, kf, tp, tl, sb, sz, nu, kTe ct 6)) := by simp [sp_sheet, sp_tell, nI_l0, nI_l8, nI_l16, nI_l64, c4, c8, c14, c37]
            exact k_eqw (ws2 := clsA g a aK aL aT (sp_sheet (m, k, kf, tp, tl, sb, sz, nu, ct) (nI px) (nI 16) z).2 (jk, lk, lm, t, lt, nx, tk, sr, va)) (by rw [hsp]; rfl) (hR _ _ _ (jk, lk, lm, t, lt, nx, tk, sr, va) dX3_sheet_46 (by rw [hsp]))
        · refine k_iload_n hJ dX3_sheet_23 2 rfl ?_
          refine k_bipush (v := nI 64) hJ dX3_sheet_24 (by decide) ?_
          refine k_icmp_eq (tgt := 36) hJ dX3_sheet_26 (by decide) (fun (c26 : y = nI 64) => ?_) (fun (c26 : ¬ y = (64 : Int32)) => ?_)
          · subst c26
            refine k_iload_n hJ dX3_sheet_36 3 rfl ?_
            refine k_if_ge (tgt := 47) hJ dX3_sheet_37 (by decide) (fun c37 => ?_) (fun c37 => ?_)
            · obtain ⟨pz, hpz, rfl⟩ := nI_of (Int32.not_lt.mpr c37)
              refine k_iload_n hJ dX3_sheet_47 3 rfl ?_
              refine k_bipush (v := nI 40) hJ dX3_sheet_48 (by decide) ?_
              refine n_icmp_le (tgt := 60) hJ dX3_sheet_50 (by decide) (by omega) (by omega) (fun c50 => ?_) (fun c50 => ?_)
              · refine k_aload_n hJ dX3_sheet_60 0 rfl ?_
                refine gf_X3_31 (v := .ref (a 4)) hJ 0 rfl rfl dX3_sheet_61 ?_
                refine k_iload_n hJ dX3_sheet_64 1 rfl ?_
                refine k_aaldS (f := fun i => some (a (5 + 2 * i))) (b := a (5 + 2 * px)) hJ 43 rfl px (by omega) (by decide) rfl dX3_sheet_65 ?_
                refine k_iload_n hJ dX3_sheet_66 2 rfl ?_
                refine k_iload_n hJ dX3_sheet_67 2 rfl ?_
                refine n_if_ne (tgt := 75) hJ dX3_sheet_68 (by decide) (by omega) (fun c68 => ?_) (fun c68 => ?_)
                · refine k_iload_n hJ dX3_sheet_75 3 rfl ?_
                  refine c_VV (As := [.int (nI 64), .int (nI pz)]) (st := []) hJ (ct_X1_renew l g a (sb px) (sz px) (nu px) px 64 pz) (cls_frS hpx) mv_X1_renew ml_X3_197 (44 + 2 * px) (cls_sh hpx) rfl rfl (kRm_ok (by decide) (by decide)) rfl rfl (Nat.le_of_ble_eq_true rfl) dX3_sheet_76 ?_
                  show J (clsW g a aK aL aT kf ct (if kf then k else jk) lk m lm t lt tp tl nx tk sr va (vUp sb px 64) (vUp sz px pz) (fun s i => if s = px then 0 else nu s i)) [(0, .ref (a 0)), (1, .int (nI px)), (2, .int (nI 64)), (3, .int (nI pz))] 79 []
                  refine k_aload_n hJ dX3_sheet_79 0 rfl ?_
                  refine gf_X3_31 (v := .ref (a 4)) hJ 0 rfl rfl dX3_sheet_80 ?_
                  refine k_iload_n hJ dX3_sheet_83 1 rfl ?_
                  refine k_aaldS (f := fun i => some (a (5 + 2 * i))) (b := a (5 + 2 * px)) hJ 43 rfl px (by omega) (by decide) rfl dX3_sheet_84 ?_
                  refine gf_X3_201 (v := .int (nI ((vUp sz px pz) px))) hJ (44 + 2 * px) (cls_sh (by omega)) rfl dX3_sheet_85 ?_
                  have hz : (vUp sz px pz) px = pz := vUp_s _ _ _
                  refine k_eqs (st2 := [.int (nI pz)]) (by rw [hz]) ?_
                  have hsp : sp_sheet (m, k, kf, tp, tl, sb, sz, nu, ct) (nI px) (nI 64) (nI pz) = (nI pz, (m, k, kf, tp, tl, vUp sb px 64, vUp sz px pz, fun s i => if s = px then 0 else nu s i, ct)) := by simp [sp_sheet, c4, tN_l0, nI_clamp (show px < 2 ^ 31 by omega), nI_clamp (show pz < 2 ^ 31 by omega), nI_nlt0 (show pz < 2 ^ 31 by omega), nI_gt40 (show pz ≤ 40 by omega), tN_l8, tN_l16, tN_l64, nI_l8, nI_l16, nI_l64, nI_l0]
                  exact k_eqw (ws2 := clsA g a aK aL aT (sp_sheet (m, k, kf, tp, tl, sb, sz, nu, ct) (nI px) (nI 64) (nI pz)).2 (jk, lk, lm, t, lt, nx, tk, sr, va)) (by rw [hsp]; rfl) (hR _ _ _ (jk, lk, lm, t, lt, nx, tk, sr, va) dX3_sheet_88 (by rw [hsp]))
                · exact absurd c68 (by decide)
              · refine k_aload_n hJ dX3_sheet_53 0 rfl ?_
                refine k_ldc hJ dX3_sheet_54 cw_X3_55 ?_
                refine k_eqs (st2 := [.int (kFi 0), .ref (a 0)]) (by rw [kFi_c0]) ?_
                refine c_VI (As := [.int (kFi 0)]) (st := []) hJ (ct_X3_tell l g a aK aL aT kf ct 0 (by decide)) cls_frX mv_X3_tell ml_X3_56 0 rfl rfl rfl (kRm_ok (by decide) (by decide)) rfl rfl (Nat.le_of_ble_eq_true rfl) dX3_sheet_56 ?_
                have hsp : sp_sheet (m, k, kf, tp, tl, sb, sz, nu, ct) (nI px) (nI 64) (nI pz) = (kFi 0, (m, k, kf, tp, tl, sb, sz, nu, kTe ct 0)) := by simp [sp_sheet, sp_tell, nI_l0, nI_l8, nI_l16, nI_l64, c4, c8, c14, c20, nI_nlt0 hpz, nI_is40 c50 hpz]
                exact k_eqw (ws2 := clsA g a aK aL aT (sp_sheet (m, k, kf, tp, tl, sb, sz, nu, ct) (nI px) (nI 64) (nI pz)).2 (jk, lk, lm, t, lt, nx, tk, sr, va)) (by rw [hsp]; rfl) (hR _ _ _ (jk, lk, lm, t, lt, nx, tk, sr, va) dX3_sheet_59 (by rw [hsp]))
            · refine k_aload_n hJ dX3_sheet_40 0 rfl ?_
              refine k_ldc hJ dX3_sheet_41 cw_X3_196 ?_
              refine k_eqs (st2 := [.int (kFi 6), .ref (a 0)]) (by rw [kFi_c6]) ?_
              refine c_VI (As := [.int (kFi 6)]) (st := []) hJ (ct_X3_tell l g a aK aL aT kf ct 6 (by decide)) cls_frX mv_X3_tell ml_X3_56 0 rfl rfl rfl (kRm_ok (by decide) (by decide)) rfl rfl (Nat.le_of_ble_eq_true rfl) dX3_sheet_43 ?_
              have hsp : sp_sheet (m, k, kf, tp, tl, sb, sz, nu, ct) (nI px) (nI 64) z = (kFi 6, (m, k, kf, tp, tl, sb, sz, nu, kTe ct 6)) := by simp [sp_sheet, sp_tell, nI_l0, nI_l8, nI_l16, nI_l64, c4, c8, c14, c20, c37]
              exact k_eqw (ws2 := clsA g a aK aL aT (sp_sheet (m, k, kf, tp, tl, sb, sz, nu, ct) (nI px) (nI 64) z).2 (jk, lk, lm, t, lt, nx, tk, sr, va)) (by rw [hsp]; rfl) (hR _ _ _ (jk, lk, lm, t, lt, nx, tk, sr, va) dX3_sheet_46 (by rw [hsp]))
          · refine k_aload_n hJ dX3_sheet_29 0 rfl ?_
            refine k_ldc hJ dX3_sheet_30 cw_X3_55 ?_
            refine k_eqs (st2 := [.int (kFi 0), .ref (a 0)]) (by rw [kFi_c0]) ?_
            refine c_VI (As := [.int (kFi 0)]) (st := []) hJ (ct_X3_tell l g a aK aL aT kf ct 0 (by decide)) cls_frX mv_X3_tell ml_X3_56 0 rfl rfl rfl (kRm_ok (by decide) (by decide)) rfl rfl (Nat.le_of_ble_eq_true rfl) dX3_sheet_32 ?_
            have hsp : sp_sheet (m, k, kf, tp, tl, sb, sz, nu, ct) (nI px) y z = (kFi 0, (m, k, kf, tp, tl, sb, sz, nu, kTe ct 0)) := by simp [sp_sheet, sp_tell, nI_l0, nI_l8, nI_l16, nI_l64, c4, c8, c14, c20, c26]
            exact k_eqw (ws2 := clsA g a aK aL aT (sp_sheet (m, k, kf, tp, tl, sb, sz, nu, ct) (nI px) y z).2 (jk, lk, lm, t, lt, nx, tk, sr, va)) (by rw [hsp]; rfl) (hR _ _ _ (jk, lk, lm, t, lt, nx, tk, sr, va) dX3_sheet_35 (by rw [hsp]))
set_option maxHeartbeats 4000000 in
set_option maxRecDepth 100000 in
theorem cp_write (l : Launch) (g : KG) (a aK aL aT : Nat → Nat) (j : CJ) (s : KS) (hs : kOk s) (x : Int32) (y : Int32) (z : Int64) : CT l yX3_write cX3_write 9 (some .long) (rmK 3) g [.ref (a 0), .int x, .int y, .long z] (clsA g a aK aL aT s j) (S := CJ) oL (fun r _ => r = (sp_write s x y z).1) (fun j => clsA g a aK aL aT (sp_write s x y z).2 j) := by
  obtain ⟨m, k, kf, tp, tl, sb, sz, nu, ct⟩ := s
  obtain ⟨jk, lk, lm, t, lt, nx, tk, sr, va⟩ := j
  obtain ⟨hm, hk, htl, htp, hsh⟩ := hs
  have h0 : m 0 ≤ 8 := hm.1
  have h1 : m 1 ≤ 9999 := hm.2.1
  have h2 : m 2 ≤ 4 := hm.2.2.1
  have h3 : m 3 ≤ 99 := hm.2.2.2.2.1
  have hB : 9999 < 2 ^ 30 := by decide
  refine k_bodyL (by decide) (Nat.le_of_ble_eq_true rfl) (fun J hJ hR => ?_)
  have hsb := fun s (h : s < 4) => (hsh s h).1
  have hsz := fun s (h : s < 4) => (hsh s h).2
  show J (clsW g a aK aL aT kf ct (if kf then k else jk) lk m lm t lt tp tl nx tk sr va sb sz nu) [(0, .ref (a 0)), (1, .int x), (2, .int y), (3, .long z)] 0 []
  refine k_aload_n hJ dX3_write_0 0 rfl ?_
  refine k_iload_n hJ dX3_write_1 1 rfl ?_
  refine c_VI (As := [.int x]) (st := []) hJ (ct_X3_findingOfSheet l g a aK aL aT kf ct (if kf then k else jk) lk m lm t lt tp tl nx tk sr va sb sz nu x (fun s h => by have := hsb s h; omega)) (Fr.all rfl) mv_X3_findingOfSheet ml_X3_204 0 rfl rfl rfl (kRm_ok (by decide) (by decide)) rfl rfl (Nat.le_of_ble_eq_true rfl) dX3_write_2 ?_
  refine k_istore (lv1 := [(0, .ref (a 0)), (1, .int x), (2, .int y), (3, .long z), (5, .int (kWr (vWr sb x)))]) hJ dX3_write_5 (by decide) [1, 2, 3, 4, 0] rfl ?_
  rcases hW : vWr sb x with _ | wi
  · show J (clsW g a aK aL aT kf ct (if kf then k else jk) lk m lm t lt tp tl nx tk sr va sb sz nu) [(0, .ref (a 0)), (1, .int x), (2, .int y), (3, .long z), (5, .int (nI 0))] 7 []
    obtain ⟨px, hpx, rfl, hv4, hb0⟩ := vWr_ok hW
    have hzx := hsz px hpx
    have hbx := hsb px hpx
    refine k_iload hJ dX3_write_7 4 rfl ?_
    refine n_if_eq (tgt := 20) hJ dX3_write_9 (by decide) (by omega) (fun c9 => ?_) (fun c9 => ?_)
    · refine k_aload_n hJ dX3_write_20 0 rfl ?_
      refine gf_X3_31 (v := .ref (a 4)) hJ 0 rfl rfl dX3_write_21 ?_
      refine k_iload_n hJ dX3_write_24 1 rfl ?_
      refine k_aaldS (f := fun i => some (a (5 + 2 * i))) (b := a (5 + 2 * px)) hJ 43 rfl px (by omega) (by decide) rfl dX3_write_25 ?_
      refine k_astore (lv1 := [(0, .ref (a 0)), (1, .int (nI px)), (2, .int y), (3, .long z), (5, .int (nI 0)), (6, .ref (a (5 + 2 * px)))]) hJ dX3_write_26 (by decide) [1, 2, 3, 4, 5, 0] rfl ?_
      refine k_iload_n hJ dX3_write_28 2 rfl ?_
      refine k_iconst (v := nI 0) hJ dX3_write_29 (by decide) ?_
      refine k_aload hJ dX3_write_30 5 rfl ?_
      refine gf_X3_201 (v := .int (nI (sz px))) hJ (44 + 2 * px) (cls_sh (by omega)) rfl dX3_write_32 ?_
      refine k_iconst (v := nI 1) hJ dX3_write_35 (by decide) ?_
      refine k_isub hJ dX3_write_36 ?_
      refine c_SI (As := [.int y, .int (nI 0), .int ((nI (sz px)) - (nI 1))]) (st := []) hJ (ct_X3_withinR l g y (nI 0) ((nI (sz px)) - (nI 1))) Fr.none ms_X3_within ml_X3_44 (kRm_ok (by decide) (by decide)) rfl rfl (Nat.le_of_ble_eq_true rfl) dX3_write_37 ?_
      refine k_eqs (st2 := [.int (kb (vIn y (sz px)))]) (by rw [vInR_pp (by omega)]) ?_
      refine b_if_ne (tgt := 51) hJ dX3_write_40 (by decide) (fun c40 => ?_) (fun c40 => ?_)
      · obtain ⟨py, hpy, rfl⟩ := vIn_of (by omega) c40
        refine k_aload hJ dX3_write_51 5 rfl ?_
        refine gf_X3_207 (v := .ref (a (6 + 2 * px))) hJ (44 + 2 * px) (cls_sh (by omega)) rfl dX3_write_53 ?_
        refine k_iload_n hJ dX3_write_56 2 rfl ?_
        refine k_lald hJ (45 + 2 * px) (cls_nu (by omega)) py (by omega) (by decide) rfl dX3_write_57 ?_
        refine k_lstore (lv1 := [(0, .ref (a 0)), (1, .int (nI px)), (2, .int (nI py)), (3, .long z), (5, .int (nI 0)), (6, .ref (a (5 + 2 * px))), (7, .long (nu px py))]) hJ dX3_write_58 (by decide) [1, 2, 3, 4, 5, 6, 0] rfl ?_
        refine k_aload hJ dX3_write_60 5 rfl ?_
        refine k_iload_n hJ dX3_write_62 2 rfl ?_
        refine k_lload_n hJ dX3_write_63 3 rfl ?_
        refine c_VV (As := [.int (nI py), .long z]) (st := []) hJ (ct_X1_put l g a (sb px) (sz px) (nu px) px py z (by omega) (by omega)) (cls_frSi hpx) mv_X1_put ml_X3_211 (44 + 2 * px) (cls_sh hpx) rfl rfl (kRm_ok (by decide) (by decide)) rfl rfl (Nat.le_of_ble_eq_true rfl) dX3_write_64 ?_
        refine k_lload hJ dX3_write_67 6 rfl ?_
        have hsp : sp_write (m, k, kf, tp, tl, sb, sz, nu, ct) (nI px) (nI py) z = (nu px py, (m, k, kf, tp, tl, sb, sz, vN nu px py (vNar (sb px) z), ct)) := by simp only [sp_write, hW]; rw [tN_nI (show px < 2 ^ 31 by omega), tN_nI (show py < 2 ^ 31 by omega), if_pos c40]; rfl
        exact k_eqw (ws2 := clsA g a aK aL aT (sp_write (m, k, kf, tp, tl, sb, sz, nu, ct) (nI px) (nI py) z).2 (jk, lk, lm, t, lt, nx, tk, sr, va)) (by rw [hsp]; rfl) (hR _ _ _ (jk, lk, lm, t, lt, nx, tk, sr, va) dX3_write_69 (by rw [hsp]))
      · refine k_aload_n hJ dX3_write_43 0 rfl ?_
        refine k_ldc hJ dX3_write_44 cw_X3_55 ?_
        refine k_eqs (st2 := [.int (kFi 0), .ref (a 0)]) (by rw [kFi_c0]) ?_
        refine c_VI (As := [.int (kFi 0)]) (st := []) hJ (ct_X3_tell l g a aK aL aT kf ct 0 (by decide)) cls_frX mv_X3_tell ml_X3_56 0 rfl rfl rfl (kRm_ok (by decide) (by decide)) rfl rfl (Nat.le_of_ble_eq_true rfl) dX3_write_46 ?_
        refine k_i2l hJ dX3_write_49 rfl ?_
        have hsp : sp_write (m, k, kf, tp, tl, sb, sz, nu, ct) (nI px) y z = ((kFi 0).toInt64, (m, k, kf, tp, tl, sb, sz, nu, kTe ct 0)) := by simp only [sp_write, hW]; rw [tN_nI (show px < 2 ^ 31 by omega), if_neg (by rw [c40]; decide)]; rfl
        exact k_eqw (ws2 := clsA g a aK aL aT (sp_write (m, k, kf, tp, tl, sb, sz, nu, ct) (nI px) y z).2 (jk, lk, lm, t, lt, nx, tk, sr, va)) (by rw [hsp]; rfl) (hR _ _ _ (jk, lk, lm, t, lt, nx, tk, sr, va) dX3_write_50 (by rw [hsp]))
    · exact absurd c9 (by decide)
  · show J (clsW g a aK aL aT kf ct (if kf then k else jk) lk m lm t lt tp tl nx tk sr va sb sz nu) [(0, .ref (a 0)), (1, .int x), (2, .int y), (3, .long z), (5, .int (kFi wi))] 7 []
    have hwi : wi < 7 := vWr_lt hW
    refine k_iload hJ dX3_write_7 4 rfl ?_
    refine k_if_eq (tgt := 20) hJ dX3_write_9 (by decide) (fun c9 => ?_) (fun c9 => ?_)
    · exact absurd c9 (kWr_0 wi hwi)
    · refine k_aload_n hJ dX3_write_12 0 rfl ?_
      refine k_iload hJ dX3_write_13 4 rfl ?_
      refine c_VI (As := [.int (kFi wi)]) (st := []) hJ (ct_X3_tell l g a aK aL aT kf ct wi hwi) cls_frX mv_X3_tell ml_X3_56 0 rfl rfl rfl (kRm_ok (by decide) (by decide)) rfl rfl (Nat.le_of_ble_eq_true rfl) dX3_write_15 ?_
      refine k_i2l hJ dX3_write_18 rfl ?_
      have hsp : sp_write (m, k, kf, tp, tl, sb, sz, nu, ct) x y z = ((kFi wi).toInt64, (m, k, kf, tp, tl, sb, sz, nu, kTe ct wi)) := by simp only [sp_write, hW]; rfl
      exact k_eqw (ws2 := clsA g a aK aL aT (sp_write (m, k, kf, tp, tl, sb, sz, nu, ct) x y z).2 (jk, lk, lm, t, lt, nx, tk, sr, va)) (by rw [hsp]; rfl) (hR _ _ _ (jk, lk, lm, t, lt, nx, tk, sr, va) dX3_write_19 (by rw [hsp]))
theorem vNc_cpy (nu : Nat → Nat → Int64) (px pz py pu pv s i : Nat) : vNc nu pz (va_cpy (nu px) (nu pz) py pu pv) s i = if s = pz ∧ pu ≤ i ∧ i < pu + pv then nu px (py + (i - pu)) else nu s i := by
  unfold vNc va_cpy
  by_cases e : s = pz
  · subst e
    rw [if_pos rfl]
    by_cases c : pu ≤ i ∧ i < pu + pv
    · rw [if_pos c, if_pos ⟨rfl, c⟩]
    · rw [if_neg c, if_neg (fun q => c q.2)]
  · rw [if_neg e, if_neg (fun q => e q.1)]
set_option maxHeartbeats 4000000 in
set_option maxRecDepth 100000 in
theorem cp_copy (l : Launch) (g : KG) (a aK aL aT : Nat → Nat) (j : CJ) (s : KS) (hs : kOk s) (x : Int32) (y : Int32) (z : Int32) (u : Int32) (v : Int32) : CT l yX3_copy cX3_copy 8 (some .int) (rmK 2) g [.ref (a 0), .int x, .int y, .int z, .int u, .int v] (clsA g a aK aL aT s j) (S := CJ) oI (fun r _ => r = (sp_copy s x y z u v).1) (fun j => clsA g a aK aL aT (sp_copy s x y z u v).2 j) := by
  obtain ⟨m, k, kf, tp, tl, sb, sz, nu, ct⟩ := s
  obtain ⟨jk, lk, lm, t, lt, nx, tk, sr, va⟩ := j
  obtain ⟨hm, hk, htl, htp, hsh⟩ := hs
  have h0 : m 0 ≤ 8 := hm.1
  have h1 : m 1 ≤ 9999 := hm.2.1
  have h2 : m 2 ≤ 4 := hm.2.2.1
  have h3 : m 3 ≤ 99 := hm.2.2.2.2.1
  have hB : 9999 < 2 ^ 30 := by decide
  refine k_bodyI (by decide) (Nat.le_of_ble_eq_true rfl) (fun _ _ _ => rfl) (fun J hJ hR => ?_)
  have hsb := fun s (h : s < 4) => (hsh s h).1
  have hsz := fun s (h : s < 4) => (hsh s h).2
  show J (clsW g a aK aL aT kf ct (if kf then k else jk) lk m lm t lt tp tl nx tk sr va sb sz nu) [(0, .ref (a 0)), (1, .int x), (2, .int y), (3, .int z), (4, .int u), (5, .int v)] 0 []
  refine k_iload_n hJ dX3_copy_0 1 rfl ?_
  refine c_SI (As := [.int x]) (st := []) hJ (ct_X3_isSheet l g x) Fr.none ms_X3_isSheet ml_X3_193 (kRm_ok (by decide) (by decide)) rfl rfl (Nat.le_of_ble_eq_true rfl) dX3_copy_1 ?_
  refine b_if_eq (tgt := 14) hJ dX3_copy_4 (by decide) (fun c4 => ?_) (fun c4 => ?_)
  · refine k_aload_n hJ dX3_copy_14 0 rfl ?_
    refine k_ldc hJ dX3_copy_15 cw_X3_55 ?_
    refine k_eqs (st2 := [.int (kFi 0), .ref (a 0)]) (by rw [kFi_c0]) ?_
    refine c_VI (As := [.int (kFi 0)]) (st := []) hJ (ct_X3_tell l g a aK aL aT kf ct 0 (by decide)) cls_frX mv_X3_tell ml_X3_56 0 rfl rfl rfl (kRm_ok (by decide) (by decide)) rfl rfl (Nat.le_of_ble_eq_true rfl) dX3_copy_17 ?_
    have hsp : sp_copy (m, k, kf, tp, tl, sb, sz, nu, ct) x y z u v = (kFi 0, (m, k, kf, tp, tl, sb, sz, nu, kTe ct 0)) := by simp only [sp_copy]; rw [if_neg (fun q => by have a := q.1; rw [c4] at a; cases a)]; rfl
    exact k_eqw (ws2 := clsA g a aK aL aT (sp_copy (m, k, kf, tp, tl, sb, sz, nu, ct) x y z u v).2 (jk, lk, lm, t, lt, nx, tk, sr, va)) (by rw [hsp]; rfl) (hR _ _ _ (jk, lk, lm, t, lt, nx, tk, sr, va) dX3_copy_20 (by rw [hsp]))
  · obtain ⟨px, hpx, rfl⟩ := vIn_of (by omega) c4
    refine k_iload_n hJ dX3_copy_7 3 rfl ?_
    refine c_SI (As := [.int z]) (st := []) hJ (ct_X3_isSheet l g z) Fr.none ms_X3_isSheet ml_X3_193 (kRm_ok (by decide) (by decide)) rfl rfl (Nat.le_of_ble_eq_true rfl) dX3_copy_8 ?_
    refine b_if_ne (tgt := 21) hJ dX3_copy_11 (by decide) (fun c11 => ?_) (fun c11 => ?_)
    · obtain ⟨pz, hpz, rfl⟩ := vIn_of (by omega) c11
      have hzx := hsz px hpx
      have hzz := hsz pz hpz
      have hbx := hsb px hpx
      have hbz := hsb pz hpz
      refine k_aload_n hJ dX3_copy_21 0 rfl ?_
      refine gf_X3_31 (v := .ref (a 4)) hJ 0 rfl rfl dX3_copy_22 ?_
      refine k_iload_n hJ dX3_copy_25 1 rfl ?_
      refine k_aaldS (f := fun i => some (a (5 + 2 * i))) (b := a (5 + 2 * px)) hJ 43 rfl px (by omega) (by decide) rfl dX3_copy_26 ?_
      refine k_astore (lv1 := [(0, .ref (a 0)), (1, .int (nI px)), (2, .int y), (3, .int (nI pz)), (4, .int u), (5, .int v), (6, .ref (a (5 + 2 * px)))]) hJ dX3_copy_27 (by decide) [1, 2, 3, 4, 5, 6, 0] rfl ?_
      refine k_aload_n hJ dX3_copy_29 0 rfl ?_
      refine gf_X3_31 (v := .ref (a 4)) hJ 0 rfl rfl dX3_copy_30 ?_
      refine k_iload_n hJ dX3_copy_33 3 rfl ?_
      refine k_aaldS (f := fun i => some (a (5 + 2 * i))) (b := a (5 + 2 * pz)) hJ 43 rfl pz (by omega) (by decide) rfl dX3_copy_34 ?_
      refine k_astore (lv1 := [(0, .ref (a 0)), (1, .int (nI px)), (2, .int y), (3, .int (nI pz)), (4, .int u), (5, .int v), (6, .ref (a (5 + 2 * px))), (7, .ref (a (5 + 2 * pz)))]) hJ dX3_copy_35 (by decide) [1, 2, 3, 4, 5, 6, 7, 0] rfl ?_
      refine k_aload hJ dX3_copy_37 6 rfl ?_
      refine gf_X3_215 (v := .int (nI (sb px))) hJ (44 + 2 * px) (cls_sh (by omega)) rfl dX3_copy_39 ?_
      refine n_if_eq (tgt := 53) hJ dX3_copy_42 (by decide) (by omega) (fun c42 => ?_) (fun c42 => ?_)
      · refine k_aload_n hJ dX3_copy_53 0 rfl ?_
        refine k_ldc hJ dX3_copy_54 cw_X3_218 ?_
        refine k_eqs (st2 := [.int (kFi 5), .ref (a 0)]) (by rw [kFi_c5]) ?_
        refine c_VI (As := [.int (kFi 5)]) (st := []) hJ (ct_X3_tell l g a aK aL aT kf ct 5 (by decide)) cls_frX mv_X3_tell ml_X3_56 0 rfl rfl rfl (kRm_ok (by decide) (by decide)) rfl rfl (Nat.le_of_ble_eq_true rfl) dX3_copy_56 ?_
        have hsp : sp_copy (m, k, kf, tp, tl, sb, sz, nu, ct) (nI px) y (nI pz) u v = (kFi 5, (m, k, kf, tp, tl, sb, sz, nu, kTe ct 5)) := by simp only [sp_copy]; rw [if_pos ⟨c4, c11⟩, tN_nI (show px < 2 ^ 31 by omega), tN_nI (show pz < 2 ^ 31 by omega), if_pos (Or.inl c42)]; rfl
        exact k_eqw (ws2 := clsA g a aK aL aT (sp_copy (m, k, kf, tp, tl, sb, sz, nu, ct) (nI px) y (nI pz) u v).2 (jk, lk, lm, t, lt, nx, tk, sr, va)) (by rw [hsp]; rfl) (hR _ _ _ (jk, lk, lm, t, lt, nx, tk, sr, va) dX3_copy_59 (by rw [hsp]))
      · refine k_aload hJ dX3_copy_45 7 rfl ?_
        refine gf_X3_215 (v := .int (nI (sb pz))) hJ (44 + 2 * pz) (cls_sh (by omega)) rfl dX3_copy_47 ?_
        refine n_if_ne (tgt := 60) hJ dX3_copy_50 (by decide) (by omega) (fun c50 => ?_) (fun c50 => ?_)
        · refine k_aload hJ dX3_copy_60 6 rfl ?_
          refine gf_X3_215 (v := .int (nI (sb px))) hJ (44 + 2 * px) (cls_sh (by omega)) rfl dX3_copy_62 ?_
          refine k_aload hJ dX3_copy_65 7 rfl ?_
          refine gf_X3_215 (v := .int (nI (sb pz))) hJ (44 + 2 * pz) (cls_sh (by omega)) rfl dX3_copy_67 ?_
          refine n_icmp_eq (tgt := 80) hJ dX3_copy_70 (by decide) (by omega) (by omega) (fun c70 => ?_) (fun c70 => ?_)
          · refine k_aload hJ dX3_copy_80 6 rfl ?_
            refine k_iload_n hJ dX3_copy_82 2 rfl ?_
            refine k_iload hJ dX3_copy_83 5 rfl ?_
            refine c_VI (As := [.int y, .int v]) (st := []) hJ (ct_X1_hasRun l g a (sb px) (sz px) (nu px) px y v hzx) (cls_frS0 (by omega)) mv_X1_hasRun ml_X3_219 (44 + 2 * px) (cls_sh (by omega)) rfl rfl (kRm_ok (by decide) (by decide)) rfl rfl (Nat.le_of_ble_eq_true rfl) dX3_copy_85 ?_
            refine b_if_eq (tgt := 103) hJ dX3_copy_88 (by decide) (fun c88 => ?_) (fun c88 => ?_)
            · refine k_aload_n hJ dX3_copy_103 0 rfl ?_
              refine k_ldc hJ dX3_copy_104 cw_X3_55 ?_
              refine k_eqs (st2 := [.int (kFi 0), .ref (a 0)]) (by rw [kFi_c0]) ?_
              refine c_VI (As := [.int (kFi 0)]) (st := []) hJ (ct_X3_tell l g a aK aL aT kf ct 0 (by decide)) cls_frX mv_X3_tell ml_X3_56 0 rfl rfl rfl (kRm_ok (by decide) (by decide)) rfl rfl (Nat.le_of_ble_eq_true rfl) dX3_copy_106 ?_
              have hsp : sp_copy (m, k, kf, tp, tl, sb, sz, nu, ct) (nI px) y (nI pz) u v = (kFi 0, (m, k, kf, tp, tl, sb, sz, nu, kTe ct 0)) := by simp only [sp_copy]; rw [if_pos ⟨c4, c11⟩, tN_nI (show px < 2 ^ 31 by omega), tN_nI (show pz < 2 ^ 31 by omega), if_neg (show ¬ (sb px = 0 ∨ sb pz = 0) by omega), if_neg (fun q => q c70), if_neg (fun q => by have a := q.1; rw [c88] at a; cases a)]; rfl
              exact k_eqw (ws2 := clsA g a aK aL aT (sp_copy (m, k, kf, tp, tl, sb, sz, nu, ct) (nI px) y (nI pz) u v).2 (jk, lk, lm, t, lt, nx, tk, sr, va)) (by rw [hsp]; rfl) (hR _ _ _ (jk, lk, lm, t, lt, nx, tk, sr, va) dX3_copy_109 (by rw [hsp]))
            · refine k_aload hJ dX3_copy_91 7 rfl ?_
              refine k_iload hJ dX3_copy_93 4 rfl ?_
              refine k_iload hJ dX3_copy_95 5 rfl ?_
              refine c_VI (As := [.int u, .int v]) (st := []) hJ (ct_X1_hasRun l g a (sb pz) (sz pz) (nu pz) pz u v hzz) (cls_frS0 (by omega)) mv_X1_hasRun ml_X3_219 (44 + 2 * pz) (cls_sh (by omega)) rfl rfl (kRm_ok (by decide) (by decide)) rfl rfl (Nat.le_of_ble_eq_true rfl) dX3_copy_97 ?_
              refine b_if_ne (tgt := 110) hJ dX3_copy_100 (by decide) (fun c100 => ?_) (fun c100 => ?_)
              · obtain ⟨py, pv, hyv, rfl, rfl⟩ := vRun_of hzx c88
                obtain ⟨pu, huv, rfl⟩ := vRun_of1 hzz (by omega) c100
                refine k_aload hJ dX3_copy_110 6 rfl ?_
                refine gf_X3_207 (v := .ref (a (6 + 2 * px))) hJ (44 + 2 * px) (cls_sh (by omega)) rfl dX3_copy_112 ?_
                refine k_iload_n hJ dX3_copy_115 2 rfl ?_
                refine k_aload hJ dX3_copy_116 7 rfl ?_
                refine gf_X3_207 (v := .ref (a (6 + 2 * pz))) hJ (44 + 2 * pz) (cls_sh (by omega)) rfl dX3_copy_118 ?_
                refine k_iload hJ dX3_copy_121 4 rfl ?_
                refine k_iload hJ dX3_copy_123 5 rfl ?_
                refine k_copyl hJ ml_X3_222 (45 + 2 * px) (45 + 2 * pz) (cls_nu (by omega)) (cls_nu (by omega)) (by omega) (by omega) (by decide) (by decide) (cls_nucpy (by omega)) (Nat.le_of_ble_eq_true rfl) dX3_copy_125 ?_
                refine k_eqw (ws2 := clsW g a aK aL aT kf ct (if kf then k else jk) lk m lm t lt tp tl nx tk sr va sb sz (fun s i => if s = pz ∧ pu ≤ i ∧ i < pu + pv then nu px (py + (i - pu)) else nu s i)) (by rw [show vNc nu pz (va_cpy (nu px) (nu pz) py pu pv) = fun s i => if s = pz ∧ pu ≤ i ∧ i < pu + pv then nu px (py + (i - pu)) else nu s i from funext fun s => funext fun i => vNc_cpy nu px pz py pu pv s i]) ?_
                refine k_iload hJ dX3_copy_128 5 rfl ?_
                have hsp : sp_copy (m, k, kf, tp, tl, sb, sz, nu, ct) (nI px) (nI py) (nI pz) (nI pu) (nI pv) = (nI pv, (m, k, kf, tp, tl, sb, sz, fun s i => if s = pz ∧ pu ≤ i ∧ i < pu + pv then nu px (py + (i - pu)) else nu s i, ct)) := by simp only [sp_copy]; rw [if_pos ⟨c4, c11⟩, tN_nI (show px < 2 ^ 31 by omega), tN_nI (show pz < 2 ^ 31 by omega), if_neg (show ¬ (sb px = 0 ∨ sb pz = 0) by omega), if_neg (fun q => q c70), if_pos ⟨c88, c100⟩, tN_nI (show py < 2 ^ 31 by omega), tN_nI (show pu < 2 ^ 31 by omega), tN_nI (show pv < 2 ^ 31 by omega)]
                exact k_eqw (ws2 := clsA g a aK aL aT (sp_copy (m, k, kf, tp, tl, sb, sz, nu, ct) (nI px) (nI py) (nI pz) (nI pu) (nI pv)).2 (jk, lk, lm, t, lt, nx, tk, sr, va)) (by rw [hsp]; rfl) (hR _ _ _ (jk, lk, lm, t, lt, nx, tk, sr, va) dX3_copy_130 (by rw [hsp]))
              · refine k_aload_n hJ dX3_copy_103 0 rfl ?_
                refine k_ldc hJ dX3_copy_104 cw_X3_55 ?_
                refine k_eqs (st2 := [.int (kFi 0), .ref (a 0)]) (by rw [kFi_c0]) ?_
                refine c_VI (As := [.int (kFi 0)]) (st := []) hJ (ct_X3_tell l g a aK aL aT kf ct 0 (by decide)) cls_frX mv_X3_tell ml_X3_56 0 rfl rfl rfl (kRm_ok (by decide) (by decide)) rfl rfl (Nat.le_of_ble_eq_true rfl) dX3_copy_106 ?_
                have hsp : sp_copy (m, k, kf, tp, tl, sb, sz, nu, ct) (nI px) y (nI pz) u v = (kFi 0, (m, k, kf, tp, tl, sb, sz, nu, kTe ct 0)) := by simp only [sp_copy]; rw [if_pos ⟨c4, c11⟩, tN_nI (show px < 2 ^ 31 by omega), tN_nI (show pz < 2 ^ 31 by omega), if_neg (show ¬ (sb px = 0 ∨ sb pz = 0) by omega), if_neg (fun q => q c70), if_neg (fun q => by have a := q.2; rw [c100] at a; cases a)]; rfl
                exact k_eqw (ws2 := clsA g a aK aL aT (sp_copy (m, k, kf, tp, tl, sb, sz, nu, ct) (nI px) y (nI pz) u v).2 (jk, lk, lm, t, lt, nx, tk, sr, va)) (by rw [hsp]; rfl) (hR _ _ _ (jk, lk, lm, t, lt, nx, tk, sr, va) dX3_copy_109 (by rw [hsp]))
          · refine k_aload_n hJ dX3_copy_73 0 rfl ?_
            refine k_ldc hJ dX3_copy_74 cw_X3_114 ?_
            refine k_eqs (st2 := [.int (kFi 2), .ref (a 0)]) (by rw [kFi_c2]) ?_
            refine c_VI (As := [.int (kFi 2)]) (st := []) hJ (ct_X3_tell l g a aK aL aT kf ct 2 (by decide)) cls_frX mv_X3_tell ml_X3_56 0 rfl rfl rfl (kRm_ok (by decide) (by decide)) rfl rfl (Nat.le_of_ble_eq_true rfl) dX3_copy_76 ?_
            have hsp : sp_copy (m, k, kf, tp, tl, sb, sz, nu, ct) (nI px) y (nI pz) u v = (kFi 2, (m, k, kf, tp, tl, sb, sz, nu, kTe ct 2)) := by simp only [sp_copy]; rw [if_pos ⟨c4, c11⟩, tN_nI (show px < 2 ^ 31 by omega), tN_nI (show pz < 2 ^ 31 by omega), if_neg (show ¬ (sb px = 0 ∨ sb pz = 0) by omega), if_pos c70]; rfl
            exact k_eqw (ws2 := clsA g a aK aL aT (sp_copy (m, k, kf, tp, tl, sb, sz, nu, ct) (nI px) y (nI pz) u v).2 (jk, lk, lm, t, lt, nx, tk, sr, va)) (by rw [hsp]; rfl) (hR _ _ _ (jk, lk, lm, t, lt, nx, tk, sr, va) dX3_copy_79 (by rw [hsp]))
        · refine k_aload_n hJ dX3_copy_53 0 rfl ?_
          refine k_ldc hJ dX3_copy_54 cw_X3_218 ?_
          refine k_eqs (st2 := [.int (kFi 5), .ref (a 0)]) (by rw [kFi_c5]) ?_
          refine c_VI (As := [.int (kFi 5)]) (st := []) hJ (ct_X3_tell l g a aK aL aT kf ct 5 (by decide)) cls_frX mv_X3_tell ml_X3_56 0 rfl rfl rfl (kRm_ok (by decide) (by decide)) rfl rfl (Nat.le_of_ble_eq_true rfl) dX3_copy_56 ?_
          have hsp : sp_copy (m, k, kf, tp, tl, sb, sz, nu, ct) (nI px) y (nI pz) u v = (kFi 5, (m, k, kf, tp, tl, sb, sz, nu, kTe ct 5)) := by simp only [sp_copy]; rw [if_pos ⟨c4, c11⟩, tN_nI (show px < 2 ^ 31 by omega), tN_nI (show pz < 2 ^ 31 by omega), if_pos (Or.inr c50)]; rfl
          exact k_eqw (ws2 := clsA g a aK aL aT (sp_copy (m, k, kf, tp, tl, sb, sz, nu, ct) (nI px) y (nI pz) u v).2 (jk, lk, lm, t, lt, nx, tk, sr, va)) (by rw [hsp]; rfl) (hR _ _ _ (jk, lk, lm, t, lt, nx, tk, sr, va) dX3_copy_59 (by rw [hsp]))
    · refine k_aload_n hJ dX3_copy_14 0 rfl ?_
      refine k_ldc hJ dX3_copy_15 cw_X3_55 ?_
      refine k_eqs (st2 := [.int (kFi 0), .ref (a 0)]) (by rw [kFi_c0]) ?_
      refine c_VI (As := [.int (kFi 0)]) (st := []) hJ (ct_X3_tell l g a aK aL aT kf ct 0 (by decide)) cls_frX mv_X3_tell ml_X3_56 0 rfl rfl rfl (kRm_ok (by decide) (by decide)) rfl rfl (Nat.le_of_ble_eq_true rfl) dX3_copy_17 ?_
      have hsp : sp_copy (m, k, kf, tp, tl, sb, sz, nu, ct) (nI px) y z u v = (kFi 0, (m, k, kf, tp, tl, sb, sz, nu, kTe ct 0)) := by simp only [sp_copy]; rw [if_neg (fun q => by have a := q.2; rw [c11] at a; cases a)]; rfl
      exact k_eqw (ws2 := clsA g a aK aL aT (sp_copy (m, k, kf, tp, tl, sb, sz, nu, ct) (nI px) y z u v).2 (jk, lk, lm, t, lt, nx, tk, sr, va)) (by rw [hsp]; rfl) (hR _ _ _ (jk, lk, lm, t, lt, nx, tk, sr, va) dX3_copy_20 (by rw [hsp]))
set_option maxHeartbeats 4000000 in
set_option maxRecDepth 100000 in
theorem cp_lays (l : Launch) (g : KG) (a aK aL aT : Nat → Nat) (j : CJ) (s : KS) (hs : kOk s) (x : Int32) : CT l yX3_lays cX3_lays 8 (some .int) (rmK 3) g [.ref (a 0), .int x] (clsA g a aK aL aT s j) (S := CJ) oI (fun r _ => r = (sp_lays s x).1) (fun j => clsA g a aK aL aT (sp_lays s x).2 j) := by
  obtain ⟨m, k, kf, tp, tl, sb, sz, nu, ct⟩ := s
  obtain ⟨jk, lk, lm, t, lt, nx, tk, sr, va⟩ := j
  obtain ⟨hm, hk, htl, htp, hsh⟩ := hs
  have h0 : m 0 ≤ 8 := hm.1
  have h1 : m 1 ≤ 9999 := hm.2.1
  have h2 : m 2 ≤ 4 := hm.2.2.1
  have h3 : m 3 ≤ 99 := hm.2.2.2.2.1
  have hB : 9999 < 2 ^ 30 := by decide
  refine k_bodyI (by decide) (Nat.le_of_ble_eq_true rfl) (fun _ _ _ => rfl) (fun J hJ hR => ?_)
  have hsb := fun s (h : s < 4) => (hsh s h).1
  have hsz := fun s (h : s < 4) => (hsh s h).2
  show J (clsW g a aK aL aT kf ct (if kf then k else jk) lk m lm t lt tp tl nx tk sr va sb sz nu) [(0, .ref (a 0)), (1, .int x)] 0 []
  refine k_aload_n hJ dX3_lays_0 0 rfl ?_
  refine k_iload_n hJ dX3_lays_1 1 rfl ?_
  refine c_VI (As := [.int x]) (st := []) hJ (ct_X3_findingOfSheet l g a aK aL aT kf ct (if kf then k else jk) lk m lm t lt tp tl nx tk sr va sb sz nu x (fun s h => by have := hsb s h; omega)) (Fr.all rfl) mv_X3_findingOfSheet ml_X3_204 0 rfl rfl rfl (kRm_ok (by decide) (by decide)) rfl rfl (Nat.le_of_ble_eq_true rfl) dX3_lays_2 ?_
  refine k_istore_n (lv1 := [(0, .ref (a 0)), (1, .int x), (2, .int (kWr (vWr sb x)))]) hJ dX3_lays_5 (by decide) [1, 2, 0] rfl ?_
  rcases hW : vWr sb x with _ | wi
  · show J (clsW g a aK aL aT kf ct (if kf then k else jk) lk m lm t lt tp tl nx tk sr va sb sz nu) [(0, .ref (a 0)), (1, .int x), (2, .int (nI 0))] 6 []
    obtain ⟨px, hpx, rfl, hv4, hb0⟩ := vWr_ok hW
    have hzx := hsz px hpx
    have hbx := hsb px hpx
    refine k_iload_n hJ dX3_lays_6 2 rfl ?_
    refine n_if_eq (tgt := 16) hJ dX3_lays_7 (by decide) (by omega) (fun c7 => ?_) (fun c7 => ?_)
    · refine k_aload_n hJ dX3_lays_16 0 rfl ?_
      refine gf_X3_31 (v := .ref (a 4)) hJ 0 rfl rfl dX3_lays_17 ?_
      refine k_iload_n hJ dX3_lays_20 1 rfl ?_
      refine k_aaldS (f := fun i => some (a (5 + 2 * i))) (b := a (5 + 2 * px)) hJ 43 rfl px (by omega) (by decide) rfl dX3_lays_21 ?_
      refine k_astore_n (lv1 := [(0, .ref (a 0)), (1, .int (nI px)), (2, .int (nI 0)), (3, .ref (a (5 + 2 * px)))]) hJ dX3_lays_22 (by decide) [1, 2, 3, 0] rfl ?_
      refine k_iconst (v := nI 0) hJ dX3_lays_23 (by decide) ?_
      refine k_istore (lv1 := [(0, .ref (a 0)), (1, .int (nI px)), (2, .int (nI 0)), (3, .ref (a (5 + 2 * px))), (4, .int (nI 0))]) hJ dX3_lays_24 (by decide) [1, 2, 3, 4, 0] rfl ?_
      refine k_iconst (v := nI 0) hJ dX3_lays_26 (by decide) ?_
      refine k_istore (lv1 := [(0, .ref (a 0)), (1, .int (nI px)), (2, .int (nI 0)), (3, .ref (a (5 + 2 * px))), (4, .int (nI 0)), (5, .int (nI 0))]) hJ dX3_lays_27 (by decide) [1, 2, 3, 4, 5, 0] rfl ?_
      have L29 : ∀ (fu : Nat) (i : Nat), (i ≤ sz px) → (i ≤ m 0) → (sz px + 1 ≤ i + fu) → J (clsW g a aK aL aT kf ct (if kf then k else jk) lk ((vLy m (nu px) i).1) lm t lt tp tl nx tk sr va sb sz nu) [(0, .ref (a 0)), (1, .int (nI px)), (3, .ref (a (5 + 2 * px))), (4, .int (nI ((vLy m (nu px) i).2))), (5, .int (nI i))] 29 [] := by
        intro fu
        induction fu with
        | zero => intro i hi hi2 hf; exfalso; omega
        | succ fu ih =>
          intro i hi hi2 hf
          have hy0 := vLy_0 m (nu px) i
          refine k_iload hJ dX3_lays_29 4 rfl ?_
          refine k_aload_n hJ dX3_lays_31 2 rfl ?_
          refine gf_X3_201 (v := .int (nI (sz px))) hJ (44 + 2 * px) (cls_sh (by omega)) rfl dX3_lays_32 ?_
          refine n_icmp_ge (tgt := 97) hJ dX3_lays_35 (by decide) (by omega) (by omega) (fun c35 => ?_) (fun c35 => ?_)
          · refine k_iload hJ dX3_lays_97 3 rfl ?_
            have hmin : min (sz px) (m 0) = i := by omega
            have hsp : sp_lays (m, k, kf, tp, tl, sb, sz, nu, ct) (nI px) = (nI ((vLy m (nu px) i).2), ((vLy m (nu px) i).1, k, kf, tp, tl, sb, sz, nu, ct)) := by simp only [sp_lays, hW]; rw [tN_nI (show px < 2 ^ 31 by omega), hmin]
            exact k_eqw (ws2 := clsA g a aK aL aT (sp_lays (m, k, kf, tp, tl, sb, sz, nu, ct) (nI px)).2 (jk, lk, lm, t, lt, nx, tk, sr, va)) (by rw [hsp]; rfl) (hR _ _ _ (jk, lk, lm, t, lt, nx, tk, sr, va) dX3_lays_99 (by rw [hsp]))
          · refine k_iload hJ dX3_lays_38 4 rfl ?_
            refine k_aload_n hJ dX3_lays_40 0 rfl ?_
            refine gf_X3_10 (v := .ref (aL 0)) hJ 0 rfl rfl dX3_lays_41 ?_
            refine gf_X3_67 (v := .int (nI (((vLy m (nu px) i).1) 0))) hJ 15 rfl rfl dX3_lays_44 ?_
            refine n_icmp_ge (tgt := 97) hJ dX3_lays_47 (by decide) (by omega) (by omega) (fun c47 => ?_) (fun c47 => ?_)
            · refine k_iload hJ dX3_lays_97 3 rfl ?_
              have hmin : min (sz px) (m 0) = i := by omega
              have hsp : sp_lays (m, k, kf, tp, tl, sb, sz, nu, ct) (nI px) = (nI ((vLy m (nu px) i).2), ((vLy m (nu px) i).1, k, kf, tp, tl, sb, sz, nu, ct)) := by simp only [sp_lays, hW]; rw [tN_nI (show px < 2 ^ 31 by omega), hmin]
              exact k_eqw (ws2 := clsA g a aK aL aT (sp_lays (m, k, kf, tp, tl, sb, sz, nu, ct) (nI px)).2 (jk, lk, lm, t, lt, nx, tk, sr, va)) (by rw [hsp]; rfl) (hR _ _ _ (jk, lk, lm, t, lt, nx, tk, sr, va) dX3_lays_99 (by rw [hsp]))
            · refine k_aload_n hJ dX3_lays_50 2 rfl ?_
              refine gf_X3_207 (v := .ref (a (6 + 2 * px))) hJ (44 + 2 * px) (cls_sh (by omega)) rfl dX3_lays_51 ?_
              refine k_iload hJ dX3_lays_54 4 rfl ?_
              refine k_lald hJ (45 + 2 * px) (cls_nu (by omega)) i (by omega) (by decide) rfl dX3_lays_56 ?_
              refine k_lstore (lv1 := [(0, .ref (a 0)), (1, .int (nI px)), (3, .ref (a (5 + 2 * px))), (4, .int (nI ((vLy m (nu px) i).2))), (5, .int (nI i)), (6, .long (nu px i))]) hJ dX3_lays_57 (by decide) [1, 2, 3, 4, 5, 0] rfl ?_
              refine k_lload hJ dX3_lays_59 5 rfl ?_
              refine k_lconst (v := 0) hJ dX3_lays_61 (by decide) ?_
              refine k_lcmp hJ dX3_lays_62 ?_
              refine k_if_lt (tgt := 91) hJ dX3_lays_63 (by decide) (fun c63 => ?_) (fun c63 => ?_)
              · have c63 := lg_lt.mp c63
                have hI : vInL (nu px i) 0 47 = false := if_pos c63
                refine n_iinc (b := 1) (lv1 := [(0, .ref (a 0)), (1, .int (nI px)), (3, .ref (a (5 + 2 * px))), (4, .int (nI ((vLy m (nu px) i).2))), (5, .int (nI (i + 1))), (6, .long (nu px i))]) hJ dX3_lays_91 4 rfl (by decide) (by decide) [1, 2, 3, 4, 0, 5] rfl ?_
                refine k_goto (tgt := 29) hJ dX3_lays_94 (by decide) ?_
                refine k_lv (lv1 := [(0, .ref (a 0)), (1, .int (nI px)), (3, .ref (a (5 + 2 * px))), (4, .int (nI ((vLy m (nu px) i).2))), (5, .int (nI (i + 1)))]) hJ [0, 1, 2, 3, 4] rfl ?_
                refine k_eqw (ws2 := clsW g a aK aL aT kf ct (if kf then k else jk) lk ((vLy m (nu px) (i + 1)).1) lm t lt tp tl nx tk sr va sb sz nu) (by rw [vLy_f hI]) ?_
                refine k_eql (lv1 := [(0, .ref (a 0)), (1, .int (nI px)), (3, .ref (a (5 + 2 * px))), (4, .int (nI ((vLy m (nu px) (i + 1)).2))), (5, .int (nI (i + 1)))]) (by rw [vLy_f hI]) ?_
                exact ih (i + 1) (by omega) (by omega) (by omega)
              · have c63 : ¬ nu px i < 0 := fun q => absurd (lg_lt.mpr q) (by first | exact c63 | exact Int32.not_lt.mpr c63)
                refine k_lload hJ dX3_lays_66 5 rfl ?_
                refine k_ldc2 hJ dX3_lays_68 cw_X3_228 ?_
                refine k_lcmp hJ dX3_lays_71 ?_
                refine k_if_ge (tgt := 91) hJ dX3_lays_72 (by decide) (fun c72 => ?_) (fun c72 => ?_)
                · have c72 : ¬ nu px i < 48 := fun q => absurd (lg_lt.mpr q) (by first | exact c72 | exact Int32.not_lt.mpr c72)
                  have hI : vInL (nu px i) 0 47 = false := by unfold vInL; rw [if_neg c63, if_pos (Decidable.not_not.mp (fun q => c72 ((lg_48 c63).mpr q)))]
                  refine n_iinc (b := 1) (lv1 := [(0, .ref (a 0)), (1, .int (nI px)), (3, .ref (a (5 + 2 * px))), (4, .int (nI ((vLy m (nu px) i).2))), (5, .int (nI (i + 1))), (6, .long (nu px i))]) hJ dX3_lays_91 4 rfl (by decide) (by decide) [1, 2, 3, 4, 0, 5] rfl ?_
                  refine k_goto (tgt := 29) hJ dX3_lays_94 (by decide) ?_
                  refine k_lv (lv1 := [(0, .ref (a 0)), (1, .int (nI px)), (3, .ref (a (5 + 2 * px))), (4, .int (nI ((vLy m (nu px) i).2))), (5, .int (nI (i + 1)))]) hJ [0, 1, 2, 3, 4] rfl ?_
                  refine k_eqw (ws2 := clsW g a aK aL aT kf ct (if kf then k else jk) lk ((vLy m (nu px) (i + 1)).1) lm t lt tp tl nx tk sr va sb sz nu) (by rw [vLy_f hI]) ?_
                  refine k_eql (lv1 := [(0, .ref (a 0)), (1, .int (nI px)), (3, .ref (a (5 + 2 * px))), (4, .int (nI ((vLy m (nu px) (i + 1)).2))), (5, .int (nI (i + 1)))]) (by rw [vLy_f hI]) ?_
                  exact ih (i + 1) (by omega) (by omega) (by omega)
                · have c72 : nu px i < 48 := lg_lt.mp (by first | exact c72 | exact Int32.not_le.mp c72)
                  have hI : vInL (nu px i) 0 47 = true := by unfold vInL; rw [if_neg c63, if_neg ((lg_48 c63).mp c72)]
                  refine k_aload_n hJ dX3_lays_75 0 rfl ?_
                  refine gf_X3_10 (v := .ref (aL 0)) hJ 0 rfl rfl dX3_lays_76 ?_
                  refine gf_X3_81 (v := .ref (aL 2)) hJ 15 rfl rfl dX3_lays_79 ?_
                  refine k_iload hJ dX3_lays_82 4 rfl ?_
                  refine k_lload hJ dX3_lays_84 5 rfl ?_
                  refine k_l2i hJ dX3_lays_86 rfl ?_
                  refine k_eqs (st2 := [.int (nI (tN (nu px i).toInt32)), .int (nI i), .ref (aL 2)]) (by rw [← (vInL_47 hI).1]) ?_
                  refine k_iast (ws2 := clsW g a aK aL aT kf ct (if kf then k else jk) lk (vUp ((vLy m (nu px) i).1) (4 + 10 * i + 1) (tN (nu px i).toInt32)) lm t lt tp tl nx tk sr va sb sz nu) hJ 17 rfl i (by omega) (by decide) (cls_setL (i := 2) (by decide) (hs_places g aL ((vLy m (nu px) i).1) lm i (tN (nu px i).toInt32))) dX3_lays_87 ?_
                  refine n_iinc (b := 1) (lv1 := [(0, .ref (a 0)), (1, .int (nI px)), (3, .ref (a (5 + 2 * px))), (4, .int (nI (((vLy m (nu px) i).2) + 1))), (5, .int (nI i)), (6, .long (nu px i))]) hJ dX3_lays_88 3 rfl (by decide) (by decide) [1, 2, 3, 0, 4, 5] rfl ?_
                  refine n_iinc (b := 1) (lv1 := [(0, .ref (a 0)), (1, .int (nI px)), (3, .ref (a (5 + 2 * px))), (4, .int (nI (((vLy m (nu px) i).2) + 1))), (5, .int (nI (i + 1))), (6, .long (nu px i))]) hJ dX3_lays_91 4 rfl (by decide) (by decide) [1, 2, 3, 4, 0, 5] rfl ?_
                  refine k_goto (tgt := 29) hJ dX3_lays_94 (by decide) ?_
                  refine k_lv (lv1 := [(0, .ref (a 0)), (1, .int (nI px)), (3, .ref (a (5 + 2 * px))), (4, .int (nI (((vLy m (nu px) i).2) + 1))), (5, .int (nI (i + 1)))]) hJ [0, 1, 2, 3, 4] rfl ?_
                  refine k_eqw (ws2 := clsW g a aK aL aT kf ct (if kf then k else jk) lk ((vLy m (nu px) (i + 1)).1) lm t lt tp tl nx tk sr va sb sz nu) (by rw [vLy_t hI]) ?_
                  refine k_eql (lv1 := [(0, .ref (a 0)), (1, .int (nI px)), (3, .ref (a (5 + 2 * px))), (4, .int (nI ((vLy m (nu px) (i + 1)).2))), (5, .int (nI (i + 1)))]) (by rw [vLy_t hI]) ?_
                  exact ih (i + 1) (by omega) (by omega) (by omega)
      refine k_lv (lv1 := [(0, .ref (a 0)), (1, .int (nI px)), (3, .ref (a (5 + 2 * px))), (4, .int (nI 0)), (5, .int (nI 0))]) hJ [0, 1, 3, 4, 5] rfl ?_
      exact L29 (sz px + 1) 0 (by omega) (by omega) (by omega)
    · exact absurd c7 (by decide)
  · show J (clsW g a aK aL aT kf ct (if kf then k else jk) lk m lm t lt tp tl nx tk sr va sb sz nu) [(0, .ref (a 0)), (1, .int x), (2, .int (kFi wi))] 6 []
    have hwi : wi < 7 := vWr_lt hW
    refine k_iload_n hJ dX3_lays_6 2 rfl ?_
    refine k_if_eq (tgt := 16) hJ dX3_lays_7 (by decide) (fun c7 => ?_) (fun c7 => ?_)
    · exact absurd c7 (kWr_0 wi hwi)
    · refine k_aload_n hJ dX3_lays_10 0 rfl ?_
      refine k_iload_n hJ dX3_lays_11 2 rfl ?_
      refine c_VI (As := [.int (kFi wi)]) (st := []) hJ (ct_X3_tell l g a aK aL aT kf ct wi hwi) cls_frX mv_X3_tell ml_X3_56 0 rfl rfl rfl (kRm_ok (by decide) (by decide)) rfl rfl (Nat.le_of_ble_eq_true rfl) dX3_lays_12 ?_
      have hsp : sp_lays (m, k, kf, tp, tl, sb, sz, nu, ct) x = (kFi wi, (m, k, kf, tp, tl, sb, sz, nu, kTe ct wi)) := by simp only [sp_lays, hW]; rfl
      exact k_eqw (ws2 := clsA g a aK aL aT (sp_lays (m, k, kf, tp, tl, sb, sz, nu, ct) x).2 (jk, lk, lm, t, lt, nx, tk, sr, va)) (by rw [hsp]; rfl) (hR _ _ _ (jk, lk, lm, t, lt, nx, tk, sr, va) dX3_lays_15 (by rw [hsp]))
set_option maxHeartbeats 4000000 in
set_option maxRecDepth 100000 in
theorem cp_book (l : Launch) (g : KG) (a aK aL aT : Nat → Nat) (j : CJ) (s : KS) (hs : kOk s) (x : Int32) (y : Int32) (z : Int32) (u : Int32) : CT l yX3_book cX3_book 8 (some .int) (rmK 4) g [.ref (a 0), .int x, .int y, .int z, .int u] (clsA g a aK aL aT s j) (S := CJ) oI (fun r _ => r = (sp_book s x y z u).1) (fun j => clsA g a aK aL aT (sp_book s x y z u).2 j) := by
  obtain ⟨m, k, kf, tp, tl, sb, sz, nu, ct⟩ := s
  obtain ⟨jk, lk, lm, t, lt, nx, tk, sr, va⟩ := j
  obtain ⟨hm, hk, htl, htp, hsh⟩ := hs
  have h0 : m 0 ≤ 8 := hm.1
  have h1 : m 1 ≤ 9999 := hm.2.1
  have h2 : m 2 ≤ 4 := hm.2.2.1
  have h3 : m 3 ≤ 99 := hm.2.2.2.2.1
  have hB : 9999 < 2 ^ 30 := by decide
  refine k_bodyI (by decide) (Nat.le_of_ble_eq_true rfl) (fun _ _ _ => rfl) (fun J hJ hR => ?_)
  have hsb := fun s (h : s < 4) => (hsh s h).1
  have hsz := fun s (h : s < 4) => (hsh s h).2
  show J (clsW g a aK aL aT kf ct (if kf then k else jk) lk m lm t lt tp tl nx tk sr va sb sz nu) [(0, .ref (a 0)), (1, .int x), (2, .int y), (3, .int z), (4, .int u)] 0 []
  refine k_aload_n hJ dX3_book_0 0 rfl ?_
  refine k_iload_n hJ dX3_book_1 1 rfl ?_
  refine k_iload_n hJ dX3_book_2 2 rfl ?_
  refine k_iload_n hJ dX3_book_3 3 rfl ?_
  refine k_iload hJ dX3_book_4 4 rfl ?_
  refine c_VI (As := [.int x, .int y, .int z, .int u]) (st := []) hJ (ct_X3_findingOfBook l g a aK aL aT kf ct (if kf then k else jk) lk m lm t lt tp tl nx tk sr va sb sz nu x y z u (fun s h => by have := hsb s h; omega)) (Fr.all rfl) mv_X3_findingOfBook ml_X3_230 0 rfl rfl rfl (kRm_ok (by decide) (by decide)) rfl rfl (Nat.le_of_ble_eq_true rfl) dX3_book_6 ?_
  refine k_istore (lv1 := [(0, .ref (a 0)), (1, .int x), (2, .int y), (3, .int z), (4, .int u), (5, .int (kWr (vWb m sb x y z u)))]) hJ dX3_book_9 (by decide) [1, 2, 3, 4, 5, 0] rfl ?_
  rcases hW : vWb m sb x y z u with _ | wi
  · show J (clsW g a aK aL aT kf ct (if kf then k else jk) lk m lm t lt tp tl nx tk sr va sb sz nu) [(0, .ref (a 0)), (1, .int x), (2, .int y), (3, .int z), (4, .int u), (5, .int (nI 0))] 11 []
    have hWk := hW
    obtain ⟨px, py, pz, pu, hpx, hpy, hpz, hnyz, hpu, hb0, rfl, rfl, rfl, rfl⟩ := vWb_ok h0 hW
    have hzx := hsz px hpx
    have hbx := hsb px hpx
    refine k_iload hJ dX3_book_11 5 rfl ?_
    refine n_if_eq (tgt := 23) hJ dX3_book_13 (by decide) (by omega) (fun c13 => ?_) (fun c13 => ?_)
    · refine k_aload_n hJ dX3_book_23 0 rfl ?_
      refine gf_X3_31 (v := .ref (a 4)) hJ 0 rfl rfl dX3_book_24 ?_
      refine k_iload_n hJ dX3_book_27 1 rfl ?_
      refine k_aaldS (f := fun i => some (a (5 + 2 * i))) (b := a (5 + 2 * px)) hJ 43 rfl px (by omega) (by decide) rfl dX3_book_28 ?_
      refine k_astore (lv1 := [(0, .ref (a 0)), (1, .int (nI px)), (2, .int (nI py)), (3, .int (nI pz)), (4, .int (nI pu)), (5, .int (nI 0)), (6, .ref (a (5 + 2 * px)))]) hJ dX3_book_29 (by decide) [1, 2, 3, 4, 5, 6, 0] rfl ?_
      refine k_aload_n hJ dX3_book_31 0 rfl ?_
      refine gf_X3_19 (v := .ref (aT 0)) hJ 0 rfl rfl dX3_book_32 ?_
      refine k_aload_n hJ dX3_book_35 0 rfl ?_
      refine gf_X3_10 (v := .ref (aL 0)) hJ 0 rfl rfl dX3_book_36 ?_
      refine c_VV (As := [.ref (aL 0)]) (st := []) hJ (CT_swap (ct_X0_become l g aT aL t m lt lm)) cls_frLT mv_X0_become ml_X3_154 28 rfl rfl rfl (kRm_ok (by decide) (by decide)) rfl rfl (Nat.le_of_ble_eq_true rfl) dX3_book_39 ?_
      refine k_iconst (v := nI 0) hJ dX3_book_42 (by decide) ?_
      refine k_istore (lv1 := [(0, .ref (a 0)), (1, .int (nI px)), (2, .int (nI py)), (3, .int (nI pz)), (4, .int (nI pu)), (5, .int (nI 0)), (6, .ref (a (5 + 2 * px))), (7, .int (nI 0))]) hJ dX3_book_43 (by decide) [1, 2, 3, 4, 5, 6, 7, 0] rfl ?_
      have L45 : ∀ (fu : Nat) (i : Nat) (Nu : Nat → Nat → Int64) (L : Nat → Int32), (i ≤ sz px) → (sz px + 1 ≤ i + fu) → (∀ a c, Nu a c = if a = px ∧ c < i then vNar (sb px) (vSmA m py pz pu c) else nu a c) → J (clsW g a aK aL aT kf ct (if kf then k else jk) lk m lm (vIter (fun x => vHourFor x pu) i m) L tp tl nx tk sr va sb sz Nu) [(0, .ref (a 0)), (1, .int (nI px)), (2, .int (nI py)), (3, .int (nI pz)), (4, .int (nI pu)), (6, .ref (a (5 + 2 * px))), (7, .int (nI i))] 45 [] := by
        intro fu
        induction fu with
        | zero => intro i Nu L hi hf hN; exfalso; omega
        | succ fu ih =>
          intro i Nu L hi hf hN
          refine k_iload hJ dX3_book_45 6 rfl ?_
          refine k_aload hJ dX3_book_47 5 rfl ?_
          refine gf_X3_201 (v := .int (nI (sz px))) hJ (44 + 2 * px) (cls_sh (by omega)) rfl dX3_book_49 ?_
          refine n_icmp_ge (tgt := 89) hJ dX3_book_52 (by decide) (by omega) (by omega) (fun c52 => ?_) (fun c52 => ?_)
          · refine k_aload hJ dX3_book_89 5 rfl ?_
            refine gf_X3_201 (v := .int (nI (sz px))) hJ (44 + 2 * px) (cls_sh (by omega)) rfl dX3_book_91 ?_
            refine k_eqw (ws2 := clsW g a aK aL aT kf ct (if kf then k else jk) lk m lm (vIter (fun x => vHourFor x pu) i m) L tp tl nx tk sr va sb sz (fun s i => if s = px ∧ i < sz px then vNar (sb px) (vSmA m py pz pu i) else nu s i)) (by rw [show Nu = fun s i => if s = px ∧ i < sz px then vNar (sb px) (vSmA m py pz pu i) else nu s i from funext fun a => funext fun c => by rw [hN a c, show i = sz px by omega]]) ?_
            have hsp : sp_book (m, k, kf, tp, tl, sb, sz, nu, ct) (nI px) (nI py) (nI pz) (nI pu) = (nI (sz px), (m, k, kf, tp, tl, sb, sz, fun s i => if s = px ∧ i < sz px then vNar (sb px) (vSmA m py pz pu i) else nu s i, ct)) := by simp only [sp_book, hWk]; rw [tN_nI (show px < 2 ^ 31 by omega), tN_nI (show py < 2 ^ 31 by omega), tN_nI (show pz < 2 ^ 31 by omega), tN_nI (show pu < 2 ^ 31 by omega)]
            exact k_eqw (ws2 := clsA g a aK aL aT (sp_book (m, k, kf, tp, tl, sb, sz, nu, ct) (nI px) (nI py) (nI pz) (nI pu)).2 (jk, lk, lm, vIter (fun x => vHourFor x pu) i m, L, nx, tk, sr, va)) (by rw [hsp]; rfl) (hR _ _ _ (jk, lk, lm, vIter (fun x => vHourFor x pu) i m, L, nx, tk, sr, va) dX3_book_94 (by rw [hsp]))
          · refine k_aload hJ dX3_book_55 5 rfl ?_
            refine k_iload hJ dX3_book_57 6 rfl ?_
            refine k_aload_n hJ dX3_book_59 0 rfl ?_
            refine gf_X3_19 (v := .ref (aT 0)) hJ 0 rfl rfl dX3_book_60 ?_
            refine k_iload_n hJ dX3_book_63 2 rfl ?_
            refine k_iload_n hJ dX3_book_64 3 rfl ?_
            refine k_iload hJ dX3_book_65 4 rfl ?_
            refine c_VI (As := [.int (nI py), .int (nI pz), .int (nI pu)]) (st := [.int (nI i), .ref (a (5 + 2 * px))]) hJ (ct_X0_smelt l g aT (vIter (fun x => vHourFor x pu) i m) L py pz pu (show 9999 + i < 2 ^ 30 by omega) (vOk_iterFor hm hpu i) (by omega) (by omega) hpu) cls_frT mv_X0_smelt ml_X3_126 28 rfl rfl rfl (kRm_ok (by decide) (by decide)) rfl rfl (Nat.le_of_ble_eq_true rfl) dX3_book_67 ?_
            refine k_eqs (st2 := [.int (nI (vSmell (vIter vHour i m) py pz pu)), .int (nI i), .ref (a (5 + 2 * px))]) (by rw [vSm_smell (vSm_iter m hpu i) hpu]) ?_
            refine k_i2l hJ dX3_book_70 rfl ?_
            refine c_VV (As := [.int (nI i), .long ((nI (vSmell (vIter vHour i m) py pz pu)).toInt64)]) (st := []) hJ (ct_X1_put l g a (sb px) (sz px) (Nu px) px i ((nI (vSmell (vIter vHour i m) py pz pu)).toInt64) (by omega) (by omega)) (cls_frSi hpx) mv_X1_put ml_X3_211 (44 + 2 * px) (cls_sh hpx) rfl rfl (kRm_ok (by decide) (by decide)) rfl rfl (Nat.le_of_ble_eq_true rfl) dX3_book_71 ?_
            refine k_aload_n hJ dX3_book_74 0 rfl ?_
            refine gf_X3_19 (v := .ref (aT 0)) hJ 0 rfl rfl dX3_book_75 ?_
            refine k_iload hJ dX3_book_78 4 rfl ?_
            refine k_callV (As := [.int (nI pu)]) (st := []) hJ (ct_X0_hourGoesFor l g aT (vIter (fun x => vHourFor x pu) i m) L pu (show 9999 + i < 2 ^ 30 by omega) (vOk_iterFor hm hpu i) hpu) (fun _ => cls_frT) mv_X0_hourGoesFor ml_X3_158 28 rfl rfl rfl (kRm_ok (by decide) (by decide)) rfl rfl (Nat.le_of_ble_eq_true rfl) dX3_book_80 (fun _ u _ => ?_)
            refine n_iinc (b := 1) (lv1 := [(0, .ref (a 0)), (1, .int (nI px)), (2, .int (nI py)), (3, .int (nI pz)), (4, .int (nI pu)), (6, .ref (a (5 + 2 * px))), (7, .int (nI (i + 1)))]) hJ dX3_book_83 6 rfl (by decide) (by decide) [1, 2, 3, 4, 5, 6, 0] rfl ?_
            refine k_goto (tgt := 45) hJ dX3_book_86 (by decide) ?_
            refine ih (i + 1) _ u (by omega) (by omega) (fun a c => ?_)
            show (if a = px ∧ c = i then vNar (sb px) (vSmA m py pz pu i) else Nu a c) = _
            by_cases q : a = px ∧ c = i
            · rw [if_pos q, if_pos (by omega), q.2]
            · rw [if_neg q, hN a c]; by_cases c2 : a = px ∧ c < i
              · rw [if_pos c2, if_pos (by omega)]
              · rw [if_neg c2, if_neg (by omega)]
      refine k_lv (lv1 := [(0, .ref (a 0)), (1, .int (nI px)), (2, .int (nI py)), (3, .int (nI pz)), (4, .int (nI pu)), (6, .ref (a (5 + 2 * px))), (7, .int (nI 0))]) hJ [0, 1, 2, 3, 4, 6, 7] rfl ?_
      exact L45 (sz px + 1) 0 nu lt (by omega) (by omega) (fun a c => by rw [if_neg (by omega)])
    · exact absurd c13 (by decide)
  · show J (clsW g a aK aL aT kf ct (if kf then k else jk) lk m lm t lt tp tl nx tk sr va sb sz nu) [(0, .ref (a 0)), (1, .int x), (2, .int y), (3, .int z), (4, .int u), (5, .int (kFi wi))] 11 []
    have hwi : wi < 7 := vWb_lt hW
    refine k_iload hJ dX3_book_11 5 rfl ?_
    refine k_if_eq (tgt := 23) hJ dX3_book_13 (by decide) (fun c13 => ?_) (fun c13 => ?_)
    · exact absurd c13 (kWr_0 wi hwi)
    · refine k_aload_n hJ dX3_book_16 0 rfl ?_
      refine k_iload hJ dX3_book_17 5 rfl ?_
      refine c_VI (As := [.int (kFi wi)]) (st := []) hJ (ct_X3_tell l g a aK aL aT kf ct wi hwi) cls_frX mv_X3_tell ml_X3_56 0 rfl rfl rfl (kRm_ok (by decide) (by decide)) rfl rfl (Nat.le_of_ble_eq_true rfl) dX3_book_19 ?_
      have hsp : sp_book (m, k, kf, tp, tl, sb, sz, nu, ct) x y z u = (kFi wi, (m, k, kf, tp, tl, sb, sz, nu, kTe ct wi)) := by simp only [sp_book, hW]; rfl
      exact k_eqw (ws2 := clsA g a aK aL aT (sp_book (m, k, kf, tp, tl, sb, sz, nu, ct) x y z u).2 (jk, lk, lm, t, lt, nx, tk, sr, va)) (by rw [hsp]; rfl) (hR _ _ _ (jk, lk, lm, t, lt, nx, tk, sr, va) dX3_book_22 (by rw [hsp]))
set_option maxHeartbeats 4000000 in
set_option maxRecDepth 100000 in
theorem ct_X3_isToldBy (l : Launch) (g : KG) (a aK aL aT : Nat → Nat) (kf : Bool) (ct : Nat → Int32) (k : Nat → Nat) (lk : Nat → Int32) (m : Nat → Nat) (lm : Nat → Int32) (t : Nat → Nat) (lt : Nat → Int32) (tp : Nat → Nat) (tl nx tk sr va : Nat) (sb sz : Nat → Nat) (nu : Nat → Nat → Int64) (q p o d : Nat)  {B : Nat} (hB : B + 40 < 2 ^ 30) (hm : vOk B t) (hq : q < 4) (hz : sz q ≤ 40) (hp : p < 8) (ho : o < 8) (hd : d < 6) : CT l yX3_isToldBy cX3_isToldBy 6 (some .boolean) (rmK 4) g [.ref (a 0), .ref (a (5 + 2 * q)), .int (nI p), .int (nI o), .int (nI d)] (clsW g a aK aL aT kf ct k lk m lm t lt tp tl nx tk sr va sb sz nu) (S := (Nat → Nat) × (Nat → Int32)) oI (fun r _ => r = kb (vTo t (nu q) p o d (sz q))) (fun u => clsW g a aK aL aT kf ct k lk m lm u.1 u.2 tp tl nx tk sr va sb sz nu) := by
  refine k_bodyI (by decide) (Nat.le_of_ble_eq_true rfl) (fun _ _ h => by rw [h]; exact kb_nar _) (fun J hJ hR => ?_)
  show J (clsW g a aK aL aT kf ct k lk m lm t lt tp tl nx tk sr va sb sz nu) [(0, .ref (a 0)), (1, .ref (a (5 + 2 * q))), (2, .int (nI p)), (3, .int (nI o)), (4, .int (nI d))] 0 []
  have L3 : ∀ (fu : Nat) (i : Nat) (L : Nat → Int32), (i ≤ sz q) → (sz q + 1 ≤ i + fu) → (vTo t (nu q) p o d i = true) → J (clsW g a aK aL aT kf ct k lk m lm (vIter (fun x => vHourFor x d) i t) L tp tl nx tk sr va sb sz nu) [(0, .ref (a 0)), (1, .ref (a (5 + 2 * q))), (2, .int (nI p)), (3, .int (nI o)), (4, .int (nI d)), (5, .int (nI i))] 3 [] := by
    intro fu
    induction fu with
    | zero => intro i L hi hf hT; exfalso; omega
    | succ fu ih =>
      intro i L hi hf hT
      refine k_iload hJ dX3_isToldBy_3 5 rfl ?_
      refine k_aload_n hJ dX3_isToldBy_5 1 rfl ?_
      refine gf_X3_201 (v := .int (nI (sz q))) hJ (44 + 2 * q) (cls_sh (by omega)) rfl dX3_isToldBy_6 ?_
      refine n_icmp_ge (tgt := 52) hJ dX3_isToldBy_9 (by decide) (by omega) (by omega) (fun c9 => ?_) (fun c9 => ?_)
      · refine k_iconst (v := nI 1) hJ dX3_isToldBy_52 (by decide) ?_
        refine hR _ _ _ (vIter (fun x => vHourFor x d) i t, L) dX3_isToldBy_53 ?_
        show kb true = _
        refine congrArg kb ?_
        rw [show sz q = i by omega, hT]
      · refine k_aload_n hJ dX3_isToldBy_12 1 rfl ?_
        refine gf_X3_207 (v := .ref (a (6 + 2 * q))) hJ (44 + 2 * q) (cls_sh (by omega)) rfl dX3_isToldBy_13 ?_
        refine k_iload hJ dX3_isToldBy_16 5 rfl ?_
        refine k_lald hJ (45 + 2 * q) (cls_nu (by omega)) i (by omega) (by decide) rfl dX3_isToldBy_18 ?_
        refine k_aload_n hJ dX3_isToldBy_19 0 rfl ?_
        refine gf_X3_19 (v := .ref (aT 0)) hJ 0 rfl rfl dX3_isToldBy_20 ?_
        refine k_iload_n hJ dX3_isToldBy_23 2 rfl ?_
        refine k_iload_n hJ dX3_isToldBy_24 3 rfl ?_
        refine k_iload hJ dX3_isToldBy_25 4 rfl ?_
        refine c_VI (As := [.int (nI p), .int (nI o), .int (nI d)]) (st := [.long (nu q i)]) hJ (ct_X0_smelt l g aT (vIter (fun x => vHourFor x d) i t) L p o d (show B + i < 2 ^ 30 by omega) (vOk_iterFor hm hd i) hp ho hd) cls_frT mv_X0_smelt ml_X3_126 28 rfl rfl rfl (kRm_ok (by decide) (by decide)) rfl rfl (Nat.le_of_ble_eq_true rfl) dX3_isToldBy_27 ?_
        refine k_eqs (st2 := [.int (nI (vSmell (vIter vHour i t) p o d)), .long (nu q i)]) (by rw [vSm_smell (vSm_iter t hd i) hd]) ?_
        refine k_i2l hJ dX3_isToldBy_30 rfl ?_
        refine k_lcmp hJ dX3_isToldBy_31 ?_
        refine k_if_eq (tgt := 37) hJ dX3_isToldBy_32 (by decide) (fun c32 => ?_) (fun c32 => ?_)
        · rw [lg_eq] at c32
          refine k_aload_n hJ dX3_isToldBy_37 0 rfl ?_
          refine gf_X3_19 (v := .ref (aT 0)) hJ 0 rfl rfl dX3_isToldBy_38 ?_
          refine k_iload hJ dX3_isToldBy_41 4 rfl ?_
          refine k_callV (As := [.int (nI d)]) (st := []) hJ (ct_X0_hourGoesFor l g aT (vIter (fun x => vHourFor x d) i t) L d (show B + i < 2 ^ 30 by omega) (vOk_iterFor hm hd i) hd) (fun _ => cls_frT) mv_X0_hourGoesFor ml_X3_158 28 rfl rfl rfl (kRm_ok (by decide) (by decide)) rfl rfl (Nat.le_of_ble_eq_true rfl) dX3_isToldBy_43 (fun _ u _ => ?_)
          refine n_iinc (b := 1) (lv1 := [(0, .ref (a 0)), (1, .ref (a (5 + 2 * q))), (2, .int (nI p)), (3, .int (nI o)), (4, .int (nI d)), (5, .int (nI (i + 1)))]) hJ dX3_isToldBy_46 5 rfl (by decide) (by decide) [1, 2, 3, 4, 5, 0] rfl ?_
          refine k_goto (tgt := 3) hJ dX3_isToldBy_49 (by decide) ?_
          exact ih (i + 1) u (by omega) (by omega) (by rw [vTo, hT, decide_eq_true (show nu q i = vSmA t p o d i from c32)]; rfl)
        · rw [lg_eq] at c32
          refine k_iconst (v := nI 0) hJ dX3_isToldBy_35 (by decide) ?_
          refine hR _ _ _ (vIter (fun x => vHourFor x d) i t, L) dX3_isToldBy_36 ?_
          show kb false = _
          refine congrArg kb ?_
          have q1 : vTo t (nu q) p o d (i + 1) = false := by rw [vTo, decide_eq_false (show ¬ nu q i = vSmA t p o d i from c32), Bool.and_false]
          rw [show sz q = (i + 1) + (sz q - (i + 1)) by omega, vTo_false q1]
  refine k_iconst (v := nI 0) hJ dX3_isToldBy_0 (by decide) ?_
  refine k_istore (lv1 := [(0, .ref (a 0)), (1, .ref (a (5 + 2 * q))), (2, .int (nI p)), (3, .int (nI o)), (4, .int (nI d)), (5, .int (nI 0))]) hJ dX3_isToldBy_1 (by decide) [1, 2, 3, 4, 5, 0] rfl ?_
  exact L3 (sz q + 1) 0 lt (by omega) (by omega) rfl
set_option maxHeartbeats 4000000 in
set_option maxRecDepth 100000 in
theorem cp_read (l : Launch) (g : KG) (a aK aL aT : Nat → Nat) (j : CJ) (s : KS) (hs : kOk s) (x : Int32) (y : Int32) (z : Int32) (u : Int32) : CT l yX3_read cX3_read 8 (some .int) (rmK 5) g [.ref (a 0), .int x, .int y, .int z, .int u] (clsA g a aK aL aT s j) (S := CJ) oI (fun r _ => r = (sp_read s x y z u).1) (fun j => clsA g a aK aL aT (sp_read s x y z u).2 j) := by
  obtain ⟨m, k, kf, tp, tl, sb, sz, nu, ct⟩ := s
  obtain ⟨jk, lk, lm, t, lt, nx, tk, sr, va⟩ := j
  obtain ⟨hm, hk, htl, htp, hsh⟩ := hs
  have h0 : m 0 ≤ 8 := hm.1
  have h1 : m 1 ≤ 9999 := hm.2.1
  have h2 : m 2 ≤ 4 := hm.2.2.1
  have h3 : m 3 ≤ 99 := hm.2.2.2.2.1
  have hB : 9999 < 2 ^ 30 := by decide
  refine k_bodyI (by decide) (Nat.le_of_ble_eq_true rfl) (fun _ _ _ => rfl) (fun J hJ hR => ?_)
  have hsb := fun s (h : s < 4) => (hsh s h).1
  have hsz := fun s (h : s < 4) => (hsh s h).2
  show J (clsW g a aK aL aT kf ct (if kf then k else jk) lk m lm t lt tp tl nx tk sr va sb sz nu) [(0, .ref (a 0)), (1, .int x), (2, .int y), (3, .int z), (4, .int u)] 0 []
  refine k_aload_n hJ dX3_read_0 0 rfl ?_
  refine k_iload_n hJ dX3_read_1 1 rfl ?_
  refine k_iload_n hJ dX3_read_2 2 rfl ?_
  refine k_iload_n hJ dX3_read_3 3 rfl ?_
  refine k_iload hJ dX3_read_4 4 rfl ?_
  refine c_VI (As := [.int x, .int y, .int z, .int u]) (st := []) hJ (ct_X3_findingOfBook l g a aK aL aT kf ct (if kf then k else jk) lk m lm t lt tp tl nx tk sr va sb sz nu x y z u (fun s h => by have := hsb s h; omega)) (Fr.all rfl) mv_X3_findingOfBook ml_X3_230 0 rfl rfl rfl (kRm_ok (by decide) (by decide)) rfl rfl (Nat.le_of_ble_eq_true rfl) dX3_read_6 ?_
  refine k_istore (lv1 := [(0, .ref (a 0)), (1, .int x), (2, .int y), (3, .int z), (4, .int u), (5, .int (kWr (vWb m sb x y z u)))]) hJ dX3_read_9 (by decide) [1, 2, 3, 4, 5, 0] rfl ?_
  rcases hW : vWb m sb x y z u with _ | wi
  · show J (clsW g a aK aL aT kf ct (if kf then k else jk) lk m lm t lt tp tl nx tk sr va sb sz nu) [(0, .ref (a 0)), (1, .int x), (2, .int y), (3, .int z), (4, .int u), (5, .int (nI 0))] 11 []
    have hWk := hW
    obtain ⟨px, py, pz, pu, hpx, hpy, hpz, hnyz, hpu, hb0, rfl, rfl, rfl, rfl⟩ := vWb_ok h0 hW
    have hzx := hsz px hpx
    have hbx := hsb px hpx
    refine k_iload hJ dX3_read_11 5 rfl ?_
    refine n_if_eq (tgt := 23) hJ dX3_read_13 (by decide) (by omega) (fun c13 => ?_) (fun c13 => ?_)
    · refine k_iconst (v := nI 0) hJ dX3_read_23 (by decide) ?_
      refine k_istore (lv1 := [(0, .ref (a 0)), (1, .int (nI px)), (2, .int (nI py)), (3, .int (nI pz)), (4, .int (nI pu)), (5, .int (nI 0)), (6, .int (nI 0))]) hJ dX3_read_24 (by decide) [1, 2, 3, 4, 5, 6, 0] rfl ?_
      refine k_iconst (v := nI 0) hJ dX3_read_26 (by decide) ?_
      refine k_istore (lv1 := [(0, .ref (a 0)), (1, .int (nI px)), (2, .int (nI py)), (3, .int (nI pz)), (4, .int (nI pu)), (5, .int (nI 0)), (6, .int (nI 0)), (7, .int (nI 0))]) hJ dX3_read_27 (by decide) [1, 2, 3, 4, 5, 6, 7, 0] rfl ?_
      have L29 : ∀ (fu : Nat) (v : Nat) (S : Nat) (M : Nat → Nat) (L : Nat → Int32), (v ≤ 100) → (101 ≤ v + fu) → (S = vRe m (nu px) py pz pu (sz px) v) → J (clsW g a aK aL aT kf ct (if kf then k else jk) lk m lm M L tp tl nx tk sr va sb sz nu) [(0, .ref (a 0)), (1, .int (nI px)), (2, .int (nI py)), (3, .int (nI pz)), (4, .int (nI pu)), (6, .int (nI S)), (7, .int (nI v))] 29 [] := by
        intro fu
        induction fu with
        | zero => intro v S M L hv hf hS; exfalso; omega
        | succ fu ih =>
          intro v S M L hv hf hS
          refine k_iload hJ dX3_read_29 6 rfl ?_
          refine k_bipush (v := nI 99) hJ dX3_read_31 (by decide) ?_
          refine n_icmp_gt (tgt := 87) hJ dX3_read_33 (by decide) (by omega) (by omega) (fun c33 => ?_) (fun c33 => ?_)
          · refine k_iload hJ dX3_read_87 5 rfl ?_
            have hsp : sp_read (m, k, kf, tp, tl, sb, sz, nu, ct) (nI px) (nI py) (nI pz) (nI pu) = (nI S, (m, k, kf, tp, tl, sb, sz, nu, ct)) := by simp only [sp_read, hWk]; rw [tN_nI (show px < 2 ^ 31 by omega), tN_nI (show py < 2 ^ 31 by omega), tN_nI (show pz < 2 ^ 31 by omega), tN_nI (show pu < 2 ^ 31 by omega), hS, show v = 100 by omega]
            exact k_eqw (ws2 := clsA g a aK aL aT (sp_read (m, k, kf, tp, tl, sb, sz, nu, ct) (nI px) (nI py) (nI pz) (nI pu)).2 (jk, lk, lm, M, L, nx, tk, sr, va)) (by rw [hsp]; rfl) (hR _ _ _ (jk, lk, lm, M, L, nx, tk, sr, va) dX3_read_89 (by rw [hsp]))
          · refine k_aload_n hJ dX3_read_36 0 rfl ?_
            refine gf_X3_19 (v := .ref (aT 0)) hJ 0 rfl rfl dX3_read_37 ?_
            refine k_aload_n hJ dX3_read_40 0 rfl ?_
            refine gf_X3_10 (v := .ref (aL 0)) hJ 0 rfl rfl dX3_read_41 ?_
            refine c_VV (As := [.ref (aL 0)]) (st := []) hJ (CT_swap (ct_X0_become l g aT aL M m L lm)) cls_frLT mv_X0_become ml_X3_154 28 rfl rfl rfl (kRm_ok (by decide) (by decide)) rfl rfl (Nat.le_of_ble_eq_true rfl) dX3_read_44 ?_
            refine k_aload_n hJ dX3_read_47 0 rfl ?_
            refine gf_X3_19 (v := .ref (aT 0)) hJ 0 rfl rfl dX3_read_48 ?_
            refine gf_X3_103 (v := .ref (aT 5)) hJ 28 rfl rfl dX3_read_51 ?_
            refine k_iload hJ dX3_read_54 4 rfl ?_
            refine k_aald (f := fun i => some (aT (7 + i))) (b := aT (7 + pu)) hJ 33 rfl pu (by omega) (by decide) rfl dX3_read_56 ?_
            refine k_iload_n hJ dX3_read_57 3 rfl ?_
            refine k_iload hJ dX3_read_58 6 rfl ?_
            refine k_iast (ws2 := clsW g a aK aL aT kf ct (if kf then k else jk) lk m lm (vUp m (4 + 10 * pz + (4 + pu)) v) L tp tl nx tk sr va sb sz nu) hJ (35 + pu) (cls_rowT (by omega)) pz (by omega) (by decide) (cls_setRT (by omega) (hs_row g aT m L pz v (by omega))) dX3_read_60 ?_
            refine k_aload_n hJ dX3_read_61 0 rfl ?_
            refine k_aload_n hJ dX3_read_62 0 rfl ?_
            refine gf_X3_31 (v := .ref (a 4)) hJ 0 rfl rfl dX3_read_63 ?_
            refine k_iload_n hJ dX3_read_66 1 rfl ?_
            refine k_aaldS (f := fun i => some (a (5 + 2 * i))) (b := a (5 + 2 * px)) hJ 43 rfl px (by omega) (by decide) rfl dX3_read_67 ?_
            refine k_iload_n hJ dX3_read_68 2 rfl ?_
            refine k_iload_n hJ dX3_read_69 3 rfl ?_
            refine k_iload hJ dX3_read_70 4 rfl ?_
            refine k_callV (As := [.ref (a (5 + 2 * px)), .int (nI py), .int (nI pz), .int (nI pu)]) (st := []) hJ (ct_X3_isToldBy l g a aK aL aT kf ct (if kf then k else jk) lk m lm (vUp m (4 + 10 * pz + (4 + pu)) v) L tp tl nx tk sr va sb sz nu px py pz pu (show 9999 + 40 < 2 ^ 30 by decide) (vOk_sc hm pz pu hpu (show v ≤ 99 by omega)) hpx hzx (by omega) (by omega) hpu) (fun _ => Fr.all rfl) mv_X3_isToldBy ml_X3_234 0 rfl rfl rfl (kRm_ok (by decide) (by decide)) rfl rfl (Nat.le_of_ble_eq_true rfl) dX3_read_72 (fun r u hr => ?_)
            subst hr
            show J (clsW g a aK aL aT kf ct (if kf then k else jk) lk m lm u.1 u.2 tp tl nx tk sr va sb sz nu) [(0, .ref (a 0)), (1, .int (nI px)), (2, .int (nI py)), (3, .int (nI pz)), (4, .int (nI pu)), (6, .int (nI S)), (7, .int (nI v))] 75 [.int (kb (vTo (vUp m (4 + 10 * pz + (4 + pu)) v) (nu px) py pz pu (sz px)))]
            refine b_if_eq (tgt := 81) hJ dX3_read_75 (by decide) (fun c75 => ?_) (fun c75 => ?_)
            · refine n_iinc (b := 1) (lv1 := [(0, .ref (a 0)), (1, .int (nI px)), (2, .int (nI py)), (3, .int (nI pz)), (4, .int (nI pu)), (6, .int (nI S)), (7, .int (nI (v + 1)))]) hJ dX3_read_81 6 rfl (by decide) (by decide) [1, 2, 3, 4, 5, 6, 0] rfl ?_
              refine k_goto (tgt := 29) hJ dX3_read_84 (by decide) ?_
              exact ih (v + 1) _ _ _ (by omega) (by omega) (by rw [vRe, c75, hS]; rfl)
            · refine n_iinc (b := 1) (lv1 := [(0, .ref (a 0)), (1, .int (nI px)), (2, .int (nI py)), (3, .int (nI pz)), (4, .int (nI pu)), (6, .int (nI (S + 1))), (7, .int (nI v))]) hJ dX3_read_78 5 rfl (by decide) (by decide) [1, 2, 3, 4, 5, 0, 6] rfl ?_
              refine n_iinc (b := 1) (lv1 := [(0, .ref (a 0)), (1, .int (nI px)), (2, .int (nI py)), (3, .int (nI pz)), (4, .int (nI pu)), (6, .int (nI (S + 1))), (7, .int (nI (v + 1)))]) hJ dX3_read_81 6 rfl (by decide) (by decide) [1, 2, 3, 4, 5, 6, 0] rfl ?_
              refine k_goto (tgt := 29) hJ dX3_read_84 (by decide) ?_
              exact ih (v + 1) _ _ _ (by omega) (by omega) (by rw [vRe, c75, hS]; rfl)
      refine k_lv (lv1 := [(0, .ref (a 0)), (1, .int (nI px)), (2, .int (nI py)), (3, .int (nI pz)), (4, .int (nI pu)), (6, .int (nI 0)), (7, .int (nI 0))]) hJ [0, 1, 2, 3, 4, 6, 7] rfl ?_
      exact L29 101 0 0 t lt (by omega) (by omega) rfl
    · exact absurd c13 (by decide)
  · show J (clsW g a aK aL aT kf ct (if kf then k else jk) lk m lm t lt tp tl nx tk sr va sb sz nu) [(0, .ref (a 0)), (1, .int x), (2, .int y), (3, .int z), (4, .int u), (5, .int (kFi wi))] 11 []
    have hwi : wi < 7 := vWb_lt hW
    refine k_iload hJ dX3_read_11 5 rfl ?_
    refine k_if_eq (tgt := 23) hJ dX3_read_13 (by decide) (fun c13 => ?_) (fun c13 => ?_)
    · exact absurd c13 (kWr_0 wi hwi)
    · refine k_aload_n hJ dX3_read_16 0 rfl ?_
      refine k_iload hJ dX3_read_17 5 rfl ?_
      refine c_VI (As := [.int (kFi wi)]) (st := []) hJ (ct_X3_tell l g a aK aL aT kf ct wi hwi) cls_frX mv_X3_tell ml_X3_56 0 rfl rfl rfl (kRm_ok (by decide) (by decide)) rfl rfl (Nat.le_of_ble_eq_true rfl) dX3_read_19 ?_
      have hsp : sp_read (m, k, kf, tp, tl, sb, sz, nu, ct) x y z u = (kFi wi, (m, k, kf, tp, tl, sb, sz, nu, kTe ct wi)) := by simp only [sp_read, hW]; rfl
      exact k_eqw (ws2 := clsA g a aK aL aT (sp_read (m, k, kf, tp, tl, sb, sz, nu, ct) x y z u).2 (jk, lk, lm, t, lt, nx, tk, sr, va)) (by rw [hsp]; rfl) (hR _ _ _ (jk, lk, lm, t, lt, nx, tk, sr, va) dX3_read_22 (by rw [hsp]))
