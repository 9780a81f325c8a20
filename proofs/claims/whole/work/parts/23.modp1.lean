theorem vMt_0 (m : Nat → Nat) (p o : Nat) : vMt m p o 0 = m := funext fun j => by unfold vMt; rw [if_neg (by omega), if_neg (by omega)]
theorem vMt_at {m : Nat → Nat} {p o d : Nat} (hp : p < 8) (ho : o < 8) (hd : d < 6) : vMt m p o d (4 + 10 * p + (4 + d)) = m (4 + 10 * p + (4 + d)) ∧ vMt m p o d (4 + 10 * o + (4 + d)) = m (4 + 10 * o + (4 + d)) := by
  unfold vMt
  exact ⟨by rw [if_neg (by omega), if_neg (by omega)], by rw [if_neg (by omega), if_neg (by omega)]⟩
theorem vMt_step {m : Nat → Nat} {p o d : Nat} (hn : p ≠ o) (hp : p < 8) (ho : o < 8) (hd : d < 6) : vUp (vUp (vMt m p o d) (4 + 10 * p + (4 + d)) (max (m (4 + 10 * p + (4 + d))) (max (m (4 + 10 * p + (4 + d))) (m (4 + 10 * o + (4 + d))) / 2))) (4 + 10 * o + (4 + d)) (max (m (4 + 10 * o + (4 + d))) (max (m (4 + 10 * p + (4 + d))) (m (4 + 10 * o + (4 + d))) / 2)) = vMt m p o (d + 1) := by
  funext j
  by_cases e1 : j = 4 + 10 * o + (4 + d)
  · rw [vUp_eq e1]
    unfold vMt
    rw [if_neg (by omega), if_pos (by omega), e1, show 4 + 10 * o + (4 + d) - 10 * o + 10 * p = 4 + 10 * p + (4 + d) by omega, Nat.max_comm (m (4 + 10 * o + (4 + d))) (m (4 + 10 * p + (4 + d)))]
  · rw [vUp_ne e1]
    by_cases e2 : j = 4 + 10 * p + (4 + d)
    · rw [vUp_eq e2]
      unfold vMt
      rw [if_pos (by omega), e2, show 4 + 10 * p + (4 + d) - 10 * p + 10 * o = 4 + 10 * o + (4 + d) by omega]
    · rw [vUp_ne e2]
      unfold vMt
      (repeat' split) <;> first | rfl | (exfalso; omega)
theorem vOk_wash {B : Nat} {m : Nat → Nat} (h : vOk B m) {p : Nat} (hp : p < 8) : vOk B (vWash m p 6) := by
  have key : ∀ j c, m j ≤ c → vWash m p 6 j ≤ c := fun j c e => by unfold vWash; split <;> omega
  refine ⟨key _ _ h.1, key _ _ h.2.1, key _ _ h.2.2.1, ?_, key _ _ h.2.2.2.2.1, fun q hq => ⟨key _ _ (h.kd hq), key _ _ (h.pl hq), key _ _ (h.ns hq), key _ _ (h.cd hq), fun d hd => key _ _ (h.sc hq hd)⟩⟩
  rw [show vWash m p 6 3 = m 3 from if_neg (by omega)]
  exact h.2.2.2.1
theorem vDe_t {m : Nat → Nat} {p o d : Nat} (h : (vDe m p o d).2 < vSmell m p o d) : vDe m p o (d + 1) = (some d, vSmell m p o d) := if_pos h
theorem vDe_f {m : Nat → Nat} {p o d : Nat} (h : ¬ (vDe m p o d).2 < vSmell m p o d) : vDe m p o (d + 1) = vDe m p o d := if_neg h
theorem vDe_le {B : Nat} {m : Nat → Nat} (h : vOk B m) {p o : Nat} (hp : p < 8) (ho : o < 8) : ∀ {n : Nat}, n ≤ 6 → (vDe m p o n).2 ≤ 5334 ∧ ∀ b, (vDe m p o n).1 = some b → b < 6
  | 0, _ => ⟨Nat.zero_le _, fun b q => by cases q⟩
  | n + 1, hn => by
    have ih := vDe_le h hp ho (n := n) (by omega)
    by_cases c : (vDe m p o n).2 < vSmell m p o n
    · rw [vDe_t c]
      exact ⟨vSmell_le h hp ho (by omega), fun b q => by cases q; omega⟩
    · rw [vDe_f c]
      exact ih
theorem vBa_t {m : Nat → Nat} {p n : Nat} (h : vPop (vFinders (vHour (vWash m n 6)) p) < (vBa m p n).2) : vBa m p (n + 1) = (some n, vPop (vFinders (vHour (vWash m n 6)) p)) := if_pos h
theorem vBa_f {m : Nat → Nat} {p n : Nat} (h : ¬ vPop (vFinders (vHour (vWash m n 6)) p) < (vBa m p n).2) : vBa m p (n + 1) = vBa m p n := if_neg h
theorem vBa_le (m : Nat → Nat) (p : Nat) : ∀ n, (vBa m p n).2 ≤ 8 ∧ ∀ b, (vBa m p n).1 = some b → b < n
  | 0 => ⟨vPop_le, fun b q => by cases q⟩
  | n + 1 => by
    have ih := vBa_le m p n
    by_cases c : vPop (vFinders (vHour (vWash m n 6)) p) < (vBa m p n).2
    · rw [vBa_t c]
      exact ⟨vPop_le, fun b q => by cases q; omega⟩
    · rw [vBa_f c]
      exact ⟨ih.1, fun b q => Nat.lt_succ_of_lt (ih.2 b q)⟩
theorem vStrong_spec (m : Nat → Nat) (p d : Nat) : ∀ n, (vStrong m p d n = none → ∀ x, x < n → ¬ (x ≠ p ∧ vPl m x = vPl m p)) ∧ (∀ q, vStrong m p d n = some q → q < n ∧ q ≠ p ∧ vPl m q = vPl m p ∧ (∀ x, x < n → x ≠ p → vPl m x = vPl m p → vSc m x d ≤ vSc m q d) ∧ ∀ x, x < q → x ≠ p → vPl m x = vPl m p → vSc m x d < vSc m q d)
  | 0 => ⟨fun _ x hx => absurd hx (Nat.not_lt_zero x), fun q h => by cases h⟩
  | n + 1 => by
    have ih := vStrong_spec m p d n
    by_cases c : n ≠ p ∧ vPl m n = vPl m p
    · cases hO : vStrong m p d n with
      | none =>
        rw [vStrong_none hO c.1 c.2]
        refine ⟨fun h => (by cases h), fun q h => ?_⟩
        cases h
        refine ⟨by omega, c.1, c.2, fun x hx h1 h2 => ?_, fun x hx h1 h2 => absurd ⟨h1, h2⟩ (ih.1 hO x hx)⟩
        rcases Nat.lt_or_ge x n with g | g
        · exact absurd ⟨h1, h2⟩ (ih.1 hO x g)
        · rw [show x = n by omega]; exact Nat.le_refl _
      | some b =>
        obtain ⟨i1, i2, i3, i4, i5⟩ := ih.2 b hO
        by_cases c2 : vSc m b d < vSc m n d
        · rw [vStrong_more hO c.1 c.2 c2]
          refine ⟨fun h => (by cases h), fun q h => ?_⟩
          cases h
          refine ⟨by omega, c.1, c.2, fun x hx h1 h2 => ?_, fun x hx h1 h2 => Nat.lt_of_le_of_lt (i4 x hx h1 h2) c2⟩
          rcases Nat.lt_or_ge x n with g | g
          · exact Nat.le_of_lt (Nat.lt_of_le_of_lt (i4 x g h1 h2) c2)
          · rw [show x = n by omega]; exact Nat.le_refl _
        · rw [vStrong_keep hO (Nat.not_lt.mp c2)]
          refine ⟨fun h => (by cases h), fun q h => ?_⟩
          cases h
          refine ⟨by omega, i2, i3, fun x hx h1 h2 => ?_, i5⟩
          rcases Nat.lt_or_ge x n with g | g
          · exact i4 x g h1 h2
          · rw [show x = n by omega]; exact Nat.not_lt.mp c2
    · have e : vStrong m p d (n + 1) = vStrong m p d n := vStrong_skip (by
        by_cases c3 : n = p
        · exact Or.inl c3
        · exact Or.inr (fun q => c ⟨c3, q⟩))
      rw [e]
      refine ⟨fun h x hx => ?_, fun q h => ?_⟩
      · rcases Nat.lt_or_ge x n with g | g
        · exact ih.1 h x g
        · rw [show x = n by omega]; exact c
      · obtain ⟨i1, i2, i3, i4, i5⟩ := ih.2 q h
        refine ⟨by omega, i2, i3, fun x hx h1 h2 => ?_, i5⟩
        rcases Nat.lt_or_ge x n with g | g
        · exact i4 x g h1 h2
        · exact absurd ⟨(show x = n by omega) ▸ h1, (show x = n by omega) ▸ h2⟩ c
def kDn (i : Nat) : Int32 := match i with
  | 0 => -1
  | i + 1 => nI i
theorem kDn_dec (i : Nat) : nI i + Int32.ofInt (-1) = kDn i := by
  cases i with
  | zero => decide
  | succ i => exact pk_m1 i
/-- found from above: the least so far of i .. n - 1 that is as asked -/
def vFm (C : Nat → Prop) (i n : Nat) (F : Option Nat) : Prop := match F with
  | none => ∀ x, i ≤ x → x < n → ¬ C x
  | some q => i ≤ q ∧ q < n ∧ C q ∧ ∀ x, i ≤ x → x < q → ¬ C x
theorem vFm_strong {m : Nat → Nat} {p d n : Nat} {F : Option Nat} (h : vFm (fun x => x ≠ p ∧ vPl m x = vPl m p ∧ vSc m x d = vMax m p d n) 0 n F) : F = vStrong m p d n := by
  have hs := vStrong_spec m p d n
  have hx := vMax_strong m p d n
  cases hO : vStrong m p d n with
  | none =>
    cases F with
    | none => rfl
    | some q => exact absurd ⟨h.2.2.1.1, h.2.2.1.2.1⟩ (hs.1 hO q h.2.1)
  | some b =>
    rw [hO] at hx
    simp only at hx
    obtain ⟨i1, i2, i3, i4, i5⟩ := hs.2 b hO
    cases F with
    | none => exact absurd ⟨i2, i3, hx.symm⟩ (h b (Nat.zero_le b) i1)
    | some q =>
      obtain ⟨j1, j2, j3, j4⟩ := h
      rcases Nat.lt_trichotomy q b with g | g | g
      · have := i5 q g j3.1 j3.2.1
        have e := j3.2.2
        rw [hx] at e
        omega
      · rw [g]
      · exact absurd ⟨i2, i3, hx.symm⟩ (j4 b (Nat.zero_le b) g)
set_option maxHeartbeats 4000000 in
set_option maxRecDepth 100000 in
theorem mp_meet (l : Launch) (g : KG) (b : Nat → Nat) (j : MJ) (s : KS) (hs : kOk s) (x : Int32) (y : Int32) : CT l yX4_meet cX4_meet 8 (some .int) (rmK 3) g [.ref (b 0), .int x, .int y] (modA g b s j) (S := MJ) oI (fun r _ => r = (sp_meet s x y).1) (fun j => modA g b (sp_meet s x y).2 j) := by
  obtain ⟨m, k, kf, tp, tl, sb, sz, nu, ct⟩ := s
  obtain ⟨fj, mj, fr, to, va, iw, jk, th, ai, ot, mo⟩ := j
  obtain ⟨hm, hk, htl, htp, hsh⟩ := hs
  have h0 : m 0 ≤ 8 := hm.1
  have h1 : m 1 ≤ 9999 := hm.2.1
  have h2 : m 2 ≤ 4 := hm.2.2.1
  have h3 : m 3 ≤ 99 := hm.2.2.2.2.1
  have hB : 9999 < 2 ^ 30 := by decide
  refine k_bodyI (by decide) (Nat.le_of_ble_eq_true rfl) (fun _ _ _ => rfl) (fun J hJ hR => ?_)
  show J (modW g b (mE kf fj mj tl fr to va iw) m th ai ct (fun i => nI ((if kf then k else jk) i)) ot tp sb sz nu mo) [(0, .ref (b 0)), (1, .int x), (2, .int y)] 0 []
  refine k_aload_n hJ dX4_meet_0 0 rfl ?_
  refine k_iload_n hJ dX4_meet_1 1 rfl ?_
  refine k_iload_n hJ dX4_meet_2 2 rfl ?_
  refine c_VI (As := [.int x, .int y]) (st := []) hJ (ct_X4_areTwo l g b (mE kf fj mj tl fr to va iw) m x y (by omega)) (frS rfl) mv_X4_areTwo ml_X4_107 0 rfl rfl rfl (kRm_ok (by decide) (by decide)) rfl rfl (Nat.le_of_ble_eq_true rfl) dX4_meet_3 ?_
  refine b_if_ne (tgt := 16) hJ dX4_meet_6 (by decide) (fun c6 => ?_) (fun c6 => ?_)
  · obtain ⟨px, py, hpx, hpy, hnx, rfl, rfl⟩ := vTwo_of (by omega) c6
    refine k_iconst (v := nI 0) hJ dX4_meet_16 (by decide) ?_
    refine k_istore_n (lv1 := [(0, .ref (b 0)), (1, .int (nI px)), (2, .int (nI py)), (3, .int (nI 0))]) hJ dX4_meet_17 (by decide) [1, 2, 3, 0] rfl ?_
    refine k_iconst (v := nI 0) hJ dX4_meet_18 (by decide) ?_
    refine k_istore (lv1 := [(0, .ref (b 0)), (1, .int (nI px)), (2, .int (nI py)), (3, .int (nI 0)), (4, .int (nI 0))]) hJ dX4_meet_19 (by decide) [1, 2, 3, 4, 0] rfl ?_
    have L21 : ∀ (fu : Nat) (d : Nat) (S : Nat), (d ≤ 6) → (7 ≤ d + fu) → (S = vSum (fun d => (if m (4 + 10 * px + (4 + d)) < max (m (4 + 10 * px + (4 + d))) (m (4 + 10 * py + (4 + d))) / 2 then 1 else 0) + (if m (4 + 10 * py + (4 + d)) < max (m (4 + 10 * px + (4 + d))) (m (4 + 10 * py + (4 + d))) / 2 then 1 else 0)) d) → J (modW g b (mE kf fj mj tl fr to va iw) (vMt m px py d) th ai ct (fun i => nI ((if kf then k else jk) i)) ot tp sb sz nu mo) [(0, .ref (b 0)), (1, .int (nI px)), (2, .int (nI py)), (3, .int (nI S)), (4, .int (nI d))] 21 [] := by
      intro fu
      induction fu with
      | zero => intro d S hd hf hS; exfalso; omega
      | succ fu ih =>
        intro d S hd hf hS
        refine k_iload hJ dX4_meet_21 4 rfl ?_
        refine k_bipush (v := nI 6) hJ dX4_meet_23 (by decide) ?_
        refine n_icmp_ge (tgt := 106) hJ dX4_meet_25 (by decide) (by omega) (by omega) (fun c25 => ?_) (fun c25 => ?_)
        · refine k_iload_n hJ dX4_meet_106 3 rfl ?_
          have hd6 : d = 6 := by omega
          subst hd6
          have hsp : sp_meet (m, k, kf, tp, tl, sb, sz, nu, ct) (nI px) (nI py) = (nI S, (vMt m px py 6, k, kf, tp, tl, sb, sz, nu, ct)) := by simp [-Nat.add_zero, sp_meet, c6, nI_clamp (show px < 2 ^ 31 by omega), nI_clamp (show py < 2 ^ 31 by omega), hS]; rfl
          exact k_eqw (ws2 := modA g b (sp_meet (m, k, kf, tp, tl, sb, sz, nu, ct) (nI px) (nI py)).2 (fj, mj, fr, to, va, iw, jk, th, ai, ot, mo)) (by rw [hsp]; rfl) (hR _ _ _ (fj, mj, fr, to, va, iw, jk, th, ai, ot, mo) dX4_meet_107 (by rw [hsp]))
        · obtain ⟨ha, hb⟩ := vMt_at (m := m) (show px < 8 by omega) (show py < 8 by omega) (show d < 6 by omega)
          have hsa : m (4 + 10 * px + (4 + d)) ≤ 99 := hm.sc (show px < 8 by omega) (by omega)
          have hsb : m (4 + 10 * py + (4 + d)) ≤ 99 := hm.sc (show py < 8 by omega) (by omega)
          refine k_aload_n hJ dX4_meet_28 0 rfl ?_
          refine k_iload_n hJ dX4_meet_29 1 rfl ?_
          refine k_iconst (v := nI 4) hJ dX4_meet_30 (by decide) ?_
          refine k_iload hJ dX4_meet_31 4 rfl ?_
          refine n_iadd hJ dX4_meet_33 ?_
          refine c_VI (As := [.int (nI px), .int (nI (4 + d))]) (st := []) hJ (ct_X4_its l g b (mE kf fj mj tl fr to va iw) (vMt m px py d) px (4 + d) (by omega) (by omega)) (frS rfl) mv_X4_its ml_X4_82 0 rfl rfl rfl (kRm_ok (by decide) (by decide)) rfl rfl (Nat.le_of_ble_eq_true rfl) dX4_meet_34 ?_
          refine k_eqs (st2 := [.int (nI (m (4 + 10 * px + (4 + d))))]) (by rw [ha]) ?_
          refine k_istore (lv1 := [(0, .ref (b 0)), (1, .int (nI px)), (2, .int (nI py)), (3, .int (nI S)), (4, .int (nI d)), (5, .int (nI (m (4 + 10 * px + (4 + d)))))]) hJ dX4_meet_37 (by decide) [1, 2, 3, 4, 5, 0] rfl ?_
          refine k_aload_n hJ dX4_meet_39 0 rfl ?_
          refine k_iload_n hJ dX4_meet_40 2 rfl ?_
          refine k_iconst (v := nI 4) hJ dX4_meet_41 (by decide) ?_
          refine k_iload hJ dX4_meet_42 4 rfl ?_
          refine n_iadd hJ dX4_meet_44 ?_
          refine c_VI (As := [.int (nI py), .int (nI (4 + d))]) (st := []) hJ (ct_X4_its l g b (mE kf fj mj tl fr to va iw) (vMt m px py d) py (4 + d) (by omega) (by omega)) (frS rfl) mv_X4_its ml_X4_82 0 rfl rfl rfl (kRm_ok (by decide) (by decide)) rfl rfl (Nat.le_of_ble_eq_true rfl) dX4_meet_45 ?_
          refine k_eqs (st2 := [.int (nI (m (4 + 10 * py + (4 + d))))]) (by rw [hb]) ?_
          refine k_istore (lv1 := [(0, .ref (b 0)), (1, .int (nI px)), (2, .int (nI py)), (3, .int (nI S)), (4, .int (nI d)), (5, .int (nI (m (4 + 10 * px + (4 + d))))), (6, .int (nI (m (4 + 10 * py + (4 + d)))))]) hJ dX4_meet_48 (by decide) [1, 2, 3, 4, 5, 6, 0] rfl ?_
          refine k_iload hJ dX4_meet_50 5 rfl ?_
          refine k_iload hJ dX4_meet_52 6 rfl ?_
          refine n_icmp_le (tgt := 62) hJ dX4_meet_54 (by decide) (by omega) (by omega) (fun c54 => ?_) (fun c54 => ?_)
          · refine k_iload hJ dX4_meet_62 6 rfl ?_
            refine k_iconst (v := nI 2) hJ dX4_meet_64 (by decide) ?_
            refine n_idiv hJ dX4_meet_65 (by omega) (by omega) (by omega) ?_
            refine k_istore (lv1 := [(0, .ref (b 0)), (1, .int (nI px)), (2, .int (nI py)), (3, .int (nI S)), (4, .int (nI d)), (5, .int (nI (m (4 + 10 * px + (4 + d))))), (6, .int (nI (m (4 + 10 * py + (4 + d))))), (7, .int (nI ((m (4 + 10 * py + (4 + d))) / 2)))]) hJ dX4_meet_66 (by decide) [1, 2, 3, 4, 5, 6, 7, 0] rfl ?_
            refine k_iload_n hJ dX4_meet_68 3 rfl ?_
            refine k_aload_n hJ dX4_meet_69 0 rfl ?_
            refine k_iload_n hJ dX4_meet_70 1 rfl ?_
            refine k_iconst (v := nI 4) hJ dX4_meet_71 (by decide) ?_
            refine k_iload hJ dX4_meet_72 4 rfl ?_
            refine n_iadd hJ dX4_meet_74 ?_
            refine c_SI (As := [.int (nI px), .int (nI (4 + d))]) (st := [.ref (b 0), .int (nI S)]) hJ (ct_X4_spot l g px (4 + d) ) Fr.none ms_X4_spot ml_X4_57 (kRm_ok (by decide) (by decide)) rfl rfl (Nat.le_of_ble_eq_true rfl) dX4_meet_75 ?_
            refine k_iload hJ dX4_meet_78 7 rfl ?_
            have hH : (m (4 + 10 * py + (4 + d))) / 2 = max (m (4 + 10 * px + (4 + d))) (m (4 + 10 * py + (4 + d))) / 2 := by omega
            refine k_eqs (st2 := [.int (nI (max (m (4 + 10 * px + (4 + d))) (m (4 + 10 * py + (4 + d))) / 2)), .int (nI (4 + 10 * px + (4 + d))), .ref (b 0), .int (nI S)]) (by rw [hH]) ?_
            refine c_VI (As := [.int (nI (4 + 10 * px + (4 + d))), .int (nI (max (m (4 + 10 * px + (4 + d))) (m (4 + 10 * py + (4 + d))) / 2))]) (st := [.int (nI S)]) hJ (ct_X4_grows l g b (mE kf fj mj tl fr to va iw) (vMt m px py d) (4 + 10 * px + (4 + d)) (max (m (4 + 10 * px + (4 + d))) (m (4 + 10 * py + (4 + d))) / 2) (by omega) (by omega) (by rw [ha]; omega)) (frS rfl) mv_X4_grows ml_X4_110 0 rfl rfl rfl (kRm_ok (by decide) (by decide)) rfl rfl (Nat.le_of_ble_eq_true rfl) dX4_meet_80 ?_
            refine k_eqs (st2 := [.int (nI (if m (4 + 10 * px + (4 + d)) < max (m (4 + 10 * px + (4 + d))) (m (4 + 10 * py + (4 + d))) / 2 then 1 else 0)), .int (nI S)]) (by rw [ha]) ?_
            refine k_eqw (ws2 := modW g b (mE kf fj mj tl fr to va iw) (vUp (vMt m px py d) (4 + 10 * px + (4 + d)) (max (m (4 + 10 * px + (4 + d))) (max (m (4 + 10 * px + (4 + d))) (m (4 + 10 * py + (4 + d))) / 2))) th ai ct (fun i => nI ((if kf then k else jk) i)) ot tp sb sz nu mo) (by rw [ha]) ?_
            refine k_aload_n hJ dX4_meet_83 0 rfl ?_
            refine k_iload_n hJ dX4_meet_84 2 rfl ?_
            refine k_iconst (v := nI 4) hJ dX4_meet_85 (by decide) ?_
            refine k_iload hJ dX4_meet_86 4 rfl ?_
            refine n_iadd hJ dX4_meet_88 ?_
            refine c_SI (As := [.int (nI py), .int (nI (4 + d))]) (st := [.ref (b 0), .int (nI (if m (4 + 10 * px + (4 + d)) < max (m (4 + 10 * px + (4 + d))) (m (4 + 10 * py + (4 + d))) / 2 then 1 else 0)), .int (nI S)]) hJ (ct_X4_spot l g py (4 + d) ) Fr.none ms_X4_spot ml_X4_57 (kRm_ok (by decide) (by decide)) rfl rfl (Nat.le_of_ble_eq_true rfl) dX4_meet_89 ?_
            refine k_iload hJ dX4_meet_92 7 rfl ?_
            refine k_eqs (st2 := [.int (nI (max (m (4 + 10 * px + (4 + d))) (m (4 + 10 * py + (4 + d))) / 2)), .int (nI (4 + 10 * py + (4 + d))), .ref (b 0), .int (nI (if m (4 + 10 * px + (4 + d)) < max (m (4 + 10 * px + (4 + d))) (m (4 + 10 * py + (4 + d))) / 2 then 1 else 0)), .int (nI S)]) (by rw [hH]) ?_
            have hb2 : (vUp (vMt m px py d) (4 + 10 * px + (4 + d)) (max (m (4 + 10 * px + (4 + d))) (max (m (4 + 10 * px + (4 + d))) (m (4 + 10 * py + (4 + d))) / 2))) (4 + 10 * py + (4 + d)) = m (4 + 10 * py + (4 + d)) := by rw [vUp_ne (by omega), hb]
            refine c_VI (As := [.int (nI (4 + 10 * py + (4 + d))), .int (nI (max (m (4 + 10 * px + (4 + d))) (m (4 + 10 * py + (4 + d))) / 2))]) (st := [.int (nI (if m (4 + 10 * px + (4 + d)) < max (m (4 + 10 * px + (4 + d))) (m (4 + 10 * py + (4 + d))) / 2 then 1 else 0)), .int (nI S)]) hJ (ct_X4_grows l g b (mE kf fj mj tl fr to va iw) (vUp (vMt m px py d) (4 + 10 * px + (4 + d)) (max (m (4 + 10 * px + (4 + d))) (max (m (4 + 10 * px + (4 + d))) (m (4 + 10 * py + (4 + d))) / 2))) (4 + 10 * py + (4 + d)) (max (m (4 + 10 * px + (4 + d))) (m (4 + 10 * py + (4 + d))) / 2) (by omega) (by omega) (by rw [hb2]; omega)) (frS rfl) mv_X4_grows ml_X4_110 0 rfl rfl rfl (kRm_ok (by decide) (by decide)) rfl rfl (Nat.le_of_ble_eq_true rfl) dX4_meet_94 ?_
            refine k_eqs (st2 := [.int (nI (if m (4 + 10 * py + (4 + d)) < max (m (4 + 10 * px + (4 + d))) (m (4 + 10 * py + (4 + d))) / 2 then 1 else 0)), .int (nI (if m (4 + 10 * px + (4 + d)) < max (m (4 + 10 * px + (4 + d))) (m (4 + 10 * py + (4 + d))) / 2 then 1 else 0)), .int (nI S)]) (by rw [hb2]) ?_
            refine k_eqw (ws2 := modW g b (mE kf fj mj tl fr to va iw) (vUp (vUp (vMt m px py d) (4 + 10 * px + (4 + d)) (max (m (4 + 10 * px + (4 + d))) (max (m (4 + 10 * px + (4 + d))) (m (4 + 10 * py + (4 + d))) / 2))) (4 + 10 * py + (4 + d)) (max (m (4 + 10 * py + (4 + d))) (max (m (4 + 10 * px + (4 + d))) (m (4 + 10 * py + (4 + d))) / 2))) th ai ct (fun i => nI ((if kf then k else jk) i)) ot tp sb sz nu mo) (by rw [hb2]) ?_
            refine n_iadd hJ dX4_meet_97 ?_
            refine n_iadd hJ dX4_meet_98 ?_
            refine k_istore_n (lv1 := [(0, .ref (b 0)), (1, .int (nI px)), (2, .int (nI py)), (3, .int (nI (S + ((if m (4 + 10 * px + (4 + d)) < max (m (4 + 10 * px + (4 + d))) (m (4 + 10 * py + (4 + d))) / 2 then 1 else 0) + (if m (4 + 10 * py + (4 + d)) < max (m (4 + 10 * px + (4 + d))) (m (4 + 10 * py + (4 + d))) / 2 then 1 else 0))))), (4, .int (nI d)), (5, .int (nI (m (4 + 10 * px + (4 + d))))), (6, .int (nI (m (4 + 10 * py + (4 + d))))), (7, .int (nI ((m (4 + 10 * py + (4 + d))) / 2)))]) hJ dX4_meet_99 (by decide) [1, 2, 3, 0, 4, 5, 6, 7] rfl ?_
            refine n_iinc (b := 1) (lv1 := [(0, .ref (b 0)), (1, .int (nI px)), (2, .int (nI py)), (3, .int (nI (S + ((if m (4 + 10 * px + (4 + d)) < max (m (4 + 10 * px + (4 + d))) (m (4 + 10 * py + (4 + d))) / 2 then 1 else 0) + (if m (4 + 10 * py + (4 + d)) < max (m (4 + 10 * px + (4 + d))) (m (4 + 10 * py + (4 + d))) / 2 then 1 else 0))))), (4, .int (nI (d + 1))), (5, .int (nI (m (4 + 10 * px + (4 + d))))), (6, .int (nI (m (4 + 10 * py + (4 + d))))), (7, .int (nI ((m (4 + 10 * py + (4 + d))) / 2)))]) hJ dX4_meet_100 4 rfl (by decide) (by decide) [1, 2, 3, 4, 0, 5, 6, 7] rfl ?_
            refine k_goto (tgt := 21) hJ dX4_meet_103 (by decide) ?_
            refine k_eqw (ws2 := modW g b (mE kf fj mj tl fr to va iw) (vMt m px py (d + 1)) th ai ct (fun i => nI ((if kf then k else jk) i)) ot tp sb sz nu mo) (by rw [vMt_step hnx (by omega) (by omega) (by omega)]) ?_
            refine k_lv (lv1 := [(0, .ref (b 0)), (1, .int (nI px)), (2, .int (nI py)), (3, .int (nI (S + ((if m (4 + 10 * px + (4 + d)) < max (m (4 + 10 * px + (4 + d))) (m (4 + 10 * py + (4 + d))) / 2 then 1 else 0) + (if m (4 + 10 * py + (4 + d)) < max (m (4 + 10 * px + (4 + d))) (m (4 + 10 * py + (4 + d))) / 2 then 1 else 0))))), (4, .int (nI (d + 1)))]) hJ [0, 1, 2, 3, 4] rfl ?_
            exact ih (d + 1) _ (by omega) (by omega) (by rw [vSum, hS])
          · refine k_iload hJ dX4_meet_57 5 rfl ?_
            refine k_goto (tgt := 64) hJ dX4_meet_59 (by decide) ?_
            refine k_iconst (v := nI 2) hJ dX4_meet_64 (by decide) ?_
            refine n_idiv hJ dX4_meet_65 (by omega) (by omega) (by omega) ?_
            refine k_istore (lv1 := [(0, .ref (b 0)), (1, .int (nI px)), (2, .int (nI py)), (3, .int (nI S)), (4, .int (nI d)), (5, .int (nI (m (4 + 10 * px + (4 + d))))), (6, .int (nI (m (4 + 10 * py + (4 + d))))), (7, .int (nI ((m (4 + 10 * px + (4 + d))) / 2)))]) hJ dX4_meet_66 (by decide) [1, 2, 3, 4, 5, 6, 7, 0] rfl ?_
            refine k_iload_n hJ dX4_meet_68 3 rfl ?_
            refine k_aload_n hJ dX4_meet_69 0 rfl ?_
            refine k_iload_n hJ dX4_meet_70 1 rfl ?_
            refine k_iconst (v := nI 4) hJ dX4_meet_71 (by decide) ?_
            refine k_iload hJ dX4_meet_72 4 rfl ?_
            refine n_iadd hJ dX4_meet_74 ?_
            refine c_SI (As := [.int (nI px), .int (nI (4 + d))]) (st := [.ref (b 0), .int (nI S)]) hJ (ct_X4_spot l g px (4 + d) ) Fr.none ms_X4_spot ml_X4_57 (kRm_ok (by decide) (by decide)) rfl rfl (Nat.le_of_ble_eq_true rfl) dX4_meet_75 ?_
            refine k_iload hJ dX4_meet_78 7 rfl ?_
            have hH : (m (4 + 10 * px + (4 + d))) / 2 = max (m (4 + 10 * px + (4 + d))) (m (4 + 10 * py + (4 + d))) / 2 := by omega
            refine k_eqs (st2 := [.int (nI (max (m (4 + 10 * px + (4 + d))) (m (4 + 10 * py + (4 + d))) / 2)), .int (nI (4 + 10 * px + (4 + d))), .ref (b 0), .int (nI S)]) (by rw [hH]) ?_
            refine c_VI (As := [.int (nI (4 + 10 * px + (4 + d))), .int (nI (max (m (4 + 10 * px + (4 + d))) (m (4 + 10 * py + (4 + d))) / 2))]) (st := [.int (nI S)]) hJ (ct_X4_grows l g b (mE kf fj mj tl fr to va iw) (vMt m px py d) (4 + 10 * px + (4 + d)) (max (m (4 + 10 * px + (4 + d))) (m (4 + 10 * py + (4 + d))) / 2) (by omega) (by omega) (by rw [ha]; omega)) (frS rfl) mv_X4_grows ml_X4_110 0 rfl rfl rfl (kRm_ok (by decide) (by decide)) rfl rfl (Nat.le_of_ble_eq_true rfl) dX4_meet_80 ?_
            refine k_eqs (st2 := [.int (nI (if m (4 + 10 * px + (4 + d)) < max (m (4 + 10 * px + (4 + d))) (m (4 + 10 * py + (4 + d))) / 2 then 1 else 0)), .int (nI S)]) (by rw [ha]) ?_
            refine k_eqw (ws2 := modW g b (mE kf fj mj tl fr to va iw) (vUp (vMt m px py d) (4 + 10 * px + (4 + d)) (max (m (4 + 10 * px + (4 + d))) (max (m (4 + 10 * px + (4 + d))) (m (4 + 10 * py + (4 + d))) / 2))) th ai ct (fun i => nI ((if kf then k else jk) i)) ot tp sb sz nu mo) (by rw [ha]) ?_
            refine k_aload_n hJ dX4_meet_83 0 rfl ?_
            refine k_iload_n hJ dX4_meet_84 2 rfl ?_
            refine k_iconst (v := nI 4) hJ dX4_meet_85 (by decide) ?_
            refine k_iload hJ dX4_meet_86 4 rfl ?_
            refine n_iadd hJ dX4_meet_88 ?_
            refine c_SI (As := [.int (nI py), .int (nI (4 + d))]) (st := [.ref (b 0), .int (nI (if m (4 + 10 * px + (4 + d)) < max (m (4 + 10 * px + (4 + d))) (m (4 + 10 * py + (4 + d))) / 2 then 1 else 0)), .int (nI S)]) hJ (ct_X4_spot l g py (4 + d) ) Fr.none ms_X4_spot ml_X4_57 (kRm_ok (by decide) (by decide)) rfl rfl (Nat.le_of_ble_eq_true rfl) dX4_meet_89 ?_
            refine k_iload hJ dX4_meet_92 7 rfl ?_
            refine k_eqs (st2 := [.int (nI (max (m (4 + 10 * px + (4 + d))) (m (4 + 10 * py + (4 + d))) / 2)), .int (nI (4 + 10 * py + (4 + d))), .ref (b 0), .int (nI (if m (4 + 10 * px + (4 + d)) < max (m (4 + 10 * px + (4 + d))) (m (4 + 10 * py + (4 + d))) / 2 then 1 else 0)), .int (nI S)]) (by rw [hH]) ?_
            have hb2 : (vUp (vMt m px py d) (4 + 10 * px + (4 + d)) (max (m (4 + 10 * px + (4 + d))) (max (m (4 + 10 * px + (4 + d))) (m (4 + 10 * py + (4 + d))) / 2))) (4 + 10 * py + (4 + d)) = m (4 + 10 * py + (4 + d)) := by rw [vUp_ne (by omega), hb]
            refine c_VI (As := [.int (nI (4 + 10 * py + (4 + d))), .int (nI (max (m (4 + 10 * px + (4 + d))) (m (4 + 10 * py + (4 + d))) / 2))]) (st := [.int (nI (if m (4 + 10 * px + (4 + d)) < max (m (4 + 10 * px + (4 + d))) (m (4 + 10 * py + (4 + d))) / 2 then 1 else 0)), .int (nI S)]) hJ (ct_X4_grows l g b (mE kf fj mj tl fr to va iw) (vUp (vMt m px py d) (4 + 10 * px + (4 + d)) (max (m (4 + 10 * px + (4 + d))) (max (m (4 + 10 * px + (4 + d))) (m (4 + 10 * py + (4 + d))) / 2))) (4 + 10 * py + (4 + d)) (max (m (4 + 10 * px + (4 + d))) (m (4 + 10 * py + (4 + d))) / 2) (by omega) (by omega) (by rw [hb2]; omega)) (frS rfl) mv_X4_grows ml_X4_110 0 rfl rfl rfl (kRm_ok (by decide) (by decide)) rfl rfl (Nat.le_of_ble_eq_true rfl) dX4_meet_94 ?_
            refine k_eqs (st2 := [.int (nI (if m (4 + 10 * py + (4 + d)) < max (m (4 + 10 * px + (4 + d))) (m (4 + 10 * py + (4 + d))) / 2 then 1 else 0)), .int (nI (if m (4 + 10 * px + (4 + d)) < max (m (4 + 10 * px + (4 + d))) (m (4 + 10 * py + (4 + d))) / 2 then 1 else 0)), .int (nI S)]) (by rw [hb2]) ?_
            refine k_eqw (ws2 := modW g b (mE kf fj mj tl fr to va iw) (vUp (vUp (vMt m px py d) (4 + 10 * px + (4 + d)) (max (m (4 + 10 * px + (4 + d))) (max (m (4 + 10 * px + (4 + d))) (m (4 + 10 * py + (4 + d))) / 2))) (4 + 10 * py + (4 + d)) (max (m (4 + 10 * py + (4 + d))) (max (m (4 + 10 * px + (4 + d))) (m (4 + 10 * py + (4 + d))) / 2))) th ai ct (fun i => nI ((if kf then k else jk) i)) ot tp sb sz nu mo) (by rw [hb2]) ?_
            refine n_iadd hJ dX4_meet_97 ?_
            refine n_iadd hJ dX4_meet_98 ?_
            refine k_istore_n (lv1 := [(0, .ref (b 0)), (1, .int (nI px)), (2, .int (nI py)), (3, .int (nI (S + ((if m (4 + 10 * px + (4 + d)) < max (m (4 + 10 * px + (4 + d))) (m (4 + 10 * py + (4 + d))) / 2 then 1 else 0) + (if m (4 + 10 * py + (4 + d)) < max (m (4 + 10 * px + (4 + d))) (m (4 + 10 * py + (4 + d))) / 2 then 1 else 0))))), (4, .int (nI d)), (5, .int (nI (m (4 + 10 * px + (4 + d))))), (6, .int (nI (m (4 + 10 * py + (4 + d))))), (7, .int (nI ((m (4 + 10 * px + (4 + d))) / 2)))]) hJ dX4_meet_99 (by decide) [1, 2, 3, 0, 4, 5, 6, 7] rfl ?_
            refine n_iinc (b := 1) (lv1 := [(0, .ref (b 0)), (1, .int (nI px)), (2, .int (nI py)), (3, .int (nI (S + ((if m (4 + 10 * px + (4 + d)) < max (m (4 + 10 * px + (4 + d))) (m (4 + 10 * py + (4 + d))) / 2 then 1 else 0) + (if m (4 + 10 * py + (4 + d)) < max (m (4 + 10 * px + (4 + d))) (m (4 + 10 * py + (4 + d))) / 2 then 1 else 0))))), (4, .int (nI (d + 1))), (5, .int (nI (m (4 + 10 * px + (4 + d))))), (6, .int (nI (m (4 + 10 * py + (4 + d))))), (7, .int (nI ((m (4 + 10 * px + (4 + d))) / 2)))]) hJ dX4_meet_100 4 rfl (by decide) (by decide) [1, 2, 3, 4, 0, 5, 6, 7] rfl ?_
            refine k_goto (tgt := 21) hJ dX4_meet_103 (by decide) ?_
            refine k_eqw (ws2 := modW g b (mE kf fj mj tl fr to va iw) (vMt m px py (d + 1)) th ai ct (fun i => nI ((if kf then k else jk) i)) ot tp sb sz nu mo) (by rw [vMt_step hnx (by omega) (by omega) (by omega)]) ?_
            refine k_lv (lv1 := [(0, .ref (b 0)), (1, .int (nI px)), (2, .int (nI py)), (3, .int (nI (S + ((if m (4 + 10 * px + (4 + d)) < max (m (4 + 10 * px + (4 + d))) (m (4 + 10 * py + (4 + d))) / 2 then 1 else 0) + (if m (4 + 10 * py + (4 + d)) < max (m (4 + 10 * px + (4 + d))) (m (4 + 10 * py + (4 + d))) / 2 then 1 else 0))))), (4, .int (nI (d + 1)))]) hJ [0, 1, 2, 3, 4] rfl ?_
            exact ih (d + 1) _ (by omega) (by omega) (by rw [vSum, hS])
    exact k_eqw (ws2 := modW g b (mE kf fj mj tl fr to va iw) (vMt m px py 0) th ai ct (fun i => nI ((if kf then k else jk) i)) ot tp sb sz nu mo) (by rw [vMt_0]) (L21 7 0 0 (by omega) (by omega) rfl)
  · refine k_aload_n hJ dX4_meet_9 0 rfl ?_
    refine k_ldc hJ dX4_meet_10 cw_X4_44 ?_
    refine k_eqs (st2 := [.int (kFi 0), .ref (b 0)]) (by rw [kFi_c0]) ?_
    refine c_VI (As := [.int (kFi 0)]) (st := []) hJ (ct_X4_finds l g b (mE kf fj mj tl fr to va iw) m th ai ct (fun i => nI ((if kf then k else jk) i)) ot tp sb sz nu mo 0 (by decide)) (Fr.all rfl) mv_X4_finds ml_X4_68 0 rfl rfl rfl (kRm_ok (by decide) (by decide)) rfl rfl (Nat.le_of_ble_eq_true rfl) dX4_meet_12 ?_
    have hsp : sp_meet (m, k, kf, tp, tl, sb, sz, nu, ct) x y = (kFi 0, (m, k, kf, tp, tl, sb, sz, nu, kTe ct 0)) := by simp [-Nat.add_zero, sp_meet, sp_tell, nI_l0, nI_l1, nI_l2, nI_l3, nI_l4, tN_l0, tN_l1, tN_l2, tN_l3, tN_l4, c6] <;> (repeat' (first | intro _ | refine ⟨?_, ?_⟩ | split)) <;> first | rfl | omega | (exfalso; omega)
    exact k_eqw (ws2 := modA g b (sp_meet (m, k, kf, tp, tl, sb, sz, nu, ct) x y).2 (fj, mj, fr, to, va, iw, jk, th, ai, ot, mo)) (by rw [hsp]; rfl) (hR _ _ _ (fj, mj, fr, to, va, iw, jk, th, ai, ot, mo) dX4_meet_15 (by rw [hsp]))
set_option maxHeartbeats 4000000 in
set_option maxRecDepth 100000 in
theorem mp_deed (l : Launch) (g : KG) (b : Nat → Nat) (j : MJ) (s : KS) (hs : kOk s) (x : Int32) (y : Int32) : CT l yX4_deed cX4_deed 7 (some .int) (rmK 4) g [.ref (b 0), .int x, .int y] (modA g b s j) (S := MJ) oI (fun r _ => r = (sp_deed s x y).1) (fun j => modA g b (sp_deed s x y).2 j) := by
  obtain ⟨m, k, kf, tp, tl, sb, sz, nu, ct⟩ := s
  obtain ⟨fj, mj, fr, to, va, iw, jk, th, ai, ot, mo⟩ := j
  obtain ⟨hm, hk, htl, htp, hsh⟩ := hs
  have h0 : m 0 ≤ 8 := hm.1
  have h1 : m 1 ≤ 9999 := hm.2.1
  have h2 : m 2 ≤ 4 := hm.2.2.1
  have h3 : m 3 ≤ 99 := hm.2.2.2.2.1
  have hB : 9999 < 2 ^ 30 := by decide
  refine k_bodyI (by decide) (Nat.le_of_ble_eq_true rfl) (fun _ _ _ => rfl) (fun J hJ hR => ?_)
  show J (modW g b (mE kf fj mj tl fr to va iw) m th ai ct (fun i => nI ((if kf then k else jk) i)) ot tp sb sz nu mo) [(0, .ref (b 0)), (1, .int x), (2, .int y)] 0 []
  refine k_aload_n hJ dX4_deed_0 0 rfl ?_
  refine k_iload_n hJ dX4_deed_1 1 rfl ?_
  refine k_iload_n hJ dX4_deed_2 2 rfl ?_
  refine c_VI (As := [.int x, .int y]) (st := []) hJ (ct_X4_areTwo l g b (mE kf fj mj tl fr to va iw) m x y (by omega)) (frS rfl) mv_X4_areTwo ml_X4_107 0 rfl rfl rfl (kRm_ok (by decide) (by decide)) rfl rfl (Nat.le_of_ble_eq_true rfl) dX4_deed_3 ?_
  refine b_if_ne (tgt := 16) hJ dX4_deed_6 (by decide) (fun c6 => ?_) (fun c6 => ?_)
  · obtain ⟨px, py, hpx, hpy, hnx, rfl, rfl⟩ := vTwo_of (by omega) c6
    refine k_iconst (v := (-1)) hJ dX4_deed_16 (by decide) ?_
    refine k_istore_n (lv1 := [(0, .ref (b 0)), (1, .int (nI px)), (2, .int (nI py)), (3, .int (-1))]) hJ dX4_deed_17 (by decide) [1, 2, 3, 0] rfl ?_
    refine k_iconst (v := nI 0) hJ dX4_deed_18 (by decide) ?_
    refine k_istore (lv1 := [(0, .ref (b 0)), (1, .int (nI px)), (2, .int (nI py)), (3, .int (-1)), (4, .int (nI 0))]) hJ dX4_deed_19 (by decide) [1, 2, 3, 4, 0] rfl ?_
    refine k_iconst (v := nI 0) hJ dX4_deed_21 (by decide) ?_
    refine k_istore (lv1 := [(0, .ref (b 0)), (1, .int (nI px)), (2, .int (nI py)), (3, .int (-1)), (4, .int (nI 0)), (5, .int (nI 0))]) hJ dX4_deed_22 (by decide) [1, 2, 3, 4, 5, 0] rfl ?_
    have L24 : ∀ (fu : Nat) (d : Nat), (d ≤ 6) → (7 ≤ d + fu) → J (modW g b (mE kf fj mj tl fr to va iw) m th ai ct (fun i => nI ((if kf then k else jk) i)) ot tp sb sz nu mo) [(0, .ref (b 0)), (1, .int (nI px)), (2, .int (nI py)), (3, .int (kOpt (vDe m px py d).1)), (4, .int (nI ((vDe m px py d).2))), (5, .int (nI d))] 24 [] := by
      intro fu
      induction fu with
      | zero => intro d hd hf; exfalso; omega
      | succ fu ih =>
        intro d hd hf
        refine k_iload hJ dX4_deed_24 5 rfl ?_
        refine k_bipush (v := nI 6) hJ dX4_deed_26 (by decide) ?_
        refine n_icmp_ge (tgt := 77) hJ dX4_deed_28 (by decide) (by omega) (by omega) (fun c28 => ?_) (fun c28 => ?_)
        · have hd6 : d = 6 := by omega
          subst hd6
          rcases hO : (vDe m px py 6).1 with _ | bb
          · show J (modW g b (mE kf fj mj tl fr to va iw) m th ai ct (fun i => nI ((if kf then k else jk) i)) ot tp sb sz nu mo) [(0, .ref (b 0)), (1, .int (nI px)), (2, .int (nI py)), (3, .int (-1)), (4, .int (nI ((vDe m px py 6).2))), (5, .int (nI 6))] 77 []
            refine k_iload_n hJ dX4_deed_77 3 rfl ?_
            refine k_if_ge (tgt := 90) hJ dX4_deed_78 (by decide) (fun c78 => ?_) (fun c78 => ?_)
            · refine k_iload_n hJ dX4_deed_90 3 rfl ?_
              exact absurd c78 (by decide)
            · refine k_aload_n hJ dX4_deed_81 0 rfl ?_
              refine k_ldc hJ dX4_deed_82 cw_X4_129 ?_
              refine k_eqs (st2 := [.int (kFi 3), .ref (b 0)]) (by rw [kFi_c3]) ?_
              refine c_VI (As := [.int (kFi 3)]) (st := []) hJ (ct_X4_finds l g b (mE kf fj mj tl fr to va iw) m th ai ct (fun i => nI ((if kf then k else jk) i)) ot tp sb sz nu mo 3 (by decide)) (Fr.all rfl) mv_X4_finds ml_X4_68 0 rfl rfl rfl (kRm_ok (by decide) (by decide)) rfl rfl (Nat.le_of_ble_eq_true rfl) dX4_deed_84 ?_
              refine k_goto (tgt := 91) hJ dX4_deed_87 (by decide) ?_
              have hsp : sp_deed (m, k, kf, tp, tl, sb, sz, nu, ct) (nI px) (nI py) = (kFi 3, (m, k, kf, tp, tl, sb, sz, nu, kTe ct 3)) := by simp [sp_deed, sp_opt, sp_tell, c6, nI_clamp (show px < 2 ^ 31 by omega), nI_clamp (show py < 2 ^ 31 by omega), hO]
              exact k_eqw (ws2 := modA g b (sp_deed (m, k, kf, tp, tl, sb, sz, nu, ct) (nI px) (nI py)).2 (fj, mj, fr, to, va, iw, jk, th, ai, ot, mo)) (by rw [hsp]; rfl) (hR _ _ _ (fj, mj, fr, to, va, iw, jk, th, ai, ot, mo) dX4_deed_91 (by rw [hsp]))
          · show J (modW g b (mE kf fj mj tl fr to va iw) m th ai ct (fun i => nI ((if kf then k else jk) i)) ot tp sb sz nu mo) [(0, .ref (b 0)), (1, .int (nI px)), (2, .int (nI py)), (3, .int (nI bb)), (4, .int (nI ((vDe m px py 6).2))), (5, .int (nI 6))] 77 []
            have hbb := (vDe_le hm (show px < 8 by omega) (show py < 8 by omega) (Nat.le_refl 6)).2 bb hO
            refine k_iload_n hJ dX4_deed_77 3 rfl ?_
            refine n_if_ge (tgt := 90) hJ dX4_deed_78 (by decide) (by omega) (fun c78 => ?_) (fun c78 => ?_)
            · refine k_iload_n hJ dX4_deed_90 3 rfl ?_
              have hsp : sp_deed (m, k, kf, tp, tl, sb, sz, nu, ct) (nI px) (nI py) = (nI bb, (m, k, kf, tp, tl, sb, sz, nu, ct)) := by simp [sp_deed, sp_opt, sp_tell, c6, nI_clamp (show px < 2 ^ 31 by omega), nI_clamp (show py < 2 ^ 31 by omega), hO]
              exact k_eqw (ws2 := modA g b (sp_deed (m, k, kf, tp, tl, sb, sz, nu, ct) (nI px) (nI py)).2 (fj, mj, fr, to, va, iw, jk, th, ai, ot, mo)) (by rw [hsp]; rfl) (hR _ _ _ (fj, mj, fr, to, va, iw, jk, th, ai, ot, mo) dX4_deed_91 (by rw [hsp]))
            · exact absurd c78 (by omega)
        · have hl := (vDe_le hm (show px < 8 by omega) (show py < 8 by omega) (show d ≤ 6 by omega)).1
          have hq := vSmell_le hm (show px < 8 by omega) (show py < 8 by omega) (show d < 6 by omega)
          refine k_aload_n hJ dX4_deed_31 0 rfl ?_
          refine k_iload_n hJ dX4_deed_32 1 rfl ?_
          refine k_iload_n hJ dX4_deed_33 2 rfl ?_
          refine k_iload hJ dX4_deed_34 5 rfl ?_
          refine c_VI (As := [.int (nI px), .int (nI py), .int (nI d)]) (st := []) hJ (ct_X4_smell l g b (mE kf fj mj tl fr to va iw) m px py d hB hm (by omega) (by omega) (by omega)) (frS rfl) mv_X4_smell ml_X4_126 0 rfl rfl rfl (kRm_ok (by decide) (by decide)) rfl rfl (Nat.le_of_ble_eq_true rfl) dX4_deed_36 ?_
          refine k_istore (lv1 := [(0, .ref (b 0)), (1, .int (nI px)), (2, .int (nI py)), (3, .int (kOpt (vDe m px py d).1)), (4, .int (nI ((vDe m px py d).2))), (5, .int (nI d)), (6, .int (nI (vSmell m px py d)))]) hJ dX4_deed_39 (by decide) [1, 2, 3, 4, 5, 6, 0] rfl ?_
          refine k_iload hJ dX4_deed_41 6 rfl ?_
          refine k_iload hJ dX4_deed_43 4 rfl ?_
          refine n_icmp_le (tgt := 53) hJ dX4_deed_45 (by decide) (by omega) (by omega) (fun c45 => ?_) (fun c45 => ?_)
          · refine k_iload_n hJ dX4_deed_53 3 rfl ?_
            refine k_istore_n (lv1 := [(0, .ref (b 0)), (1, .int (nI px)), (2, .int (nI py)), (3, .int (kOpt (vDe m px py d).1)), (4, .int (nI ((vDe m px py d).2))), (5, .int (nI d)), (6, .int (nI (vSmell m px py d)))]) hJ dX4_deed_54 (by decide) [1, 2, 3, 0, 4, 5, 6] rfl ?_
            refine k_iload hJ dX4_deed_55 6 rfl ?_
            refine k_iload hJ dX4_deed_57 4 rfl ?_
            refine n_icmp_le (tgt := 67) hJ dX4_deed_59 (by decide) (by omega) (by omega) (fun c59 => ?_) (fun c59 => ?_)
            · refine k_iload hJ dX4_deed_67 4 rfl ?_
              refine k_istore (lv1 := [(0, .ref (b 0)), (1, .int (nI px)), (2, .int (nI py)), (3, .int (kOpt (vDe m px py d).1)), (4, .int (nI ((vDe m px py d).2))), (5, .int (nI d)), (6, .int (nI (vSmell m px py d)))]) hJ dX4_deed_69 (by decide) [1, 2, 3, 4, 0, 5, 6] rfl ?_
              refine n_iinc (b := 1) (lv1 := [(0, .ref (b 0)), (1, .int (nI px)), (2, .int (nI py)), (3, .int (kOpt (vDe m px py d).1)), (4, .int (nI ((vDe m px py d).2))), (5, .int (nI (d + 1))), (6, .int (nI (vSmell m px py d)))]) hJ dX4_deed_71 5 rfl (by decide) (by decide) [1, 2, 3, 4, 5, 0, 6] rfl ?_
              refine k_goto (tgt := 24) hJ dX4_deed_74 (by decide) ?_
              refine k_lv (lv1 := [(0, .ref (b 0)), (1, .int (nI px)), (2, .int (nI py)), (3, .int (kOpt (vDe m px py d).1)), (4, .int (nI ((vDe m px py d).2))), (5, .int (nI (d + 1)))]) hJ [0, 1, 2, 3, 4, 5] rfl ?_
              refine k_eql (lv1 := [(0, .ref (b 0)), (1, .int (nI px)), (2, .int (nI py)), (3, .int (kOpt (vDe m px py (d + 1)).1)), (4, .int (nI ((vDe m px py (d + 1)).2))), (5, .int (nI (d + 1)))]) (by rw [vDe_f (by omega)]) ?_
              exact ih (d + 1) (by omega) (by omega)
            · refine k_iload hJ dX4_deed_62 6 rfl ?_
              refine k_goto (tgt := 69) hJ dX4_deed_64 (by decide) ?_
              refine k_istore (lv1 := [(0, .ref (b 0)), (1, .int (nI px)), (2, .int (nI py)), (3, .int (kOpt (vDe m px py d).1)), (4, .int (nI (vSmell m px py d))), (5, .int (nI d)), (6, .int (nI (vSmell m px py d)))]) hJ dX4_deed_69 (by decide) [1, 2, 3, 4, 0, 5, 6] rfl ?_
              refine n_iinc (b := 1) (lv1 := [(0, .ref (b 0)), (1, .int (nI px)), (2, .int (nI py)), (3, .int (kOpt (vDe m px py d).1)), (4, .int (nI (vSmell m px py d))), (5, .int (nI (d + 1))), (6, .int (nI (vSmell m px py d)))]) hJ dX4_deed_71 5 rfl (by decide) (by decide) [1, 2, 3, 4, 5, 0, 6] rfl ?_
              refine k_goto (tgt := 24) hJ dX4_deed_74 (by decide) ?_
              refine k_lv (lv1 := [(0, .ref (b 0)), (1, .int (nI px)), (2, .int (nI py)), (3, .int (kOpt (vDe m px py d).1)), (4, .int (nI (vSmell m px py d))), (5, .int (nI (d + 1)))]) hJ [0, 1, 2, 3, 4, 5] rfl ?_
              exfalso; omega
          · refine k_iload hJ dX4_deed_48 5 rfl ?_
            refine k_goto (tgt := 54) hJ dX4_deed_50 (by decide) ?_
            refine k_istore_n (lv1 := [(0, .ref (b 0)), (1, .int (nI px)), (2, .int (nI py)), (3, .int (nI d)), (4, .int (nI ((vDe m px py d).2))), (5, .int (nI d)), (6, .int (nI (vSmell m px py d)))]) hJ dX4_deed_54 (by decide) [1, 2, 3, 0, 4, 5, 6] rfl ?_
            refine k_iload hJ dX4_deed_55 6 rfl ?_
            refine k_iload hJ dX4_deed_57 4 rfl ?_
            refine n_icmp_le (tgt := 67) hJ dX4_deed_59 (by decide) (by omega) (by omega) (fun c59 => ?_) (fun c59 => ?_)
            · refine k_iload hJ dX4_deed_67 4 rfl ?_
              refine k_istore (lv1 := [(0, .ref (b 0)), (1, .int (nI px)), (2, .int (nI py)), (3, .int (nI d)), (4, .int (nI ((vDe m px py d).2))), (5, .int (nI d)), (6, .int (nI (vSmell m px py d)))]) hJ dX4_deed_69 (by decide) [1, 2, 3, 4, 0, 5, 6] rfl ?_
              refine n_iinc (b := 1) (lv1 := [(0, .ref (b 0)), (1, .int (nI px)), (2, .int (nI py)), (3, .int (nI d)), (4, .int (nI ((vDe m px py d).2))), (5, .int (nI (d + 1))), (6, .int (nI (vSmell m px py d)))]) hJ dX4_deed_71 5 rfl (by decide) (by decide) [1, 2, 3, 4, 5, 0, 6] rfl ?_
              refine k_goto (tgt := 24) hJ dX4_deed_74 (by decide) ?_
              refine k_lv (lv1 := [(0, .ref (b 0)), (1, .int (nI px)), (2, .int (nI py)), (3, .int (nI d)), (4, .int (nI ((vDe m px py d).2))), (5, .int (nI (d + 1)))]) hJ [0, 1, 2, 3, 4, 5] rfl ?_
              exfalso; omega
            · refine k_iload hJ dX4_deed_62 6 rfl ?_
              refine k_goto (tgt := 69) hJ dX4_deed_64 (by decide) ?_
              refine k_istore (lv1 := [(0, .ref (b 0)), (1, .int (nI px)), (2, .int (nI py)), (3, .int (nI d)), (4, .int (nI (vSmell m px py d))), (5, .int (nI d)), (6, .int (nI (vSmell m px py d)))]) hJ dX4_deed_69 (by decide) [1, 2, 3, 4, 0, 5, 6] rfl ?_
              refine n_iinc (b := 1) (lv1 := [(0, .ref (b 0)), (1, .int (nI px)), (2, .int (nI py)), (3, .int (nI d)), (4, .int (nI (vSmell m px py d))), (5, .int (nI (d + 1))), (6, .int (nI (vSmell m px py d)))]) hJ dX4_deed_71 5 rfl (by decide) (by decide) [1, 2, 3, 4, 5, 0, 6] rfl ?_
              refine k_goto (tgt := 24) hJ dX4_deed_74 (by decide) ?_
              refine k_lv (lv1 := [(0, .ref (b 0)), (1, .int (nI px)), (2, .int (nI py)), (3, .int (nI d)), (4, .int (nI (vSmell m px py d))), (5, .int (nI (d + 1)))]) hJ [0, 1, 2, 3, 4, 5] rfl ?_
              refine k_eql (lv1 := [(0, .ref (b 0)), (1, .int (nI px)), (2, .int (nI py)), (3, .int (kOpt (vDe m px py (d + 1)).1)), (4, .int (nI ((vDe m px py (d + 1)).2))), (5, .int (nI (d + 1)))]) (by rw [vDe_t (by omega)]; rfl) ?_
              exact ih (d + 1) (by omega) (by omega)
    exact L24 7 0 (by omega) (by omega)
  · refine k_aload_n hJ dX4_deed_9 0 rfl ?_
    refine k_ldc hJ dX4_deed_10 cw_X4_44 ?_
    refine k_eqs (st2 := [.int (kFi 0), .ref (b 0)]) (by rw [kFi_c0]) ?_
    refine c_VI (As := [.int (kFi 0)]) (st := []) hJ (ct_X4_finds l g b (mE kf fj mj tl fr to va iw) m th ai ct (fun i => nI ((if kf then k else jk) i)) ot tp sb sz nu mo 0 (by decide)) (Fr.all rfl) mv_X4_finds ml_X4_68 0 rfl rfl rfl (kRm_ok (by decide) (by decide)) rfl rfl (Nat.le_of_ble_eq_true rfl) dX4_deed_12 ?_
    have hsp : sp_deed (m, k, kf, tp, tl, sb, sz, nu, ct) x y = (kFi 0, (m, k, kf, tp, tl, sb, sz, nu, kTe ct 0)) := by simp [-Nat.add_zero, sp_deed, sp_tell, nI_l0, nI_l1, nI_l2, nI_l3, nI_l4, tN_l0, tN_l1, tN_l2, tN_l3, tN_l4, c6] <;> (repeat' (first | intro _ | refine ⟨?_, ?_⟩ | split)) <;> first | rfl | omega | (exfalso; omega)
    exact k_eqw (ws2 := modA g b (sp_deed (m, k, kf, tp, tl, sb, sz, nu, ct) x y).2 (fj, mj, fr, to, va, iw, jk, th, ai, ot, mo)) (by rw [hsp]; rfl) (hR _ _ _ (fj, mj, fr, to, va, iw, jk, th, ai, ot, mo) dX4_deed_15 (by rw [hsp]))
set_option maxHeartbeats 4000000 in
set_option maxRecDepth 100000 in
theorem mp_on (l : Launch) (g : KG) (b : Nat → Nat) (j : MJ) (s : KS) (hs : kOk s) (x : Int32) (y : Int32) (z : Int32) : CT l yX4_on cX4_on 4 (some .int) (rmK 5) g [.ref (b 0), .int x, .int y, .int z] (modA g b s j) (S := MJ) oI (fun r _ => r = (sp_on s x y z).1) (fun j => modA g b (sp_on s x y z).2 j) := by
  obtain ⟨m, k, kf, tp, tl, sb, sz, nu, ct⟩ := s
  obtain ⟨fj, mj, fr, to, va, iw, jk, th, ai, ot, mo⟩ := j
  obtain ⟨hm, hk, htl, htp, hsh⟩ := hs
  have h0 : m 0 ≤ 8 := hm.1
  have h1 : m 1 ≤ 9999 := hm.2.1
  have h2 : m 2 ≤ 4 := hm.2.2.1
  have h3 : m 3 ≤ 99 := hm.2.2.2.2.1
  have hB : 9999 < 2 ^ 30 := by decide
  refine k_bodyI (by decide) (Nat.le_of_ble_eq_true rfl) (fun _ _ _ => rfl) (fun J hJ hR => ?_)
  show J (modW g b (mE kf fj mj tl fr to va iw) m th ai ct (fun i => nI ((if kf then k else jk) i)) ot tp sb sz nu mo) [(0, .ref (b 0)), (1, .int x), (2, .int y), (3, .int z)] 0 []
  refine k_aload_n hJ dX4_on_0 0 rfl ?_
  refine k_iload_n hJ dX4_on_1 1 rfl ?_
  refine c_VI (As := [.int x]) (st := []) hJ (ct_X4_isPerson l g b (mE kf fj mj tl fr to va iw) m x (by omega)) (frS rfl) mv_X4_isPerson ml_X4_51 0 rfl rfl rfl (kRm_ok (by decide) (by decide)) rfl rfl (Nat.le_of_ble_eq_true rfl) dX4_on_2 ?_
  refine b_if_eq (tgt := 27) hJ dX4_on_5 (by decide) (fun c5 => ?_) (fun c5 => ?_)
  · refine k_aload_n hJ dX4_on_27 0 rfl ?_
    refine k_ldc hJ dX4_on_28 cw_X4_44 ?_
    refine k_eqs (st2 := [.int (kFi 0), .ref (b 0)]) (by rw [kFi_c0]) ?_
    refine c_VI (As := [.int (kFi 0)]) (st := []) hJ (ct_X4_finds l g b (mE kf fj mj tl fr to va iw) m th ai ct (fun i => nI ((if kf then k else jk) i)) ot tp sb sz nu mo 0 (by decide)) (Fr.all rfl) mv_X4_finds ml_X4_68 0 rfl rfl rfl (kRm_ok (by decide) (by decide)) rfl rfl (Nat.le_of_ble_eq_true rfl) dX4_on_30 ?_
    have hsp : sp_on (m, k, kf, tp, tl, sb, sz, nu, ct) x y z = (kFi 0, (m, k, kf, tp, tl, sb, sz, nu, kTe ct 0)) := by simp [-Nat.add_zero, sp_on, sp_tell, nI_l0, nI_l1, nI_l2, nI_l3, nI_l4, tN_l0, tN_l1, tN_l2, tN_l3, tN_l4, c5] <;> (repeat' (first | intro _ | refine ⟨?_, ?_⟩ | split)) <;> first | rfl | omega | (exfalso; omega)
    exact k_eqw (ws2 := modA g b (sp_on (m, k, kf, tp, tl, sb, sz, nu, ct) x y z).2 (fj, mj, fr, to, va, iw, jk, th, ai, ot, mo)) (by rw [hsp]; rfl) (hR _ _ _ (fj, mj, fr, to, va, iw, jk, th, ai, ot, mo) dX4_on_33 (by rw [hsp]))
  · obtain ⟨px, hpx, rfl⟩ := vIn_of (by omega) c5
    refine k_iload_n hJ dX4_on_8 2 rfl ?_
    refine c_SI (As := [.int y]) (st := []) hJ (ct_X4_isDeed l g y ) Fr.none ms_X4_isDeed ml_X4_96 (kRm_ok (by decide) (by decide)) rfl rfl (Nat.le_of_ble_eq_true rfl) dX4_on_9 ?_
    refine b_if_eq (tgt := 27) hJ dX4_on_12 (by decide) (fun c12 => ?_) (fun c12 => ?_)
    · refine k_aload_n hJ dX4_on_27 0 rfl ?_
      refine k_ldc hJ dX4_on_28 cw_X4_44 ?_
      refine k_eqs (st2 := [.int (kFi 0), .ref (b 0)]) (by rw [kFi_c0]) ?_
      refine c_VI (As := [.int (kFi 0)]) (st := []) hJ (ct_X4_finds l g b (mE kf fj mj tl fr to va iw) m th ai ct (fun i => nI ((if kf then k else jk) i)) ot tp sb sz nu mo 0 (by decide)) (Fr.all rfl) mv_X4_finds ml_X4_68 0 rfl rfl rfl (kRm_ok (by decide) (by decide)) rfl rfl (Nat.le_of_ble_eq_true rfl) dX4_on_30 ?_
      have hsp : sp_on (m, k, kf, tp, tl, sb, sz, nu, ct) (nI px) y z = (kFi 0, (m, k, kf, tp, tl, sb, sz, nu, kTe ct 0)) := by simp [-Nat.add_zero, sp_on, sp_tell, nI_l0, nI_l1, nI_l2, nI_l3, nI_l4, tN_l0, tN_l1, tN_l2, tN_l3, tN_l4, c5, c12, nI_clamp (show px < 2 ^ 31 by omega)] <;> (repeat' (first | intro _ | refine ⟨?_, ?_⟩ | split)) <;> first | rfl | omega | (exfalso; omega)
      exact k_eqw (ws2 := modA g b (sp_on (m, k, kf, tp, tl, sb, sz, nu, ct) (nI px) y z).2 (fj, mj, fr, to, va, iw, jk, th, ai, ot, mo)) (by rw [hsp]; rfl) (hR _ _ _ (fj, mj, fr, to, va, iw, jk, th, ai, ot, mo) dX4_on_33 (by rw [hsp]))
    · obtain ⟨py, hpy, rfl⟩ := vIn_of (by omega) c12
      refine k_iload_n hJ dX4_on_15 3 rfl ?_
      refine k_i2l hJ dX4_on_16 rfl ?_
      refine k_lconst (v := 0) hJ dX4_on_17 (by decide) ?_
      refine k_ldc2 hJ dX4_on_18 cw_X4_152 ?_
      refine c_SI (As := [.long z.toInt64, .long 0, .long 60]) (st := []) hJ (ct_X4_in l g z.toInt64 0 60) Fr.none ms_X4_in ml_X4_47 (kRm_ok (by decide) (by decide)) rfl rfl (Nat.le_of_ble_eq_true rfl) dX4_on_21 ?_
      refine k_eqs (st2 := [.int (kb (vIn z 61))]) (by rw [vInL_in (n := 61) (by decide) (by decide) (by decide)]) ?_
      refine b_if_ne (tgt := 34) hJ dX4_on_24 (by decide) (fun c24 => ?_) (fun c24 => ?_)
      · obtain ⟨pz, hpz, rfl⟩ := vIn_of (by omega) c24
        refine k_aload_n hJ dX4_on_34 0 rfl ?_
        refine c_VV (As := []) (st := []) hJ (ct_X4_laysAside l g b (mE kf fj mj tl fr to va iw) m th ai ct (fun i => nI ((if kf then k else jk) i)) ot tp sb sz nu mo) (Fr.all rfl) mv_X4_laysAside ml_X4_165 0 rfl rfl rfl (kRm_ok (by decide) (by decide)) rfl rfl (Nat.le_of_ble_eq_true rfl) dX4_on_35 ?_
        refine k_aload_n hJ dX4_on_38 0 rfl ?_
        refine k_iload_n hJ dX4_on_39 3 rfl ?_
        refine k_callV (As := [.int (nI pz)]) (st := []) hJ (ct_X4_goesOn l g b (mE kf fj mj tl fr to va iw) m th (fun i => nI (m i)) ct (fun i => nI ((if kf then k else jk) i)) ot tp sb sz nu mo pz (show 9999 + pz < 2 ^ 30 by omega) hm) (fun _ => Fr.all rfl) mv_X4_goesOn ml_X4_154 0 rfl rfl rfl (kRm_ok (by decide) (by decide)) rfl rfl (Nat.le_of_ble_eq_true rfl) dX4_on_40 (fun _ u _ => ?_)
        refine k_aload_n hJ dX4_on_43 0 rfl ?_
        refine k_aload_n hJ dX4_on_44 0 rfl ?_
        refine k_iload_n hJ dX4_on_45 1 rfl ?_
        refine k_iconst (v := nI 4) hJ dX4_on_46 (by decide) ?_
        refine k_iload_n hJ dX4_on_47 2 rfl ?_
        refine n_iadd hJ dX4_on_48 ?_
        refine c_VI (As := [.int (nI px), .int (nI (4 + py))]) (st := [.ref (b 0)]) hJ (ct_X4_its l g b (mE kf fj mj tl fr to va iw) (vIter vHour pz m) px (4 + py) (by omega) (by omega)) (frS rfl) mv_X4_its ml_X4_82 0 rfl rfl rfl (kRm_ok (by decide) (by decide)) rfl rfl (Nat.le_of_ble_eq_true rfl) dX4_on_49 ?_
        refine c_VI (As := [.int (nI ((vIter vHour pz m) (4 + 10 * px + (4 + py))))]) (st := []) hJ (ct_X4_takesBack l g b (mE kf fj mj tl fr to va iw) (vIter vHour pz m) u (fun i => nI (m i)) ct (fun i => nI ((if kf then k else jk) i)) ot tp sb sz nu mo m (nI ((vIter vHour pz m) (4 + 10 * px + (4 + py))))) (Fr.all rfl) mv_X4_takesBack ml_X4_168 0 rfl rfl rfl (kRm_ok (by decide) (by decide)) rfl rfl (Nat.le_of_ble_eq_true rfl) dX4_on_52 ?_
        have hsp : sp_on (m, k, kf, tp, tl, sb, sz, nu, ct) (nI px) (nI py) (nI pz) = (nI ((vIter vHour pz m) (4 + 10 * px + (4 + py))), (m, k, kf, tp, tl, sb, sz, nu, ct)) := by simp [-Nat.add_zero, sp_on, sp_tell, nI_l0, nI_l1, nI_l2, nI_l3, nI_l4, tN_l0, tN_l1, tN_l2, tN_l3, tN_l4, c5, c12, c24, nI_clamp (show px < 2 ^ 31 by omega), nI_clamp (show py < 2 ^ 31 by omega), nI_clamp (show pz < 2 ^ 31 by omega)] <;> (repeat' (first | intro _ | refine ⟨?_, ?_⟩ | split)) <;> first | rfl | omega | (exfalso; omega)
        exact k_eqw (ws2 := modA g b (sp_on (m, k, kf, tp, tl, sb, sz, nu, ct) (nI px) (nI py) (nI pz)).2 (fj, mj, fr, to, va, iw, jk, u, fun i => nI (m i), ot, mo)) (by rw [hsp]; rfl) (hR _ _ _ (fj, mj, fr, to, va, iw, jk, u, fun i => nI (m i), ot, mo) dX4_on_55 (by rw [hsp]))
      · refine k_aload_n hJ dX4_on_27 0 rfl ?_
        refine k_ldc hJ dX4_on_28 cw_X4_44 ?_
        refine k_eqs (st2 := [.int (kFi 0), .ref (b 0)]) (by rw [kFi_c0]) ?_
        refine c_VI (As := [.int (kFi 0)]) (st := []) hJ (ct_X4_finds l g b (mE kf fj mj tl fr to va iw) m th ai ct (fun i => nI ((if kf then k else jk) i)) ot tp sb sz nu mo 0 (by decide)) (Fr.all rfl) mv_X4_finds ml_X4_68 0 rfl rfl rfl (kRm_ok (by decide) (by decide)) rfl rfl (Nat.le_of_ble_eq_true rfl) dX4_on_30 ?_
        have hsp : sp_on (m, k, kf, tp, tl, sb, sz, nu, ct) (nI px) (nI py) z = (kFi 0, (m, k, kf, tp, tl, sb, sz, nu, kTe ct 0)) := by simp [-Nat.add_zero, sp_on, sp_tell, nI_l0, nI_l1, nI_l2, nI_l3, nI_l4, tN_l0, tN_l1, tN_l2, tN_l3, tN_l4, c5, c12, c24, nI_clamp (show px < 2 ^ 31 by omega), nI_clamp (show py < 2 ^ 31 by omega)] <;> (repeat' (first | intro _ | refine ⟨?_, ?_⟩ | split)) <;> first | rfl | omega | (exfalso; omega)
        exact k_eqw (ws2 := modA g b (sp_on (m, k, kf, tp, tl, sb, sz, nu, ct) (nI px) (nI py) z).2 (fj, mj, fr, to, va, iw, jk, th, ai, ot, mo)) (by rw [hsp]; rfl) (hR _ _ _ (fj, mj, fr, to, va, iw, jk, th, ai, ot, mo) dX4_on_33 (by rw [hsp]))
set_option maxHeartbeats 4000000 in
set_option maxRecDepth 100000 in
theorem mp_hours (l : Launch) (g : KG) (b : Nat → Nat) (j : MJ) (s : KS) (hs : kOk s) (x : Int32) : CT l yX4_hours cX4_hours 2 (some .int) (rmK 5) g [.ref (b 0), .int x] (modA g b s j) (S := MJ) oI (fun r _ => r = (sp_hours s x).1) (fun j => modA g b (sp_hours s x).2 j) := by
  obtain ⟨m, k, kf, tp, tl, sb, sz, nu, ct⟩ := s
  obtain ⟨fj, mj, fr, to, va, iw, jk, th, ai, ot, mo⟩ := j
  obtain ⟨hm, hk, htl, htp, hsh⟩ := hs
  have h0 : m 0 ≤ 8 := hm.1
  have h1 : m 1 ≤ 9999 := hm.2.1
  have h2 : m 2 ≤ 4 := hm.2.2.1
  have h3 : m 3 ≤ 99 := hm.2.2.2.2.1
  have hB : 9999 < 2 ^ 30 := by decide
  refine k_bodyI (by decide) (Nat.le_of_ble_eq_true rfl) (fun _ _ _ => rfl) (fun J hJ hR => ?_)
  show J (modW g b (mE kf fj mj tl fr to va iw) m th ai ct (fun i => nI ((if kf then k else jk) i)) ot tp sb sz nu mo) [(0, .ref (b 0)), (1, .int x)] 0 []
  refine k_iload_n hJ dX4_hours_0 1 rfl ?_
  refine k_i2l hJ dX4_hours_1 rfl ?_
  refine k_lconst (v := 1) hJ dX4_hours_2 (by decide) ?_
  refine k_ldc2 hJ dX4_hours_3 cw_X4_152 ?_
  refine c_SI (As := [.long x.toInt64, .long 1, .long 60]) (st := []) hJ (ct_X4_in l g x.toInt64 1 60) Fr.none ms_X4_in ml_X4_47 (kRm_ok (by decide) (by decide)) rfl rfl (Nat.le_of_ble_eq_true rfl) dX4_hours_6 ?_
  refine k_eqs (st2 := [.int (kb (vBt x 1 60))]) (by rw [show vInL x.toInt64 1 60 = vBt x 1 60 from vInL_bt x 1 60 1 60 rfl rfl]) ?_
  refine b_if_ne (tgt := 19) hJ dX4_hours_9 (by decide) (fun c9 => ?_) (fun c9 => ?_)
  · obtain ⟨px, hlx, hpx, rfl⟩ := vBt_of (by omega) (by first | omega | (have := Nat.pow_le_pow_right (show 0 < 2 by decide) h0; omega)) c9
    refine k_aload_n hJ dX4_hours_19 0 rfl ?_
    refine gf_X4_7 (v := .ref (b 1)) hJ 0 rfl rfl dX4_hours_20 ?_
    refine k_iconst (v := nI 1) hJ dX4_hours_23 (by decide) ?_
    refine k_iald hJ 1 rfl 1 (by omega) (by decide) rfl dX4_hours_24 ?_
    refine k_iload_n hJ dX4_hours_25 1 rfl ?_
    refine n_iadd hJ dX4_hours_26 ?_
    refine k_sipush (v := nI 9999) hJ dX4_hours_27 (by decide) ?_
    refine n_icmp_le (tgt := 40) hJ dX4_hours_30 (by decide) (by omega) (by omega) (fun c30 => ?_) (fun c30 => ?_)
    · refine k_aload_n hJ dX4_hours_40 0 rfl ?_
      refine k_iload_n hJ dX4_hours_41 1 rfl ?_
      refine k_callV (As := [.int (nI px)]) (st := []) hJ (ct_X4_goesOn l g b (mE kf fj mj tl fr to va iw) m th ai ct (fun i => nI ((if kf then k else jk) i)) ot tp sb sz nu mo px (show 9999 + px < 2 ^ 30 by omega) hm) (fun _ => Fr.all rfl) mv_X4_goesOn ml_X4_154 0 rfl rfl rfl (kRm_ok (by decide) (by decide)) rfl rfl (Nat.le_of_ble_eq_true rfl) dX4_hours_42 (fun _ u _ => ?_)
      refine k_aload_n hJ dX4_hours_45 0 rfl ?_
      refine c_VI (As := []) (st := []) hJ (ct_X4_scentsAll l g b (mE kf fj mj tl fr to va iw) (vIter vHour px m) (show 9999 + px < 2 ^ 30 by omega) (vOk_iter hm px)) (frS rfl) mv_X4_scentsAll ml_X4_158 0 rfl rfl rfl (kRm_ok (by decide) (by decide)) rfl rfl (Nat.le_of_ble_eq_true rfl) dX4_hours_46 ?_
      have hsp : sp_hours (m, k, kf, tp, tl, sb, sz, nu, ct) (nI px) = (nI (vScentsAll (vIter vHour px m)), (vIter vHour px m, k, kf, tp, tl, sb, sz, nu, ct)) := by simp [-Nat.add_zero, sp_hours, sp_tell, nI_l0, nI_l1, nI_l2, nI_l3, nI_l4, tN_l0, tN_l1, tN_l2, tN_l3, tN_l4, c9, nI_clamp (show px < 2 ^ 31 by omega)] <;> (repeat' (first | intro _ | refine ⟨?_, ?_⟩ | split)) <;> first | rfl | omega | (exfalso; omega)
      exact k_eqw (ws2 := modA g b (sp_hours (m, k, kf, tp, tl, sb, sz, nu, ct) (nI px)).2 (fj, mj, fr, to, va, iw, jk, u, ai, ot, mo)) (by rw [hsp]; rfl) (hR _ _ _ (fj, mj, fr, to, va, iw, jk, u, ai, ot, mo) dX4_hours_49 (by rw [hsp]))
    · refine k_aload_n hJ dX4_hours_33 0 rfl ?_
      refine k_ldc hJ dX4_hours_34 cw_X4_139 ?_
      refine k_eqs (st2 := [.int (kFi 4), .ref (b 0)]) (by rw [kFi_c4]) ?_
      refine c_VI (As := [.int (kFi 4)]) (st := []) hJ (ct_X4_finds l g b (mE kf fj mj tl fr to va iw) m th ai ct (fun i => nI ((if kf then k else jk) i)) ot tp sb sz nu mo 4 (by decide)) (Fr.all rfl) mv_X4_finds ml_X4_68 0 rfl rfl rfl (kRm_ok (by decide) (by decide)) rfl rfl (Nat.le_of_ble_eq_true rfl) dX4_hours_36 ?_
      have hsp : sp_hours (m, k, kf, tp, tl, sb, sz, nu, ct) (nI px) = (kFi 4, (m, k, kf, tp, tl, sb, sz, nu, kTe ct 4)) := by simp [-Nat.add_zero, sp_hours, sp_tell, nI_l0, nI_l1, nI_l2, nI_l3, nI_l4, tN_l0, tN_l1, tN_l2, tN_l3, tN_l4, c9, nI_clamp (show px < 2 ^ 31 by omega)] <;> (repeat' (first | intro _ | refine ⟨?_, ?_⟩ | split)) <;> first | rfl | omega | (exfalso; omega)
      exact k_eqw (ws2 := modA g b (sp_hours (m, k, kf, tp, tl, sb, sz, nu, ct) (nI px)).2 (fj, mj, fr, to, va, iw, jk, th, ai, ot, mo)) (by rw [hsp]; rfl) (hR _ _ _ (fj, mj, fr, to, va, iw, jk, th, ai, ot, mo) dX4_hours_39 (by rw [hsp]))
  · refine k_aload_n hJ dX4_hours_12 0 rfl ?_
    refine k_ldc hJ dX4_hours_13 cw_X4_44 ?_
    refine k_eqs (st2 := [.int (kFi 0), .ref (b 0)]) (by rw [kFi_c0]) ?_
    refine c_VI (As := [.int (kFi 0)]) (st := []) hJ (ct_X4_finds l g b (mE kf fj mj tl fr to va iw) m th ai ct (fun i => nI ((if kf then k else jk) i)) ot tp sb sz nu mo 0 (by decide)) (Fr.all rfl) mv_X4_finds ml_X4_68 0 rfl rfl rfl (kRm_ok (by decide) (by decide)) rfl rfl (Nat.le_of_ble_eq_true rfl) dX4_hours_15 ?_
    have hsp : sp_hours (m, k, kf, tp, tl, sb, sz, nu, ct) x = (kFi 0, (m, k, kf, tp, tl, sb, sz, nu, kTe ct 0)) := by simp [-Nat.add_zero, sp_hours, sp_tell, nI_l0, nI_l1, nI_l2, nI_l3, nI_l4, tN_l0, tN_l1, tN_l2, tN_l3, tN_l4, c9] <;> (repeat' (first | intro _ | refine ⟨?_, ?_⟩ | split)) <;> first | rfl | omega | (exfalso; omega)
    exact k_eqw (ws2 := modA g b (sp_hours (m, k, kf, tp, tl, sb, sz, nu, ct) x).2 (fj, mj, fr, to, va, iw, jk, th, ai, ot, mo)) (by rw [hsp]; rfl) (hR _ _ _ (fj, mj, fr, to, va, iw, jk, th, ai, ot, mo) dX4_hours_18 (by rw [hsp]))
set_option maxHeartbeats 4000000 in
set_option maxRecDepth 100000 in
theorem mp_convicts (l : Launch) (g : KG) (b : Nat → Nat) (j : MJ) (s : KS) (hs : kOk s) (x : Int32) (y : Int32) : CT l yX4_convicts cX4_convicts 3 (some .int) (rmK 6) g [.ref (b 0), .int x, .int y] (modA g b s j) (S := MJ) oI (fun r _ => r = (sp_convicts s x y).1) (fun j => modA g b (sp_convicts s x y).2 j) := by
  obtain ⟨m, k, kf, tp, tl, sb, sz, nu, ct⟩ := s
  obtain ⟨fj, mj, fr, to, va, iw, jk, th, ai, ot, mo⟩ := j
  obtain ⟨hm, hk, htl, htp, hsh⟩ := hs
  have h0 : m 0 ≤ 8 := hm.1
  have h1 : m 1 ≤ 9999 := hm.2.1
  have h2 : m 2 ≤ 4 := hm.2.2.1
  have h3 : m 3 ≤ 99 := hm.2.2.2.2.1
  have hB : 9999 < 2 ^ 30 := by decide
  refine k_bodyI (by decide) (Nat.le_of_ble_eq_true rfl) (fun _ _ _ => rfl) (fun J hJ hR => ?_)
  have hpw : 2 ^ m 0 ≤ 256 := Nat.pow_le_pow_right (by decide) h0
  have hp1 : 1 ≤ 2 ^ m 0 := Nat.one_le_two_pow
  show J (modW g b (mE kf fj mj tl fr to va iw) m th ai ct (fun i => nI ((if kf then k else jk) i)) ot tp sb sz nu mo) [(0, .ref (b 0)), (1, .int x), (2, .int y)] 0 []
  refine k_iload_n hJ dX4_convicts_0 1 rfl ?_
  refine k_i2l hJ dX4_convicts_1 rfl ?_
  refine k_lconst (v := 1) hJ dX4_convicts_2 (by decide) ?_
  refine k_iconst (v := nI 1) hJ dX4_convicts_3 (by decide) ?_
  refine k_aload_n hJ dX4_convicts_4 0 rfl ?_
  refine gf_X4_7 (v := .ref (b 1)) hJ 0 rfl rfl dX4_convicts_5 ?_
  refine k_iconst (v := nI 0) hJ dX4_convicts_8 (by decide) ?_
  refine k_iald hJ 1 rfl 0 (by omega) (by decide) rfl dX4_convicts_9 ?_
  refine n_ibit hJ dX4_convicts_10 (by omega) ?_
  refine k_iconst (v := nI 1) hJ dX4_convicts_11 (by decide) ?_
  refine n_isub hJ dX4_convicts_12 (by omega) ?_
  refine k_i2l hJ dX4_convicts_13 rfl ?_
  refine c_SI (As := [.long x.toInt64, .long 1, .long ((nI ((2 ^ (m 0)) - 1)).toInt64)]) (st := []) hJ (ct_X4_in l g x.toInt64 1 ((nI ((2 ^ (m 0)) - 1)).toInt64)) Fr.none ms_X4_in ml_X4_47 (kRm_ok (by decide) (by decide)) rfl rfl (Nat.le_of_ble_eq_true rfl) dX4_convicts_14 ?_
  refine k_eqs (st2 := [.int (kb (vBt x 1 ((2 ^ (m 0)) - 1)))]) (by rw [show vInL x.toInt64 1 ((nI ((2 ^ (m 0)) - 1)).toInt64) = vBt x 1 ((2 ^ (m 0)) - 1) from vInL_bt x 1 (nI ((2 ^ (m 0)) - 1)) 1 ((2 ^ (m 0)) - 1) rfl rfl]) ?_
  refine b_if_eq (tgt := 28) hJ dX4_convicts_17 (by decide) (fun c17 => ?_) (fun c17 => ?_)
  · refine k_aload_n hJ dX4_convicts_28 0 rfl ?_
    refine k_ldc hJ dX4_convicts_29 cw_X4_44 ?_
    refine k_eqs (st2 := [.int (kFi 0), .ref (b 0)]) (by rw [kFi_c0]) ?_
    refine c_VI (As := [.int (kFi 0)]) (st := []) hJ (ct_X4_finds l g b (mE kf fj mj tl fr to va iw) m th ai ct (fun i => nI ((if kf then k else jk) i)) ot tp sb sz nu mo 0 (by decide)) (Fr.all rfl) mv_X4_finds ml_X4_68 0 rfl rfl rfl (kRm_ok (by decide) (by decide)) rfl rfl (Nat.le_of_ble_eq_true rfl) dX4_convicts_31 ?_
    have hsp : sp_convicts (m, k, kf, tp, tl, sb, sz, nu, ct) x y = (kFi 0, (m, k, kf, tp, tl, sb, sz, nu, kTe ct 0)) := by simp [-Nat.add_zero, sp_convicts, sp_tell, nI_l0, nI_l1, nI_l2, nI_l3, nI_l4, tN_l0, tN_l1, tN_l2, tN_l3, tN_l4, c17] <;> (repeat' (first | intro _ | refine ⟨?_, ?_⟩ | split)) <;> first | rfl | omega | (exfalso; omega)
    exact k_eqw (ws2 := modA g b (sp_convicts (m, k, kf, tp, tl, sb, sz, nu, ct) x y).2 (fj, mj, fr, to, va, iw, jk, th, ai, ot, mo)) (by rw [hsp]; rfl) (hR _ _ _ (fj, mj, fr, to, va, iw, jk, th, ai, ot, mo) dX4_convicts_34 (by rw [hsp]))
  · obtain ⟨px, hlx, hpx, rfl⟩ := vBt_of (by omega) (by first | omega | (have := Nat.pow_le_pow_right (show 0 < 2 by decide) h0; omega)) c17
    refine k_aload_n hJ dX4_convicts_20 0 rfl ?_
    refine k_iload_n hJ dX4_convicts_21 2 rfl ?_
    refine c_VI (As := [.int y]) (st := []) hJ (ct_X4_isPerson l g b (mE kf fj mj tl fr to va iw) m y (by omega)) (frS rfl) mv_X4_isPerson ml_X4_51 0 rfl rfl rfl (kRm_ok (by decide) (by decide)) rfl rfl (Nat.le_of_ble_eq_true rfl) dX4_convicts_22 ?_
    refine b_if_ne (tgt := 35) hJ dX4_convicts_25 (by decide) (fun c25 => ?_) (fun c25 => ?_)
    · obtain ⟨py, hpy, rfl⟩ := vIn_of (by omega) c25
      refine k_iload_n hJ dX4_convicts_35 1 rfl ?_
      refine k_iload_n hJ dX4_convicts_36 2 rfl ?_
      refine k_ishr hJ dX4_convicts_37 ?_
      refine k_iconst (v := nI 1) hJ dX4_convicts_38 (by decide) ?_
      refine k_iand hJ dX4_convicts_39 ?_
      refine k_eqs (st2 := [.int (nI (px / 2 ^ py % 2))]) (by rw [bit_r py (by omega) px (by omega)]) ?_
      refine k_iconst (v := nI 1) hJ dX4_convicts_40 (by decide) ?_
      refine n_icmp_ne (tgt := 51) hJ dX4_convicts_41 (by decide) (by omega) (by omega) (fun c41 => ?_) (fun c41 => ?_)
      · refine k_iload_n hJ dX4_convicts_51 1 rfl ?_
        refine k_aload_n hJ dX4_convicts_52 0 rfl ?_
        refine k_iload_n hJ dX4_convicts_53 2 rfl ?_
        refine c_VI (As := [.int (nI py)]) (st := [.int (nI px)]) hJ (ct_X4_finders l g b (mE kf fj mj tl fr to va iw) m py hB hm (by omega)) (frS rfl) mv_X4_finders ml_X4_133 0 rfl rfl rfl (kRm_ok (by decide) (by decide)) rfl rfl (Nat.le_of_ble_eq_true rfl) dX4_convicts_54 ?_
        have hff : vFinders m py < 256 := vBits_le8 _ h0
        refine c_SI (As := [.int (nI px), .int (nI (vFinders m py))]) (st := []) hJ (ct_X4_isConvicted l g px (vFinders m py) (by omega) (by omega)) Fr.none ms_X4_isConvicted ml_X4_140 (kRm_ok (by decide) (by decide)) rfl rfl (Nat.le_of_ble_eq_true rfl) dX4_convicts_57 ?_
        refine b_if_eq (tgt := 67) hJ dX4_convicts_60 (by decide) (fun c60 => ?_) (fun c60 => ?_)
        · refine k_iconst (v := nI 0) hJ dX4_convicts_67 (by decide) ?_
          have hsp : sp_convicts (m, k, kf, tp, tl, sb, sz, nu, ct) (nI px) (nI py) = (nI 0, (m, k, kf, tp, tl, sb, sz, nu, ct)) := by simp [-Nat.add_zero, sp_convicts, sp_tell, nI_l0, nI_l1, nI_l2, nI_l3, nI_l4, tN_l0, tN_l1, tN_l2, tN_l3, tN_l4, c17, c25, c60, nI_clamp (show px < 2 ^ 31 by omega), nI_clamp (show py < 2 ^ 31 by omega)] <;> (repeat' (first | intro _ | refine ⟨?_, ?_⟩ | split)) <;> first | rfl | omega | (exfalso; omega)
          exact k_eqw (ws2 := modA g b (sp_convicts (m, k, kf, tp, tl, sb, sz, nu, ct) (nI px) (nI py)).2 (fj, mj, fr, to, va, iw, jk, th, ai, ot, mo)) (by rw [hsp]; rfl) (hR _ _ _ (fj, mj, fr, to, va, iw, jk, th, ai, ot, mo) dX4_convicts_68 (by rw [hsp]))
        · refine k_iconst (v := nI 1) hJ dX4_convicts_63 (by decide) ?_
          refine k_goto (tgt := 68) hJ dX4_convicts_64 (by decide) ?_
          have hsp : sp_convicts (m, k, kf, tp, tl, sb, sz, nu, ct) (nI px) (nI py) = (nI 1, (m, k, kf, tp, tl, sb, sz, nu, ct)) := by simp [-Nat.add_zero, sp_convicts, sp_tell, nI_l0, nI_l1, nI_l2, nI_l3, nI_l4, tN_l0, tN_l1, tN_l2, tN_l3, tN_l4, c17, c25, c60, nI_clamp (show px < 2 ^ 31 by omega), nI_clamp (show py < 2 ^ 31 by omega)] <;> (repeat' (first | intro _ | refine ⟨?_, ?_⟩ | split)) <;> first | rfl | omega | (exfalso; omega)
          exact k_eqw (ws2 := modA g b (sp_convicts (m, k, kf, tp, tl, sb, sz, nu, ct) (nI px) (nI py)).2 (fj, mj, fr, to, va, iw, jk, th, ai, ot, mo)) (by rw [hsp]; rfl) (hR _ _ _ (fj, mj, fr, to, va, iw, jk, th, ai, ot, mo) dX4_convicts_68 (by rw [hsp]))
      · refine k_aload_n hJ dX4_convicts_44 0 rfl ?_
        refine k_ldc hJ dX4_convicts_45 cw_X4_139 ?_
        refine k_eqs (st2 := [.int (kFi 4), .ref (b 0)]) (by rw [kFi_c4]) ?_
        refine c_VI (As := [.int (kFi 4)]) (st := []) hJ (ct_X4_finds l g b (mE kf fj mj tl fr to va iw) m th ai ct (fun i => nI ((if kf then k else jk) i)) ot tp sb sz nu mo 4 (by decide)) (Fr.all rfl) mv_X4_finds ml_X4_68 0 rfl rfl rfl (kRm_ok (by decide) (by decide)) rfl rfl (Nat.le_of_ble_eq_true rfl) dX4_convicts_47 ?_
        have hsp : sp_convicts (m, k, kf, tp, tl, sb, sz, nu, ct) (nI px) (nI py) = (kFi 4, (m, k, kf, tp, tl, sb, sz, nu, kTe ct 4)) := by simp [-Nat.add_zero, sp_convicts, sp_tell, nI_l0, nI_l1, nI_l2, nI_l3, nI_l4, tN_l0, tN_l1, tN_l2, tN_l3, tN_l4, c17, c25, nI_clamp (show px < 2 ^ 31 by omega), nI_clamp (show py < 2 ^ 31 by omega)] <;> (repeat' (first | intro _ | refine ⟨?_, ?_⟩ | split)) <;> first | rfl | omega | (exfalso; omega)
        exact k_eqw (ws2 := modA g b (sp_convicts (m, k, kf, tp, tl, sb, sz, nu, ct) (nI px) (nI py)).2 (fj, mj, fr, to, va, iw, jk, th, ai, ot, mo)) (by rw [hsp]; rfl) (hR _ _ _ (fj, mj, fr, to, va, iw, jk, th, ai, ot, mo) dX4_convicts_50 (by rw [hsp]))
    · refine k_aload_n hJ dX4_convicts_28 0 rfl ?_
      refine k_ldc hJ dX4_convicts_29 cw_X4_44 ?_
      refine k_eqs (st2 := [.int (kFi 0), .ref (b 0)]) (by rw [kFi_c0]) ?_
      refine c_VI (As := [.int (kFi 0)]) (st := []) hJ (ct_X4_finds l g b (mE kf fj mj tl fr to va iw) m th ai ct (fun i => nI ((if kf then k else jk) i)) ot tp sb sz nu mo 0 (by decide)) (Fr.all rfl) mv_X4_finds ml_X4_68 0 rfl rfl rfl (kRm_ok (by decide) (by decide)) rfl rfl (Nat.le_of_ble_eq_true rfl) dX4_convicts_31 ?_
      have hsp : sp_convicts (m, k, kf, tp, tl, sb, sz, nu, ct) (nI px) y = (kFi 0, (m, k, kf, tp, tl, sb, sz, nu, kTe ct 0)) := by simp [-Nat.add_zero, sp_convicts, sp_tell, nI_l0, nI_l1, nI_l2, nI_l3, nI_l4, tN_l0, tN_l1, tN_l2, tN_l3, tN_l4, c17, c25, nI_clamp (show px < 2 ^ 31 by omega)] <;> (repeat' (first | intro _ | refine ⟨?_, ?_⟩ | split)) <;> first | rfl | omega | (exfalso; omega)
      exact k_eqw (ws2 := modA g b (sp_convicts (m, k, kf, tp, tl, sb, sz, nu, ct) (nI px) y).2 (fj, mj, fr, to, va, iw, jk, th, ai, ot, mo)) (by rw [hsp]; rfl) (hR _ _ _ (fj, mj, fr, to, va, iw, jk, th, ai, ot, mo) dX4_convicts_34 (by rw [hsp]))
set_option maxHeartbeats 4000000 in
set_option maxRecDepth 100000 in
theorem mp_clean (l : Launch) (g : KG) (b : Nat → Nat) (j : MJ) (s : KS) (hs : kOk s) (x : Int32) : CT l yX4_clean cX4_clean 4 (some .int) (rmK 6) g [.ref (b 0), .int x] (modA g b s j) (S := MJ) oI (fun r _ => r = (sp_clean s x).1) (fun j => modA g b (sp_clean s x).2 j) := by
  obtain ⟨m, k, kf, tp, tl, sb, sz, nu, ct⟩ := s
  obtain ⟨fj, mj, fr, to, va, iw, jk, th, ai, ot, mo⟩ := j
  obtain ⟨hm, hk, htl, htp, hsh⟩ := hs
  have h0 : m 0 ≤ 8 := hm.1
  have h1 : m 1 ≤ 9999 := hm.2.1
  have h2 : m 2 ≤ 4 := hm.2.2.1
  have h3 : m 3 ≤ 99 := hm.2.2.2.2.1
  have hB : 9999 < 2 ^ 30 := by decide
  refine k_bodyI (by decide) (Nat.le_of_ble_eq_true rfl) (fun _ _ _ => rfl) (fun J hJ hR => ?_)
  show J (modW g b (mE kf fj mj tl fr to va iw) m th ai ct (fun i => nI ((if kf then k else jk) i)) ot tp sb sz nu mo) [(0, .ref (b 0)), (1, .int x)] 0 []
  refine k_aload_n hJ dX4_clean_0 0 rfl ?_
  refine k_iload_n hJ dX4_clean_1 1 rfl ?_
  refine c_VI (As := [.int x]) (st := []) hJ (ct_X4_isPerson l g b (mE kf fj mj tl fr to va iw) m x (by omega)) (frS rfl) mv_X4_isPerson ml_X4_51 0 rfl rfl rfl (kRm_ok (by decide) (by decide)) rfl rfl (Nat.le_of_ble_eq_true rfl) dX4_clean_2 ?_
  refine b_if_ne (tgt := 15) hJ dX4_clean_5 (by decide) (fun c5 => ?_) (fun c5 => ?_)
  · obtain ⟨px, hpx, rfl⟩ := vIn_of (by omega) c5
    refine k_aload_n hJ dX4_clean_15 0 rfl ?_
    refine c_VV (As := []) (st := []) hJ (ct_X4_laysAside l g b (mE kf fj mj tl fr to va iw) m th ai ct (fun i => nI ((if kf then k else jk) i)) ot tp sb sz nu mo) (Fr.all rfl) mv_X4_laysAside ml_X4_165 0 rfl rfl rfl (kRm_ok (by decide) (by decide)) rfl rfl (Nat.le_of_ble_eq_true rfl) dX4_clean_16 ?_
    refine k_iconst (v := nI 0) hJ dX4_clean_19 (by decide) ?_
    refine k_istore_n (lv1 := [(0, .ref (b 0)), (1, .int (nI px)), (2, .int (nI 0))]) hJ dX4_clean_20 (by decide) [1, 2, 0] rfl ?_
    have L21 : ∀ (fu : Nat) (n : Nat) (T : Nat → Int32), (n ≤ 61) → (62 ≤ n + fu) → (∀ i, i < n → (fun n => vFinders (vIter vHour n m) px == 0) i = false) → J (modW g b (mE kf fj mj tl fr to va iw) (vIter vHour n m) T (fun i => nI (m i)) ct (fun i => nI ((if kf then k else jk) i)) ot tp sb sz nu mo) [(0, .ref (b 0)), (1, .int (nI px)), (2, .int (nI n))] 21 [] := by
      intro fu
      induction fu with
      | zero => intro n T h61 hf hn; exfalso; omega
      | succ fu ih =>
        intro n T h61 hf hn
        refine k_iload_n hJ dX4_clean_21 2 rfl ?_
        refine k_bipush (v := nI 60) hJ dX4_clean_22 (by decide) ?_
        refine n_icmp_gt (tgt := 45) hJ dX4_clean_24 (by decide) (by omega) (by omega) (fun c24 => ?_) (fun c24 => ?_)
        · refine k_aload_n hJ dX4_clean_45 0 rfl ?_
          refine k_iload_n hJ dX4_clean_46 2 rfl ?_
          refine c_VI (As := [.int (nI n)]) (st := []) hJ (ct_X4_takesBack l g b (mE kf fj mj tl fr to va iw) (vIter vHour n m) T (fun i => nI (m i)) ct (fun i => nI ((if kf then k else jk) i)) ot tp sb sz nu mo m (nI n)) (Fr.all rfl) mv_X4_takesBack ml_X4_168 0 rfl rfl rfl (kRm_ok (by decide) (by decide)) rfl rfl (Nat.le_of_ble_eq_true rfl) dX4_clean_47 ?_
          refine k_istore_n (lv1 := [(0, .ref (b 0)), (1, .int (nI px)), (2, .int (nI n)), (3, .int (nI n))]) hJ dX4_clean_50 (by decide) [1, 2, 3, 0] rfl ?_
          refine k_iload_n hJ dX4_clean_51 3 rfl ?_
          refine k_bipush (v := nI 60) hJ dX4_clean_52 (by decide) ?_
          refine n_icmp_le (tgt := 66) hJ dX4_clean_54 (by decide) (by omega) (by omega) (fun c54 => ?_) (fun c54 => ?_)
          · refine k_iload_n hJ dX4_clean_66 3 rfl ?_
            exfalso; omega
          · refine k_aload_n hJ dX4_clean_57 0 rfl ?_
            refine k_ldc hJ dX4_clean_58 cw_X4_129 ?_
            refine k_eqs (st2 := [.int (kFi 3), .ref (b 0)]) (by rw [kFi_c3]) ?_
            refine c_VI (As := [.int (kFi 3)]) (st := []) hJ (ct_X4_finds l g b (mE kf fj mj tl fr to va iw) m T (fun i => nI (m i)) ct (fun i => nI ((if kf then k else jk) i)) ot tp sb sz nu mo 3 (by decide)) (Fr.all rfl) mv_X4_finds ml_X4_68 0 rfl rfl rfl (kRm_ok (by decide) (by decide)) rfl rfl (Nat.le_of_ble_eq_true rfl) dX4_clean_60 ?_
            refine k_goto (tgt := 67) hJ dX4_clean_63 (by decide) ?_
            have hF : vFst (fun n => vFinders (vIter vHour n m) px == 0) 61 = 61 := vFst_none (fun i hi => hn i (by omega))
            have hsp : sp_clean (m, k, kf, tp, tl, sb, sz, nu, ct) (nI px) = (kFi 3, (m, k, kf, tp, tl, sb, sz, nu, kTe ct 3)) := by simp only [sp_clean]; rw [if_pos c5, tN_nI (show px < 2 ^ 31 by omega), hF]; unfold sp_fst; rw [if_neg (by omega)]; rfl
            exact k_eqw (ws2 := modA g b (sp_clean (m, k, kf, tp, tl, sb, sz, nu, ct) (nI px)).2 (fj, mj, fr, to, va, iw, jk, T, fun i => nI (m i), ot, mo)) (by rw [hsp]; rfl) (hR _ _ _ (fj, mj, fr, to, va, iw, jk, T, fun i => nI (m i), ot, mo) dX4_clean_67 (by rw [hsp]))
        · refine k_aload_n hJ dX4_clean_27 0 rfl ?_
          refine k_iload_n hJ dX4_clean_28 1 rfl ?_
          refine c_VI (As := [.int (nI px)]) (st := []) hJ (ct_X4_finders l g b (mE kf fj mj tl fr to va iw) (vIter vHour n m) px (show 9999 + n < 2 ^ 30 by omega) (vOk_iter hm n) (by omega)) (frS rfl) mv_X4_finders ml_X4_133 0 rfl rfl rfl (kRm_ok (by decide) (by decide)) rfl rfl (Nat.le_of_ble_eq_true rfl) dX4_clean_29 ?_
          have hff : vFinders (vIter vHour n m) px < 256 := vBits_le8 _ (vOk_iter hm n).1
          refine n_if_eq (tgt := 45) hJ dX4_clean_32 (by decide) (by omega) (fun c32 => ?_) (fun c32 => ?_)
          · refine k_aload_n hJ dX4_clean_45 0 rfl ?_
            refine k_iload_n hJ dX4_clean_46 2 rfl ?_
            refine c_VI (As := [.int (nI n)]) (st := []) hJ (ct_X4_takesBack l g b (mE kf fj mj tl fr to va iw) (vIter vHour n m) T (fun i => nI (m i)) ct (fun i => nI ((if kf then k else jk) i)) ot tp sb sz nu mo m (nI n)) (Fr.all rfl) mv_X4_takesBack ml_X4_168 0 rfl rfl rfl (kRm_ok (by decide) (by decide)) rfl rfl (Nat.le_of_ble_eq_true rfl) dX4_clean_47 ?_
            refine k_istore_n (lv1 := [(0, .ref (b 0)), (1, .int (nI px)), (2, .int (nI n)), (3, .int (nI n))]) hJ dX4_clean_50 (by decide) [1, 2, 3, 0] rfl ?_
            refine k_iload_n hJ dX4_clean_51 3 rfl ?_
            refine k_bipush (v := nI 60) hJ dX4_clean_52 (by decide) ?_
            refine n_icmp_le (tgt := 66) hJ dX4_clean_54 (by decide) (by omega) (by omega) (fun c54 => ?_) (fun c54 => ?_)
            · refine k_iload_n hJ dX4_clean_66 3 rfl ?_
              have hF : vFst (fun n => vFinders (vIter vHour n m) px == 0) 61 = n := vFst_at hn (by show (vFinders (vIter vHour n m) px == 0) = true; rw [c32]; rfl) (by omega)
              have hsp : sp_clean (m, k, kf, tp, tl, sb, sz, nu, ct) (nI px) = (nI n, (m, k, kf, tp, tl, sb, sz, nu, ct)) := by simp only [sp_clean]; rw [if_pos c5, tN_nI (show px < 2 ^ 31 by omega), hF]; unfold sp_fst; rw [if_pos (by omega)]; rfl
              exact k_eqw (ws2 := modA g b (sp_clean (m, k, kf, tp, tl, sb, sz, nu, ct) (nI px)).2 (fj, mj, fr, to, va, iw, jk, T, fun i => nI (m i), ot, mo)) (by rw [hsp]; rfl) (hR _ _ _ (fj, mj, fr, to, va, iw, jk, T, fun i => nI (m i), ot, mo) dX4_clean_67 (by rw [hsp]))
            · refine k_aload_n hJ dX4_clean_57 0 rfl ?_
              refine k_ldc hJ dX4_clean_58 cw_X4_129 ?_
              refine k_eqs (st2 := [.int (kFi 3), .ref (b 0)]) (by rw [kFi_c3]) ?_
              refine c_VI (As := [.int (kFi 3)]) (st := []) hJ (ct_X4_finds l g b (mE kf fj mj tl fr to va iw) m T (fun i => nI (m i)) ct (fun i => nI ((if kf then k else jk) i)) ot tp sb sz nu mo 3 (by decide)) (Fr.all rfl) mv_X4_finds ml_X4_68 0 rfl rfl rfl (kRm_ok (by decide) (by decide)) rfl rfl (Nat.le_of_ble_eq_true rfl) dX4_clean_60 ?_
              refine k_goto (tgt := 67) hJ dX4_clean_63 (by decide) ?_
              exfalso; omega
          · refine k_aload_n hJ dX4_clean_35 0 rfl ?_
            refine k_callV (As := []) (st := []) hJ (ct_X4_hour l g b (mE kf fj mj tl fr to va iw) (vIter vHour n m) T (fun i => nI (m i)) ct (fun i => nI ((if kf then k else jk) i)) ot tp sb sz nu mo (show 9999 + n < 2 ^ 30 by omega) (vOk_iter hm n)) (fun _ => Fr.all rfl) mv_X4_hour ml_X4_149 0 rfl rfl rfl (kRm_ok (by decide) (by decide)) rfl rfl (Nat.le_of_ble_eq_true rfl) dX4_clean_36 (fun _ u _ => ?_)
            refine n_iinc (b := 1) (lv1 := [(0, .ref (b 0)), (1, .int (nI px)), (2, .int (nI (n + 1)))]) hJ dX4_clean_39 2 rfl (by decide) (by decide) [1, 2, 0] rfl ?_
            refine k_goto (tgt := 21) hJ dX4_clean_42 (by decide) ?_
            exact ih (n + 1) u (by omega) (by omega) (lt_s hn (beq_false_of_ne (by omega)))
    exact L21 62 0 th (by omega) (by omega) lt_0
  · refine k_aload_n hJ dX4_clean_8 0 rfl ?_
    refine k_ldc hJ dX4_clean_9 cw_X4_44 ?_
    refine k_eqs (st2 := [.int (kFi 0), .ref (b 0)]) (by rw [kFi_c0]) ?_
    refine c_VI (As := [.int (kFi 0)]) (st := []) hJ (ct_X4_finds l g b (mE kf fj mj tl fr to va iw) m th ai ct (fun i => nI ((if kf then k else jk) i)) ot tp sb sz nu mo 0 (by decide)) (Fr.all rfl) mv_X4_finds ml_X4_68 0 rfl rfl rfl (kRm_ok (by decide) (by decide)) rfl rfl (Nat.le_of_ble_eq_true rfl) dX4_clean_11 ?_
    have hsp : sp_clean (m, k, kf, tp, tl, sb, sz, nu, ct) x = (kFi 0, (m, k, kf, tp, tl, sb, sz, nu, kTe ct 0)) := by simp [-Nat.add_zero, sp_clean, sp_tell, nI_l0, nI_l1, nI_l2, nI_l3, nI_l4, tN_l0, tN_l1, tN_l2, tN_l3, tN_l4, c5] <;> (repeat' (first | intro _ | refine ⟨?_, ?_⟩ | split)) <;> first | rfl | omega | (exfalso; omega)
    exact k_eqw (ws2 := modA g b (sp_clean (m, k, kf, tp, tl, sb, sz, nu, ct) x).2 (fj, mj, fr, to, va, iw, jk, th, ai, ot, mo)) (by rw [hsp]; rfl) (hR _ _ _ (fj, mj, fr, to, va, iw, jk, th, ai, ot, mo) dX4_clean_14 (by rw [hsp]))
set_option maxHeartbeats 4000000 in
set_option maxRecDepth 100000 in
theorem mp_due (l : Launch) (g : KG) (b : Nat → Nat) (j : MJ) (s : KS) (hs : kOk s) (x : Int32) : CT l yX4_due cX4_due 4 (some .int) (rmK 6) g [.ref (b 0), .int x] (modA g b s j) (S := MJ) oI (fun r _ => r = (sp_due s x).1) (fun j => modA g b (sp_due s x).2 j) := by
  obtain ⟨m, k, kf, tp, tl, sb, sz, nu, ct⟩ := s
  obtain ⟨fj, mj, fr, to, va, iw, jk, th, ai, ot, mo⟩ := j
  obtain ⟨hm, hk, htl, htp, hsh⟩ := hs
  have h0 : m 0 ≤ 8 := hm.1
  have h1 : m 1 ≤ 9999 := hm.2.1
  have h2 : m 2 ≤ 4 := hm.2.2.1
  have h3 : m 3 ≤ 99 := hm.2.2.2.2.1
  have hB : 9999 < 2 ^ 30 := by decide
  refine k_bodyI (by decide) (Nat.le_of_ble_eq_true rfl) (fun _ _ _ => rfl) (fun J hJ hR => ?_)
  show J (modW g b (mE kf fj mj tl fr to va iw) m th ai ct (fun i => nI ((if kf then k else jk) i)) ot tp sb sz nu mo) [(0, .ref (b 0)), (1, .int x)] 0 []
  refine k_aload_n hJ dX4_due_0 0 rfl ?_
  refine k_iload_n hJ dX4_due_1 1 rfl ?_
  refine c_VI (As := [.int x]) (st := []) hJ (ct_X4_isPerson l g b (mE kf fj mj tl fr to va iw) m x (by omega)) (frS rfl) mv_X4_isPerson ml_X4_51 0 rfl rfl rfl (kRm_ok (by decide) (by decide)) rfl rfl (Nat.le_of_ble_eq_true rfl) dX4_due_2 ?_
  refine b_if_ne (tgt := 15) hJ dX4_due_5 (by decide) (fun c5 => ?_) (fun c5 => ?_)
  · obtain ⟨px, hpx, rfl⟩ := vIn_of (by omega) c5
    refine k_aload_n hJ dX4_due_15 0 rfl ?_
    refine gf_X4_7 (v := .ref (b 1)) hJ 0 rfl rfl dX4_due_16 ?_
    refine k_iconst (v := nI 3) hJ dX4_due_19 (by decide) ?_
    refine k_iald hJ 1 rfl 3 (by omega) (by decide) rfl dX4_due_20 ?_
    refine k_istore_n (lv1 := [(0, .ref (b 0)), (1, .int (nI px)), (2, .int (nI (m 3)))]) hJ dX4_due_21 (by decide) [1, 2, 0] rfl ?_
    refine k_iconst (v := nI 1) hJ dX4_due_22 (by decide) ?_
    refine k_istore_n (lv1 := [(0, .ref (b 0)), (1, .int (nI px)), (2, .int (nI (m 3))), (3, .int (nI 1))]) hJ dX4_due_23 (by decide) [1, 2, 3, 0] rfl ?_
    refine k_aload_n hJ dX4_due_24 0 rfl ?_
    refine gf_X4_7 (v := .ref (b 1)) hJ 0 rfl rfl dX4_due_25 ?_
    refine k_iconst (v := nI 3) hJ dX4_due_28 (by decide) ?_
    refine k_iconst (v := nI 1) hJ dX4_due_29 (by decide) ?_
    refine k_iast (ws2 := modW g b (mE kf fj mj tl fr to va iw) (vUp m 3 1) th ai ct (fun i => nI ((if kf then k else jk) i)) ot tp sb sz nu mo) hJ 1 rfl 3 (by omega) (by decide) (mw_s (v := 1)) dX4_due_30 ?_
    have L31 : ∀ (fu : Nat) (v : Nat), (1 ≤ v) → (v ≤ 100) → (101 ≤ v + fu) → (∀ i, i < v - 1 → (fun d => vFinders (vUp m 3 (d + 1)) px == 0) i = false) → J (modW g b (mE kf fj mj tl fr to va iw) (vUp m 3 v) th ai ct (fun i => nI ((if kf then k else jk) i)) ot tp sb sz nu mo) [(0, .ref (b 0)), (1, .int (nI px)), (2, .int (nI (m 3))), (3, .int (nI v))] 31 [] := by
      intro fu
      induction fu with
      | zero => intro v hv1 hv2 hf hn; exfalso; omega
      | succ fu ih =>
        intro v hv1 hv2 hf hn
        refine k_iload_n hJ dX4_due_31 3 rfl ?_
        refine k_bipush (v := nI 99) hJ dX4_due_32 (by decide) ?_
        refine n_icmp_gt (tgt := 58) hJ dX4_due_34 (by decide) (by omega) (by omega) (fun c34 => ?_) (fun c34 => ?_)
        · refine k_aload_n hJ dX4_due_58 0 rfl ?_
          refine gf_X4_7 (v := .ref (b 1)) hJ 0 rfl rfl dX4_due_59 ?_
          refine k_iconst (v := nI 3) hJ dX4_due_62 (by decide) ?_
          refine k_iload_n hJ dX4_due_63 2 rfl ?_
          refine k_iast (ws2 := modW g b (mE kf fj mj tl fr to va iw) (vUp (vUp m 3 v) 3 (m 3)) th ai ct (fun i => nI ((if kf then k else jk) i)) ot tp sb sz nu mo) hJ 1 rfl 3 (by omega) (by decide) (mw_s (v := (m 3))) dX4_due_64 ?_
          refine k_iload_n hJ dX4_due_65 3 rfl ?_
          refine k_bipush (v := nI 99) hJ dX4_due_66 (by decide) ?_
          refine n_icmp_le (tgt := 80) hJ dX4_due_68 (by decide) (by omega) (by omega) (fun c68 => ?_) (fun c68 => ?_)
          · refine k_iload_n hJ dX4_due_80 3 rfl ?_
            exfalso; omega
          · refine k_aload_n hJ dX4_due_71 0 rfl ?_
            refine k_ldc hJ dX4_due_72 cw_X4_129 ?_
            refine k_eqs (st2 := [.int (kFi 3), .ref (b 0)]) (by rw [kFi_c3]) ?_
            refine c_VI (As := [.int (kFi 3)]) (st := []) hJ (ct_X4_finds l g b (mE kf fj mj tl fr to va iw) (vUp (vUp m 3 v) 3 (m 3)) th ai ct (fun i => nI ((if kf then k else jk) i)) ot tp sb sz nu mo 3 (by decide)) (Fr.all rfl) mv_X4_finds ml_X4_68 0 rfl rfl rfl (kRm_ok (by decide) (by decide)) rfl rfl (Nat.le_of_ble_eq_true rfl) dX4_due_74 ?_
            refine k_goto (tgt := 81) hJ dX4_due_77 (by decide) ?_
            have hF : vFst (fun d => vFinders (vUp m 3 (d + 1)) px == 0) 99 = 99 := vFst_none (fun i hi => hn i (by omega))
            refine k_eqw (ws2 := modW g b (mE kf fj mj tl fr to va iw) m th ai (kTe ct 3) (fun i => nI ((if kf then k else jk) i)) ot tp sb sz nu mo) (by rw [vUp_up, vUp_id]) ?_
            have hsp : sp_due (m, k, kf, tp, tl, sb, sz, nu, ct) (nI px) = (kFi 3, (m, k, kf, tp, tl, sb, sz, nu, kTe ct 3)) := by simp only [sp_due]; rw [if_pos c5, tN_nI (show px < 2 ^ 31 by omega), hF]; unfold sp_fst; rw [if_neg (by omega)]; rfl
            exact k_eqw (ws2 := modA g b (sp_due (m, k, kf, tp, tl, sb, sz, nu, ct) (nI px)).2 (fj, mj, fr, to, va, iw, jk, th, ai, ot, mo)) (by rw [hsp]; rfl) (hR _ _ _ (fj, mj, fr, to, va, iw, jk, th, ai, ot, mo) dX4_due_81 (by rw [hsp]))
        · refine k_aload_n hJ dX4_due_37 0 rfl ?_
          refine k_iload_n hJ dX4_due_38 1 rfl ?_
          have hk1 := vOk_due hm hv1 (show v ≤ 99 by omega)
          refine c_VI (As := [.int (nI px)]) (st := []) hJ (ct_X4_finders l g b (mE kf fj mj tl fr to va iw) (vUp m 3 v) px hB hk1 (by omega)) (frS rfl) mv_X4_finders ml_X4_133 0 rfl rfl rfl (kRm_ok (by decide) (by decide)) rfl rfl (Nat.le_of_ble_eq_true rfl) dX4_due_39 ?_
          have hff : vFinders (vUp m 3 v) px < 256 := vBits_le8 _ hk1.1
          refine n_if_eq (tgt := 58) hJ dX4_due_42 (by decide) (by omega) (fun c42 => ?_) (fun c42 => ?_)
          · refine k_aload_n hJ dX4_due_58 0 rfl ?_
            refine gf_X4_7 (v := .ref (b 1)) hJ 0 rfl rfl dX4_due_59 ?_
            refine k_iconst (v := nI 3) hJ dX4_due_62 (by decide) ?_
            refine k_iload_n hJ dX4_due_63 2 rfl ?_
            refine k_iast (ws2 := modW g b (mE kf fj mj tl fr to va iw) (vUp (vUp m 3 v) 3 (m 3)) th ai ct (fun i => nI ((if kf then k else jk) i)) ot tp sb sz nu mo) hJ 1 rfl 3 (by omega) (by decide) (mw_s (v := (m 3))) dX4_due_64 ?_
            refine k_iload_n hJ dX4_due_65 3 rfl ?_
            refine k_bipush (v := nI 99) hJ dX4_due_66 (by decide) ?_
            refine n_icmp_le (tgt := 80) hJ dX4_due_68 (by decide) (by omega) (by omega) (fun c68 => ?_) (fun c68 => ?_)
            · refine k_iload_n hJ dX4_due_80 3 rfl ?_
              have hF : vFst (fun d => vFinders (vUp m 3 (d + 1)) px == 0) 99 = v - 1 := vFst_at (fun j hj => hn j (by omega)) (by show (vFinders (vUp m 3 (v - 1 + 1)) px == 0) = true; rw [show v - 1 + 1 = v by omega, c42]; rfl) (by omega)
              refine k_eqw (ws2 := modW g b (mE kf fj mj tl fr to va iw) m th ai ct (fun i => nI ((if kf then k else jk) i)) ot tp sb sz nu mo) (by rw [vUp_up, vUp_id]) ?_
              have hsp : sp_due (m, k, kf, tp, tl, sb, sz, nu, ct) (nI px) = (nI v, (m, k, kf, tp, tl, sb, sz, nu, ct)) := by simp only [sp_due]; rw [if_pos c5, tN_nI (show px < 2 ^ 31 by omega), hF]; unfold sp_fst; rw [if_pos (by omega), show v - 1 + 1 = v by omega]
              exact k_eqw (ws2 := modA g b (sp_due (m, k, kf, tp, tl, sb, sz, nu, ct) (nI px)).2 (fj, mj, fr, to, va, iw, jk, th, ai, ot, mo)) (by rw [hsp]; rfl) (hR _ _ _ (fj, mj, fr, to, va, iw, jk, th, ai, ot, mo) dX4_due_81 (by rw [hsp]))
            · refine k_aload_n hJ dX4_due_71 0 rfl ?_
              refine k_ldc hJ dX4_due_72 cw_X4_129 ?_
              refine k_eqs (st2 := [.int (kFi 3), .ref (b 0)]) (by rw [kFi_c3]) ?_
              refine c_VI (As := [.int (kFi 3)]) (st := []) hJ (ct_X4_finds l g b (mE kf fj mj tl fr to va iw) (vUp (vUp m 3 v) 3 (m 3)) th ai ct (fun i => nI ((if kf then k else jk) i)) ot tp sb sz nu mo 3 (by decide)) (Fr.all rfl) mv_X4_finds ml_X4_68 0 rfl rfl rfl (kRm_ok (by decide) (by decide)) rfl rfl (Nat.le_of_ble_eq_true rfl) dX4_due_74 ?_
              refine k_goto (tgt := 81) hJ dX4_due_77 (by decide) ?_
              exfalso; omega
          · refine n_iinc (b := 1) (lv1 := [(0, .ref (b 0)), (1, .int (nI px)), (2, .int (nI (m 3))), (3, .int (nI (v + 1)))]) hJ dX4_due_45 3 rfl (by decide) (by decide) [1, 2, 3, 0] rfl ?_
            refine k_aload_n hJ dX4_due_48 0 rfl ?_
            refine gf_X4_7 (v := .ref (b 1)) hJ 0 rfl rfl dX4_due_49 ?_
            refine k_iconst (v := nI 3) hJ dX4_due_52 (by decide) ?_
            refine k_iload_n hJ dX4_due_53 3 rfl ?_
            refine k_iast (ws2 := modW g b (mE kf fj mj tl fr to va iw) (vUp (vUp m 3 v) 3 (v + 1)) th ai ct (fun i => nI ((if kf then k else jk) i)) ot tp sb sz nu mo) hJ 1 rfl 3 (by omega) (by decide) (mw_s (v := (v + 1))) dX4_due_54 ?_
            refine k_goto (tgt := 31) hJ dX4_due_55 (by decide) ?_
            refine k_eqw (ws2 := modW g b (mE kf fj mj tl fr to va iw) (vUp m 3 (v + 1)) th ai ct (fun i => nI ((if kf then k else jk) i)) ot tp sb sz nu mo) (by rw [vUp_up]) ?_
            exact ih (v + 1) (by omega) (by omega) (by omega) (fun i hi => by rcases Nat.lt_or_ge i (v - 1) with g | g; exact hn i (by omega); rw [show i = v - 1 by omega]; show (vFinders (vUp m 3 (v - 1 + 1)) px == 0) = false; rw [show v - 1 + 1 = v by omega]; exact beq_false_of_ne (by omega))
    exact L31 100 1 (by omega) (by omega) (by omega) (fun i hi => absurd hi (by omega))
  · refine k_aload_n hJ dX4_due_8 0 rfl ?_
    refine k_ldc hJ dX4_due_9 cw_X4_44 ?_
    refine k_eqs (st2 := [.int (kFi 0), .ref (b 0)]) (by rw [kFi_c0]) ?_
    refine c_VI (As := [.int (kFi 0)]) (st := []) hJ (ct_X4_finds l g b (mE kf fj mj tl fr to va iw) m th ai ct (fun i => nI ((if kf then k else jk) i)) ot tp sb sz nu mo 0 (by decide)) (Fr.all rfl) mv_X4_finds ml_X4_68 0 rfl rfl rfl (kRm_ok (by decide) (by decide)) rfl rfl (Nat.le_of_ble_eq_true rfl) dX4_due_11 ?_
    have hsp : sp_due (m, k, kf, tp, tl, sb, sz, nu, ct) x = (kFi 0, (m, k, kf, tp, tl, sb, sz, nu, kTe ct 0)) := by simp [-Nat.add_zero, sp_due, sp_tell, nI_l0, nI_l1, nI_l2, nI_l3, nI_l4, tN_l0, tN_l1, tN_l2, tN_l3, tN_l4, c5] <;> (repeat' (first | intro _ | refine ⟨?_, ?_⟩ | split)) <;> first | rfl | omega | (exfalso; omega)
    exact k_eqw (ws2 := modA g b (sp_due (m, k, kf, tp, tl, sb, sz, nu, ct) x).2 (fj, mj, fr, to, va, iw, jk, th, ai, ot, mo)) (by rw [hsp]; rfl) (hR _ _ _ (fj, mj, fr, to, va, iw, jk, th, ai, ot, mo) dX4_due_14 (by rw [hsp]))
