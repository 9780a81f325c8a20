theorem kP_arrL {D : va_G} {cl : List vw_C} {ws : va_W} {H : Heap} {q a n : Nat} {c : ClassId} {f f2 : Nat → Int64} (he : ws[q]? = some (a, .inl (c, n, .inr (.inl f)))) (hf : ∀ i, i < n → f2 i = f i) (hP : va_P D cl ws H) : va_P D cl (ws.set q (a, .inl (c, n, .inr (.inl f2)))) H := by
  have hl := (List.getElem?_eq_some_iff.mp he).1
  intro k x hk
  by_cases e : k = q
  · subst e
    rw [List.getElem?_set_self hl] at hk
    cases hk
    have h0 := hP k _ he
    show H[a]? = some (vp_cell c (n, .inr (.inl f2)))
    rw [show vp_cell c (n, .inr (.inl f2)) = vp_cell c (n, .inr (.inl f)) from by
      show arrV c n (fun j => .long (f2 j)) = arrV c n (fun j => .long (f j))
      unfold arrV
      congr 1
      apply Array.ext
      · simp
      · intro i h1 h2
        simp only [Array.getElem_ofFn]
        rw [hf i (by simpa using h1)]]
    exact h0
  · rw [List.getElem?_set_ne (Ne.symm e)] at hk
    exact hP k x hk
def vN (nu : Nat → Nat → Int64) (s i : Nat) (v : Int64) : Nat → Nat → Int64 := fun a c => if a = s ∧ c = i then v else nu a c
section MN
variable {g : KG} {b : Nat → Nat} {e : Nat → Int32} {m m2 : Nat → Nat} {th ai ct ks ot : Nat → Int32} {tp sb sz : Nat → Nat} {nu nu2 : Nat → Nat → Int64} {mo : Nat → Int64} {D : va_G} {cl : List vw_C} {H : Heap}
theorem mw_nu {j s i : Nat} {v : Int64} (hj : j = 40 * s + i) (hi : i < 40) : (modW g b e m th ai ct ks ot tp sb sz nu mo).set 10 (b 10, .inl (kL g, 160, .inr (.inl (vp_updL (fun i => nu (i / 40) (i % 40)) j v)))) = modW g b e m th ai ct ks ot tp sb sz (vN nu s i v) mo := by
  have h : vp_updL (fun i => nu (i / 40) (i % 40)) j v = fun q => vN nu s i v (q / 40) (q % 40) := by
    funext q
    unfold vN
    by_cases c : q = j
    · rw [c, pk_uLs, if_pos (by omega)]
    · rw [pk_uLn c, if_neg (by omega)]
  rw [h]
  rfl
theorem mw_nuc (h : ∀ s i, s < 4 → i < 40 → nu2 s i = nu s i) (hP : va_P D cl (modW g b e m th ai ct ks ot tp sb sz nu mo) H) : va_P D cl (modW g b e m th ai ct ks ot tp sb sz nu2 mo) H := kP_arrL (q := 10) rfl (fun j hj => h (j / 40) (j % 40) (by omega) (by omega)) hP
end MN
theorem vRun_nI {p q z : Nat} (hp : p < 2 ^ 31) (hq : q < 2 ^ 31) (hz : z ≤ 40) : vRun (nI p) (nI q) z = decide (p + q ≤ z) := by
  unfold vRun vIn
  rw [if_neg (nI_pos hp), if_neg (nI_pos hq), tN_nI hp]
  by_cases h : z + 1 ≤ p
  · rw [if_pos (nI_le h hp), decide_eq_false (by omega)]
    rfl
  · rw [if_neg (nI_ge (by omega) (by omega))]
    by_cases h2 : z + 1 - p ≤ q
    · rw [if_pos (nI_le h2 hq), decide_eq_false (by omega)]
      rfl
    · rw [if_neg (nI_ge (by omega) (by omega)), decide_eq_true (by omega)]
      rfl
theorem vRun_s {s n : Int32} {z : Nat} (h : s < 0) : vRun s n z = false := by unfold vRun vIn; rw [if_pos h]; rfl
theorem vRun_n {s n : Int32} {z : Nat} (h : n < 0) : vRun s n z = false := by
  have e : vIn n (z + 1 - tN s) = false := by unfold vIn; rw [if_pos h]
  unfold vRun
  rw [e, Bool.and_false]
theorem nI_dif {z p q : Nat} (hz : z ≤ 40) (hp : p < 2 ^ 31) (hq : q < 2 ^ 31) : (nI z - nI p < nI q ↔ z < p + q) ∧ (nI q ≤ nI z - nI p ↔ p + q ≤ z) := by
  have e : (nI z - nI p).toInt = (z : Int) - p := by
    rw [Int32.toInt_sub, nI_toInt (by omega), nI_toInt hp]
    exact Int.bmod_eq_of_le (by omega) (by omega)
  rw [Int32.lt_iff_toInt_lt, Int32.le_iff_toInt_le, e, nI_toInt hq]
  constructor <;> omega
theorem and255 (a : Int32) : a &&& nI 255 = nI (tN (a &&& 255)) ∧ tN (a &&& 255) < 256 := by
  obtain ⟨j, hj, e⟩ := pk_andE a (m := 255) 8 (by decide)
  have e2 : a &&& nI 255 = a &&& 255 := rfl
  rw [e2, e, tN_nI (by omega)]
  exact ⟨rfl, by omega⟩
theorem vInL_m1 (x : Int32) : vInL x.toInt64 (-1) 6 = (decide (x = -1) || vIn x 7) := by
  have e1 : (-1 : Int64) = (-1 : Int32).toInt64 := by decide
  have e2 : (6 : Int64) = (nI 6).toInt64 := by decide
  unfold vInL vIn
  rw [e1, e2]
  simp only [w_lt]
  by_cases h : x < 0
  · rw [if_pos h]
    by_cases h2 : x < -1
    · rw [if_pos h2, decide_eq_false (by intro q; rw [q] at h2; exact absurd h2 (by decide))]; rfl
    · have e : x = -1 := by
        rw [Int32.lt_iff_toInt_lt] at h h2
        apply Int32.toInt_inj.mp
        have a : (0 : Int32).toInt = 0 := rfl
        have b : (-1 : Int32).toInt = -1 := rfl
        rw [a] at h
        rw [b] at h2 ⊢
        omega
      rw [if_neg h2, e]
      decide
  · rw [if_neg h, decide_eq_false (by intro q; rw [q] at h; exact absurd (by decide) h), Bool.false_or]
    obtain ⟨j, hj, rfl⟩ := nI_of h
    rw [if_neg (show ¬ nI j < -1 from fun q => h (Int32.lt_trans q (by decide)))]
    by_cases h2 : 7 ≤ j
    · rw [if_pos (nI_lt (by omega) hj), if_pos (nI_le h2 hj)]
    · rw [if_neg (nI_nlt (by omega) (by omega)), if_neg (nI_ge (by omega) (by decide))]
set_option maxHeartbeats 4000000 in
set_option maxRecDepth 100000 in
theorem ct_X4_isOne (l : Launch) (g : KG) (x : Int32)  : CI l yX4_isOne cX4_isOne 1 (some .boolean) (rmK 1) g [.int x] ([]) (kb (vIn x 4)) ([]) := by
  refine k_bodyI (by decide) (Nat.le_of_ble_eq_true rfl) (fun _ _ h => by rw [h]; exact kb_nar _) (fun J hJ hR => ?_)
  show J ([]) [(0, .int x)] 0 []
  refine k_iload_n hJ dX4_isOne_0 0 rfl ?_
  refine k_i2l hJ dX4_isOne_1 rfl ?_
  refine k_lconst (v := 0) hJ dX4_isOne_2 (by decide) ?_
  refine k_ldc2 hJ dX4_isOne_3 cw_X4_280 ?_
  refine c_SI (As := [.long x.toInt64, .long 0, .long 3]) (st := []) hJ (ct_X4_in l g x.toInt64 0 3 ) Fr.none ms_X4_in ml_X4_47 (kRm_ok (by decide) (by decide)) rfl rfl (Nat.le_of_ble_eq_true rfl) dX4_isOne_6 ?_
  exact hR _ _ _ () dX4_isOne_9 (by rw [vInL_in (n := 4) (by decide) (by decide) (by decide)])
set_option maxHeartbeats 4000000 in
set_option maxRecDepth 100000 in
theorem ct_X4_narrowed (l : Launch) (g : KG) (c : Nat) (v : Int64)  (hc : c < 2 ^ 31) : CL l yX4_narrowed cX4_narrowed 3 (some .long) (rmK 0) g [.int (nI c), .long v] ([]) (vNar c v) ([]) := by
  refine k_bodyL (by decide) (Nat.le_of_ble_eq_true rfl) (fun J hJ hR => ?_)
  show J ([]) [(0, .int (nI c)), (1, .long v)] 0 []
  refine k_iload_n hJ dX4_narrowed_0 0 rfl ?_
  refine k_bipush (v := nI 8) hJ dX4_narrowed_1 (by decide) ?_
  refine n_icmp_ne (tgt := 13) hJ dX4_narrowed_3 (by decide) (by omega) (by omega) (fun c3 => ?_) (fun c3 => ?_)
  · refine k_iload_n hJ dX4_narrowed_13 0 rfl ?_
    refine k_bipush (v := nI 16) hJ dX4_narrowed_14 (by decide) ?_
    refine n_icmp_ne (tgt := 26) hJ dX4_narrowed_16 (by decide) (by omega) (by omega) (fun c16 => ?_) (fun c16 => ?_)
    · refine k_lload_n hJ dX4_narrowed_26 1 rfl ?_
      exact hR _ _ _ () dX4_narrowed_27 (by unfold vNar; (repeat' split) <;> first | rfl | omega)
    · refine k_lload_n hJ dX4_narrowed_19 1 rfl ?_
      refine k_l2i hJ dX4_narrowed_20 rfl ?_
      refine k_i2s hJ dX4_narrowed_21 rfl ?_
      refine k_i2l hJ dX4_narrowed_22 rfl ?_
      refine k_goto (tgt := 27) hJ dX4_narrowed_23 (by decide) ?_
      exact hR _ _ _ () dX4_narrowed_27 (by unfold vNar; (repeat' split) <;> first | rfl | omega)
  · refine k_lload_n hJ dX4_narrowed_6 1 rfl ?_
    refine k_l2i hJ dX4_narrowed_7 rfl ?_
    refine k_i2b hJ dX4_narrowed_8 rfl ?_
    refine k_i2l hJ dX4_narrowed_9 rfl ?_
    refine k_goto (tgt := 27) hJ dX4_narrowed_10 (by decide) ?_
    exact hR _ _ _ () dX4_narrowed_27 (by unfold vNar; (repeat' split) <;> first | rfl | omega)
set_option maxHeartbeats 4000000 in
set_option maxRecDepth 100000 in
theorem ct_X4_together (l : Launch) (g : KG) (b : Nat → Nat) (e : Nat → Int32) (m : Nat → Nat) (q : Nat)  (h0 : m 0 ≤ 8) (hq : q < 10) : CI l yX4_together cX4_together 4 (some .int) (rmK 2) g [.ref (b 0), .int (nI q)] (modS g b e m) (nI (vSum (fun p => m (4 + 10 * p + q)) (m 0))) (modS g b e m) := by
  refine k_bodyI (by decide) (Nat.le_of_ble_eq_true rfl) (fun _ _ _ => rfl) (fun J hJ hR => ?_)
  show J (modS g b e m) [(0, .ref (b 0)), (1, .int (nI q))] 0 []
  have L : ∀ (k : Nat) (i : Nat) (S : Nat), (i ≤ m 0) → (m 0 + 1 ≤ i + k) → (S = vSum (fun p => m (4 + 10 * p + q)) i) → J (modS g b e m) [(0, .ref (b 0)), (1, .int (nI q)), (2, .int (nI S)), (3, .int (nI i))] 4 [] := by
    intro k
    induction k with
    | zero => intro i S hi hf hS; exfalso; omega
    | succ k ih =>
      intro i S hi hf hS
      refine k_iload_n hJ dX4_together_4 3 rfl ?_
      refine k_aload_n hJ dX4_together_5 0 rfl ?_
      refine gf_X4_7 hJ 0 rfl rfl dX4_together_6 ?_
      refine k_iconst (v := nI 0) hJ dX4_together_9 (by decide) ?_
      refine k_iald hJ 1 rfl 0 (by omega) (by decide) rfl dX4_together_10 ?_
      refine n_icmp_ge (tgt := 29) hJ dX4_together_11 (by decide) (by omega) (by omega) (fun c11 => ?_) (fun c11 => ?_)
      · refine k_iload_n hJ dX4_together_29 2 rfl ?_
        exact hR _ _ _ () dX4_together_30 (by rw [hS, show i = m 0 by omega])
      · refine k_iload_n hJ dX4_together_14 2 rfl ?_
        refine k_aload_n hJ dX4_together_15 0 rfl ?_
        refine k_iload_n hJ dX4_together_16 3 rfl ?_
        refine k_iload_n hJ dX4_together_17 1 rfl ?_
        refine c_VI (As := [.int (nI i), .int (nI q)]) (st := [.int (nI S)]) hJ (ct_X4_its l g b e m i q (by omega) (by omega)) (Fr.all rfl) mv_X4_its ml_X4_82 0 rfl rfl rfl (kRm_ok (by decide) (by decide)) rfl rfl (Nat.le_of_ble_eq_true rfl) dX4_together_18 ?_
        refine n_iadd hJ dX4_together_21 ?_
        refine k_istore_n (lv1 := [(0, .ref (b 0)), (1, .int (nI q)), (2, .int (nI (S + (m (4 + 10 * i + q))))), (3, .int (nI i))]) hJ dX4_together_22 (by decide) [1, 2, 0, 3] rfl ?_
        refine n_iinc (b := 1) (lv1 := [(0, .ref (b 0)), (1, .int (nI q)), (2, .int (nI (S + (m (4 + 10 * i + q))))), (3, .int (nI (i + 1)))]) hJ dX4_together_23 3 rfl (by decide) (by decide) [1, 2, 3, 0] rfl ?_
        refine k_goto (tgt := 4) hJ dX4_together_26 (by decide) ?_
        exact ih (i + 1) _ (by omega) (by omega) (by rw [vSum, hS])
  refine k_iconst (v := nI 0) hJ dX4_together_0 (by decide) ?_
  refine k_istore_n (lv1 := [(0, .ref (b 0)), (1, .int (nI q)), (2, .int (nI 0))]) hJ dX4_together_1 (by decide) [1, 2, 0] rfl ?_
  refine k_iconst (v := nI 0) hJ dX4_together_2 (by decide) ?_
  refine k_istore_n (lv1 := [(0, .ref (b 0)), (1, .int (nI q)), (2, .int (nI 0)), (3, .int (nI 0))]) hJ dX4_together_3 (by decide) [1, 2, 3, 0] rfl ?_
  exact L (m 0 + 1) 0 0 (by omega) (by omega) rfl
set_option maxHeartbeats 4000000 in
set_option maxRecDepth 100000 in
theorem mp_count (l : Launch) (g : KG) (b : Nat → Nat) (j : MJ) (s : KS) (hs : kOk s) (x : Int32) : CT l yX4_count cX4_count 2 (some .int) (rmK 3) g [.ref (b 0), .int x] (modA g b s j) (S := MJ) oI (fun r _ => r = (sp_count s x).1) (fun j => modA g b (sp_count s x).2 j) := by
  obtain ⟨m, k, kf, tp, tl, sb, sz, nu, ct⟩ := s
  obtain ⟨fj, mj, fr, to, va, iw, jk, th, ai, ot, mo⟩ := j
  obtain ⟨hm, hk, htl, htp, hsh⟩ := hs
  have h0 : m 0 ≤ 8 := hm.1
  have h1 : m 1 ≤ 9999 := hm.2.1
  have h2 : m 2 ≤ 4 := hm.2.2.1
  have h3 : m 3 ≤ 99 := hm.2.2.2.2.1
  have hB : 9999 < 2 ^ 30 := by decide
  refine k_bodyI (by decide) (Nat.le_of_ble_eq_true rfl) (fun _ _ _ => rfl) (fun J hJ hR => ?_)
  show J (modW g b (mE kf fj mj tl fr to va iw) m th ai ct (fun i => nI ((if kf then k else jk) i)) ot tp sb sz nu mo) [(0, .ref (b 0)), (1, .int x)] 0 []
  refine k_iload_n hJ dX4_count_0 1 rfl ?_
  by_cases c1_0 : x = (0 : Int32)
  · refine r_tabIn (c := 0) (tgt := 32) hJ dX4_count_1 c1_0 (by decide) (by decide) (by decide) rfl (by decide) ?_
    refine k_aload_n hJ dX4_count_32 0 rfl ?_
    refine gf_X4_7 (v := .ref (b 1)) hJ 0 rfl rfl dX4_count_33 ?_
    refine k_iconst (v := nI 0) hJ dX4_count_36 (by decide) ?_
    refine k_iald hJ 1 rfl 0 (by omega) (by decide) rfl dX4_count_37 ?_
    have hsp : sp_count (m, k, kf, tp, tl, sb, sz, nu, ct) x = (nI (m 0), (m, k, kf, tp, tl, sb, sz, nu, ct)) := by simp [-Nat.add_zero, sp_count, sp_tell, nI_l0, nI_l1, nI_l2, nI_l3, nI_l4, tN_l0, tN_l1, tN_l2, tN_l3, tN_l4, c1_0] <;> (repeat' (first | intro _ | refine ⟨?_, ?_⟩ | split)) <;> first | rfl | omega | (exfalso; omega)
    exact k_eqw (ws2 := modA g b (sp_count (m, k, kf, tp, tl, sb, sz, nu, ct) x).2 (fj, mj, fr, to, va, iw, jk, th, ai, ot, mo)) (by rw [hsp]; rfl) (hR _ _ _ (fj, mj, fr, to, va, iw, jk, th, ai, ot, mo) dX4_count_38 (by rw [hsp]))
  by_cases c1_1 : x = (1 : Int32)
  · refine r_tabIn (c := 1) (tgt := 39) hJ dX4_count_1 c1_1 (by decide) (by decide) (by decide) rfl (by decide) ?_
    refine k_aload_n hJ dX4_count_39 0 rfl ?_
    refine gf_X4_190 (v := .int (nI tl)) hJ 0 rfl rfl dX4_count_40 ?_
    have hsp : sp_count (m, k, kf, tp, tl, sb, sz, nu, ct) x = (nI tl, (m, k, kf, tp, tl, sb, sz, nu, ct)) := by simp [-Nat.add_zero, sp_count, sp_tell, nI_l0, nI_l1, nI_l2, nI_l3, nI_l4, tN_l0, tN_l1, tN_l2, tN_l3, tN_l4, c1_0, c1_1] <;> (repeat' (first | intro _ | refine ⟨?_, ?_⟩ | split)) <;> first | rfl | omega | (exfalso; omega)
    exact k_eqw (ws2 := modA g b (sp_count (m, k, kf, tp, tl, sb, sz, nu, ct) x).2 (fj, mj, fr, to, va, iw, jk, th, ai, ot, mo)) (by rw [hsp]; rfl) (hR _ _ _ (fj, mj, fr, to, va, iw, jk, th, ai, ot, mo) dX4_count_43 (by rw [hsp]))
  by_cases c1_2 : x = (2 : Int32)
  · refine r_tabIn (c := 2) (tgt := 44) hJ dX4_count_1 c1_2 (by decide) (by decide) (by decide) rfl (by decide) ?_
    refine k_aload_n hJ dX4_count_44 0 rfl ?_
    refine k_iconst (v := nI 3) hJ dX4_count_45 (by decide) ?_
    refine c_VI (As := [.int (nI 3)]) (st := []) hJ (ct_X4_together l g b (mE kf fj mj tl fr to va iw) m 3 h0 (by decide)) (frS rfl) mv_X4_together ml_X4_305 0 rfl rfl rfl (kRm_ok (by decide) (by decide)) rfl rfl (Nat.le_of_ble_eq_true rfl) dX4_count_46 ?_
    have hsp : sp_count (m, k, kf, tp, tl, sb, sz, nu, ct) x = (nI (vSum (fun p => m (4 + 10 * p + 3)) (m 0)), (m, k, kf, tp, tl, sb, sz, nu, ct)) := by simp [-Nat.add_zero, sp_count, sp_tell, nI_l0, nI_l1, nI_l2, nI_l3, nI_l4, tN_l0, tN_l1, tN_l2, tN_l3, tN_l4, c1_0, c1_1, c1_2] <;> (repeat' (first | intro _ | refine ⟨?_, ?_⟩ | split)) <;> first | rfl | omega | (exfalso; omega)
    exact k_eqw (ws2 := modA g b (sp_count (m, k, kf, tp, tl, sb, sz, nu, ct) x).2 (fj, mj, fr, to, va, iw, jk, th, ai, ot, mo)) (by rw [hsp]; rfl) (hR _ _ _ (fj, mj, fr, to, va, iw, jk, th, ai, ot, mo) dX4_count_49 (by rw [hsp]))
  by_cases c1_3 : x = (3 : Int32)
  · refine r_tabIn (c := 3) (tgt := 50) hJ dX4_count_1 c1_3 (by decide) (by decide) (by decide) rfl (by decide) ?_
    refine k_aload_n hJ dX4_count_50 0 rfl ?_
    refine k_iconst (v := nI 2) hJ dX4_count_51 (by decide) ?_
    refine c_VI (As := [.int (nI 2)]) (st := []) hJ (ct_X4_together l g b (mE kf fj mj tl fr to va iw) m 2 h0 (by decide)) (frS rfl) mv_X4_together ml_X4_305 0 rfl rfl rfl (kRm_ok (by decide) (by decide)) rfl rfl (Nat.le_of_ble_eq_true rfl) dX4_count_52 ?_
    have hsp : sp_count (m, k, kf, tp, tl, sb, sz, nu, ct) x = (nI (vSum (fun p => m (4 + 10 * p + 2)) (m 0)), (m, k, kf, tp, tl, sb, sz, nu, ct)) := by simp [-Nat.add_zero, sp_count, sp_tell, nI_l0, nI_l1, nI_l2, nI_l3, nI_l4, tN_l0, tN_l1, tN_l2, tN_l3, tN_l4, c1_0, c1_1, c1_2, c1_3] <;> (repeat' (first | intro _ | refine ⟨?_, ?_⟩ | split)) <;> first | rfl | omega | (exfalso; omega)
    exact k_eqw (ws2 := modA g b (sp_count (m, k, kf, tp, tl, sb, sz, nu, ct) x).2 (fj, mj, fr, to, va, iw, jk, th, ai, ot, mo)) (by rw [hsp]; rfl) (hR _ _ _ (fj, mj, fr, to, va, iw, jk, th, ai, ot, mo) dX4_count_55 (by rw [hsp]))
  refine r_tabOut (N := 4) (tgt := 56) hJ dX4_count_1 (by decide) (by decide) (fun c hc e => by rcases (show c = 0 ∨ c = 1 ∨ c = 2 ∨ c = 3 by omega) with rfl | rfl | rfl | rfl; all_goals first | exact c1_0 e | exact c1_1 e | exact c1_2 e | exact c1_3 e) (by decide) ?_
  refine k_aload_n hJ dX4_count_56 0 rfl ?_
  refine k_ldc hJ dX4_count_57 cw_X4_44 ?_
  refine k_eqs (st2 := [.int (kFi 0), .ref (b 0)]) (by rw [kFi_c0]) ?_
  refine c_VI (As := [.int (kFi 0)]) (st := []) hJ (ct_X4_finds l g b (mE kf fj mj tl fr to va iw) m th ai ct (fun i => nI ((if kf then k else jk) i)) ot tp sb sz nu mo 0 (by decide)) (Fr.all rfl) mv_X4_finds ml_X4_68 0 rfl rfl rfl (kRm_ok (by decide) (by decide)) rfl rfl (Nat.le_of_ble_eq_true rfl) dX4_count_59 ?_
  have hsp : sp_count (m, k, kf, tp, tl, sb, sz, nu, ct) x = (kFi 0, (m, k, kf, tp, tl, sb, sz, nu, kTe ct 0)) := by simp [-Nat.add_zero, sp_count, sp_tell, nI_l0, nI_l1, nI_l2, nI_l3, nI_l4, tN_l0, tN_l1, tN_l2, tN_l3, tN_l4, c1_0, c1_1, c1_2, c1_3] <;> (repeat' (first | intro _ | refine ⟨?_, ?_⟩ | split)) <;> first | rfl | omega | (exfalso; omega)
  exact k_eqw (ws2 := modA g b (sp_count (m, k, kf, tp, tl, sb, sz, nu, ct) x).2 (fj, mj, fr, to, va, iw, jk, th, ai, ot, mo)) (by rw [hsp]; rfl) (hR _ _ _ (fj, mj, fr, to, va, iw, jk, th, ai, ot, mo) dX4_count_62 (by rw [hsp]))
set_option maxHeartbeats 4000000 in
set_option maxRecDepth 100000 in
theorem mp_wipe (l : Launch) (g : KG) (b : Nat → Nat) (j : MJ) (s : KS) (hs : kOk s)  : CT l yX4_wipe cX4_wipe 2 (some .int) (rmK 0) g [.ref (b 0)] (modA g b s j) (S := MJ) oI (fun r _ => r = (sp_wipe s ).1) (fun j => modA g b (sp_wipe s ).2 j) := by
  obtain ⟨m, k, kf, tp, tl, sb, sz, nu, ct⟩ := s
  obtain ⟨fj, mj, fr, to, va, iw, jk, th, ai, ot, mo⟩ := j
  obtain ⟨hm, hk, htl, htp, hsh⟩ := hs
  have h0 : m 0 ≤ 8 := hm.1
  have h1 : m 1 ≤ 9999 := hm.2.1
  have h2 : m 2 ≤ 4 := hm.2.2.1
  have h3 : m 3 ≤ 99 := hm.2.2.2.2.1
  have hB : 9999 < 2 ^ 30 := by decide
  refine k_bodyI (by decide) (Nat.le_of_ble_eq_true rfl) (fun _ _ _ => rfl) (fun J hJ hR => ?_)
  show J (modW g b (mE kf fj mj tl fr to va iw) m th ai ct (fun i => nI ((if kf then k else jk) i)) ot tp sb sz nu mo) [(0, .ref (b 0))] 0 []
  refine k_aload_n hJ dX4_wipe_0 0 rfl ?_
  refine gf_X4_190 (v := .int (nI tl)) hJ 0 rfl rfl dX4_wipe_1 ?_
  refine k_istore_n (lv1 := [(0, .ref (b 0)), (1, .int (nI tl))]) hJ dX4_wipe_4 (by decide) [1, 0] rfl ?_
  refine k_aload_n hJ dX4_wipe_5 0 rfl ?_
  refine k_iconst (v := nI 0) hJ dX4_wipe_6 (by decide) ?_
  refine pf_X4_190 (ws2 := modW g b (mE kf fj mj 0 fr to va iw) m th ai ct (fun i => nI ((if kf then k else jk) i)) ot tp sb sz nu mo) hJ 0 rfl rfl (Nat.le_of_ble_eq_true rfl) dX4_wipe_7 ?_
  refine k_iload_n hJ dX4_wipe_10 1 rfl ?_
  have hsp : sp_wipe (m, k, kf, tp, tl, sb, sz, nu, ct)  = (nI tl, (m, k, kf, tp, 0, sb, sz, nu, ct)) := by simp [-Nat.add_zero, sp_wipe, sp_tell, nI_l0, nI_l1, nI_l2, nI_l3, nI_l4, tN_l0, tN_l1, tN_l2, tN_l3, tN_l4] <;> (repeat' (first | intro _ | refine ⟨?_, ?_⟩ | split)) <;> first | rfl | omega | (exfalso; omega)
  exact k_eqw (ws2 := modA g b (sp_wipe (m, k, kf, tp, tl, sb, sz, nu, ct) ).2 (fj, mj, fr, to, va, iw, jk, th, ai, ot, mo)) (by rw [hsp]; rfl) (hR _ _ _ (fj, mj, fr, to, va, iw, jk, th, ai, ot, mo) dX4_wipe_11 (by rw [hsp]))
set_option maxHeartbeats 4000000 in
set_option maxRecDepth 100000 in
theorem mp_image (l : Launch) (g : KG) (b : Nat → Nat) (j : MJ) (s : KS) (hs : kOk s)  : CT l yX4_image cX4_image 2 (some .int) (rmK 0) g [.ref (b 0)] (modA g b s j) (S := MJ) oI (fun r _ => r = (sp_image s ).1) (fun j => modA g b (sp_image s ).2 j) := by
  obtain ⟨m, k, kf, tp, tl, sb, sz, nu, ct⟩ := s
  obtain ⟨fj, mj, fr, to, va, iw, jk, th, ai, ot, mo⟩ := j
  obtain ⟨hm, hk, htl, htp, hsh⟩ := hs
  have h0 : m 0 ≤ 8 := hm.1
  have h1 : m 1 ≤ 9999 := hm.2.1
  have h2 : m 2 ≤ 4 := hm.2.2.1
  have h3 : m 3 ≤ 99 := hm.2.2.2.2.1
  have hB : 9999 < 2 ^ 30 := by decide
  refine k_bodyI (by decide) (Nat.le_of_ble_eq_true rfl) (fun _ _ _ => rfl) (fun J hJ hR => ?_)
  show J (modW g b (mE kf fj mj tl fr to va iw) m th ai ct (fun i => nI ((if kf then k else jk) i)) ot tp sb sz nu mo) [(0, .ref (b 0))] 0 []
  refine k_iconst (v := nI 0) hJ dX4_image_0 (by decide) ?_
  refine k_istore_n (lv1 := [(0, .ref (b 0)), (1, .int (nI 0))]) hJ dX4_image_1 (by decide) [1, 0] rfl ?_
  have L2 : ∀ (fu : Nat) (i : Nat) (F : Nat → Int32), (i ≤ 84) → (85 ≤ i + fu) → (∀ j, j < i → F j = nI (m j)) → J (modW g b (mE kf fj mj tl fr to va iw) m th ai ct F ot tp sb sz nu mo) [(0, .ref (b 0)), (1, .int (nI i))] 2 [] := by
    intro fu
    induction fu with
    | zero => intro i F hi hf hF; exfalso; omega
    | succ fu ih =>
      intro i F hi hf hF
      refine k_iload_n hJ dX4_image_2 1 rfl ?_
      refine k_bipush (v := nI 84) hJ dX4_image_3 (by decide) ?_
      refine n_icmp_ge (tgt := 26) hJ dX4_image_5 (by decide) (by omega) (by omega) (fun c5 => ?_) (fun c5 => ?_)
      · refine k_ws (ws2 := modW g b (mE kf fj mj tl fr to va iw) m th ai ct (fun i => nI (m i)) ot tp sb sz nu mo) hJ (fun H hP => mw_ks (fun j hj => (hF j (by omega)).symm) hP) rfl ?_
        refine k_aload_n hJ dX4_image_26 0 rfl ?_
        refine k_iconst (v := nI 1) hJ dX4_image_27 (by decide) ?_
        refine pf_X4_302 (ws2 := modW g b (mE true fj mj tl fr to va iw) m th ai ct (fun i => nI (m i)) ot tp sb sz nu mo) hJ 0 rfl rfl (Nat.le_of_ble_eq_true rfl) rfl rfl dX4_image_28 ?_
        refine k_iconst (v := nI 1) hJ dX4_image_31 (by decide) ?_
        have hsp : sp_image (m, k, kf, tp, tl, sb, sz, nu, ct)  = (nI 1, (m, m, true, tp, tl, sb, sz, nu, ct)) := by rfl
        exact k_eqw (ws2 := modA g b (sp_image (m, k, kf, tp, tl, sb, sz, nu, ct) ).2 (fj, mj, fr, to, va, iw, jk, th, ai, ot, mo)) (by rw [hsp]; rfl) (hR _ _ _ (fj, mj, fr, to, va, iw, jk, th, ai, ot, mo) dX4_image_32 (by rw [hsp]))
      · refine k_aload_n hJ dX4_image_8 0 rfl ?_
        refine gf_X4_13 (v := .ref (b 2)) hJ 0 rfl rfl dX4_image_9 ?_
        refine k_iload_n hJ dX4_image_12 1 rfl ?_
        refine k_aload_n hJ dX4_image_13 0 rfl ?_
        refine gf_X4_7 (v := .ref (b 1)) hJ 0 rfl rfl dX4_image_14 ?_
        refine k_iload_n hJ dX4_image_17 1 rfl ?_
        refine k_iald hJ 1 rfl i (by omega) (by decide) rfl dX4_image_18 ?_
        refine k_iast (ws2 := modW g b (mE kf fj mj tl fr to va iw) m th ai ct (upd F i (nI (m i))) ot tp sb sz nu mo) hJ 5 rfl i (by omega) (by decide) rfl dX4_image_19 ?_
        refine n_iinc (b := 1) (lv1 := [(0, .ref (b 0)), (1, .int (nI (i + 1)))]) hJ dX4_image_20 1 rfl (by decide) (by decide) [1, 0] rfl ?_
        refine k_goto (tgt := 2) hJ dX4_image_23 (by decide) ?_
        refine ih (i + 1) _ (by omega) (by omega) (fun j hj => ?_)
        by_cases q : j = i
        · rw [q, pk_us]
        · rw [pk_un q]; exact hF j (by omega)
  exact L2 85 0 _ (by omega) (by omega) (fun j hj => absurd hj (by omega))
set_option maxHeartbeats 4000000 in
set_option maxRecDepth 100000 in
theorem mp_tear (l : Launch) (g : KG) (b : Nat → Nat) (j : MJ) (s : KS) (hs : kOk s)  : CT l yX4_tear cX4_tear 2 (some .int) (rmK 0) g [.ref (b 0)] (modA g b s j) (S := MJ) oI (fun r _ => r = (sp_tear s ).1) (fun j => modA g b (sp_tear s ).2 j) := by
  obtain ⟨m, k, kf, tp, tl, sb, sz, nu, ct⟩ := s
  obtain ⟨fj, mj, fr, to, va, iw, jk, th, ai, ot, mo⟩ := j
  obtain ⟨hm, hk, htl, htp, hsh⟩ := hs
  have h0 : m 0 ≤ 8 := hm.1
  have h1 : m 1 ≤ 9999 := hm.2.1
  have h2 : m 2 ≤ 4 := hm.2.2.1
  have h3 : m 3 ≤ 99 := hm.2.2.2.2.1
  have hB : 9999 < 2 ^ 30 := by decide
  refine k_bodyI (by decide) (Nat.le_of_ble_eq_true rfl) (fun _ _ _ => rfl) (fun J hJ hR => ?_)
  show J (modW g b (mE kf fj mj tl fr to va iw) m th ai ct (fun i => nI ((if kf then k else jk) i)) ot tp sb sz nu mo) [(0, .ref (b 0))] 0 []
  refine k_aload_n hJ dX4_tear_0 0 rfl ?_
  refine gf_X4_302 (v := .int (kb kf)) hJ 0 rfl rfl dX4_tear_1 ?_
  refine b_if_eq (tgt := 11) hJ dX4_tear_4 (by decide) (fun c4 => ?_) (fun c4 => ?_)
  · refine k_iconst (v := nI 0) hJ dX4_tear_11 (by decide) ?_
    refine k_istore_n (lv1 := [(0, .ref (b 0)), (1, .int (nI 0))]) hJ dX4_tear_12 (by decide) [1, 0] rfl ?_
    refine k_aload_n hJ dX4_tear_13 0 rfl ?_
    refine k_iconst (v := nI 0) hJ dX4_tear_14 (by decide) ?_
    refine pf_X4_302 (ws2 := modW g b (mE false fj mj tl fr to va iw) m th ai ct (fun i => nI ((if kf then k else jk) i)) ot tp sb sz nu mo) hJ 0 rfl rfl (Nat.le_of_ble_eq_true rfl) rfl rfl dX4_tear_15 ?_
    refine k_iload_n hJ dX4_tear_18 1 rfl ?_
    subst c4
    have hsp : sp_tear (m, k, false, tp, tl, sb, sz, nu, ct) = (nI 0, (m, k, false, tp, tl, sb, sz, nu, ct)) := rfl
    exact k_eqw (ws2 := modA g b (sp_tear (m, k, false, tp, tl, sb, sz, nu, ct)).2 (fj, mj, fr, to, va, iw, jk, th, ai, ot, mo)) (by rw [hsp]; rfl) (hR _ _ _ (fj, mj, fr, to, va, iw, jk, th, ai, ot, mo) dX4_tear_19 (by rw [hsp]))
  · refine k_iconst (v := nI 1) hJ dX4_tear_7 (by decide) ?_
    refine k_goto (tgt := 12) hJ dX4_tear_8 (by decide) ?_
    refine k_istore_n (lv1 := [(0, .ref (b 0)), (1, .int (nI 1))]) hJ dX4_tear_12 (by decide) [1, 0] rfl ?_
    refine k_aload_n hJ dX4_tear_13 0 rfl ?_
    refine k_iconst (v := nI 0) hJ dX4_tear_14 (by decide) ?_
    refine pf_X4_302 (ws2 := modW g b (mE false fj mj tl fr to va iw) m th ai ct (fun i => nI ((if kf then k else jk) i)) ot tp sb sz nu mo) hJ 0 rfl rfl (Nat.le_of_ble_eq_true rfl) rfl rfl dX4_tear_15 ?_
    refine k_iload_n hJ dX4_tear_18 1 rfl ?_
    subst c4
    have hsp : sp_tear (m, k, true, tp, tl, sb, sz, nu, ct) = (nI 1, (m, k, false, tp, tl, sb, sz, nu, ct)) := rfl
    exact k_eqw (ws2 := modA g b (sp_tear (m, k, true, tp, tl, sb, sz, nu, ct)).2 (fj, mj, fr, to, va, iw, k, th, ai, ot, mo)) (by rw [hsp]; rfl) (hR _ _ _ (fj, mj, fr, to, va, iw, k, th, ai, ot, mo) dX4_tear_19 (by rw [hsp]))
set_option maxHeartbeats 4000000 in
set_option maxRecDepth 100000 in
theorem mp_undo (l : Launch) (g : KG) (b : Nat → Nat) (j : MJ) (s : KS) (hs : kOk s)  : CT l yX4_undo cX4_undo 2 (some .int) (rmK 1) g [.ref (b 0)] (modA g b s j) (S := MJ) oI (fun r _ => r = (sp_undo s ).1) (fun j => modA g b (sp_undo s ).2 j) := by
  obtain ⟨m, k, kf, tp, tl, sb, sz, nu, ct⟩ := s
  obtain ⟨fj, mj, fr, to, va, iw, jk, th, ai, ot, mo⟩ := j
  obtain ⟨hm, hk, htl, htp, hsh⟩ := hs
  have h0 : m 0 ≤ 8 := hm.1
  have h1 : m 1 ≤ 9999 := hm.2.1
  have h2 : m 2 ≤ 4 := hm.2.2.1
  have h3 : m 3 ≤ 99 := hm.2.2.2.2.1
  have hB : 9999 < 2 ^ 30 := by decide
  refine k_bodyI (by decide) (Nat.le_of_ble_eq_true rfl) (fun _ _ _ => rfl) (fun J hJ hR => ?_)
  show J (modW g b (mE kf fj mj tl fr to va iw) m th ai ct (fun i => nI ((if kf then k else jk) i)) ot tp sb sz nu mo) [(0, .ref (b 0))] 0 []
  refine k_aload_n hJ dX4_undo_0 0 rfl ?_
  refine gf_X4_302 (v := .int (kb kf)) hJ 0 rfl rfl dX4_undo_1 ?_
  refine b_if_ne (tgt := 14) hJ dX4_undo_4 (by decide) (fun c4 => ?_) (fun c4 => ?_)
  · subst c4
    refine k_iconst (v := nI 0) hJ dX4_undo_14 (by decide) ?_
    refine k_istore_n (lv1 := [(0, .ref (b 0)), (1, .int (nI 0))]) hJ dX4_undo_15 (by decide) [1, 0] rfl ?_
    have L16 : ∀ (fu : Nat) (i : Nat) (M : Nat → Nat), (i ≤ 84) → (85 ≤ i + fu) → (∀ j, j < i → M j = k j) → J (modW g b (mE true fj mj tl fr to va iw) M th ai ct (fun i => nI (k i)) ot tp sb sz nu mo) [(0, .ref (b 0)), (1, .int (nI i))] 16 [] := by
      intro fu
      induction fu with
      | zero => intro i M hi hf hM; exfalso; omega
      | succ fu ih =>
        intro i M hi hf hM
        refine k_iload_n hJ dX4_undo_16 1 rfl ?_
        refine k_bipush (v := nI 84) hJ dX4_undo_17 (by decide) ?_
        refine n_icmp_ge (tgt := 40) hJ dX4_undo_19 (by decide) (by omega) (by omega) (fun c19 => ?_) (fun c19 => ?_)
        · refine k_ws (ws2 := modW g b (mE true fj mj tl fr to va iw) k th ai ct (fun i => nI (k i)) ot tp sb sz nu mo) hJ (fun H hP => mw_m (fun j hj => (hM j (by omega)).symm) hP) rfl ?_
          refine k_aload_n hJ dX4_undo_40 0 rfl ?_
          refine gf_X4_7 (v := .ref (b 1)) hJ 0 rfl rfl dX4_undo_41 ?_
          refine k_iconst (v := nI 0) hJ dX4_undo_44 (by decide) ?_
          refine k_iald hJ 1 rfl 0 (by omega) (by decide) rfl dX4_undo_45 ?_
          have hsp : sp_undo (m, k, true, tp, tl, sb, sz, nu, ct)  = (nI (k 0), (k, k, true, tp, tl, sb, sz, nu, ct)) := by rfl
          exact k_eqw (ws2 := modA g b (sp_undo (m, k, true, tp, tl, sb, sz, nu, ct) ).2 (fj, mj, fr, to, va, iw, jk, th, ai, ot, mo)) (by rw [hsp]; rfl) (hR _ _ _ (fj, mj, fr, to, va, iw, jk, th, ai, ot, mo) dX4_undo_46 (by rw [hsp]))
        · refine k_aload_n hJ dX4_undo_22 0 rfl ?_
          refine gf_X4_7 (v := .ref (b 1)) hJ 0 rfl rfl dX4_undo_23 ?_
          refine k_iload_n hJ dX4_undo_26 1 rfl ?_
          refine k_aload_n hJ dX4_undo_27 0 rfl ?_
          refine gf_X4_13 (v := .ref (b 2)) hJ 0 rfl rfl dX4_undo_28 ?_
          refine k_iload_n hJ dX4_undo_31 1 rfl ?_
          refine k_iald hJ 5 rfl i (by omega) (by decide) rfl dX4_undo_32 ?_
          refine k_iast (ws2 := modW g b (mE true fj mj tl fr to va iw) (vUp M i (k i)) th ai ct (fun i => nI (k i)) ot tp sb sz nu mo) hJ 1 rfl i (by omega) (by decide) (mw_s (v := (k i))) dX4_undo_33 ?_
          refine n_iinc (b := 1) (lv1 := [(0, .ref (b 0)), (1, .int (nI (i + 1)))]) hJ dX4_undo_34 1 rfl (by decide) (by decide) [1, 0] rfl ?_
          refine k_goto (tgt := 16) hJ dX4_undo_37 (by decide) ?_
          refine ih (i + 1) _ (by omega) (by omega) (fun j hj => ?_)
          by_cases c : j = i
          · rw [vUp_eq c, c]
          · rw [vUp_ne c]; exact hM j (by omega)
    exact L16 85 0 m (by omega) (by omega) (fun j hj => absurd hj (by omega))
  · refine k_aload_n hJ dX4_undo_7 0 rfl ?_
    refine k_ldc hJ dX4_undo_8 cw_X4_129 ?_
    refine k_eqs (st2 := [.int (kFi 3), .ref (b 0)]) (by rw [kFi_c3]) ?_
    refine c_VI (As := [.int (kFi 3)]) (st := []) hJ (ct_X4_finds l g b (mE kf fj mj tl fr to va iw) m th ai ct (fun i => nI ((if kf then k else jk) i)) ot tp sb sz nu mo 3 (by decide)) (Fr.all rfl) mv_X4_finds ml_X4_68 0 rfl rfl rfl (kRm_ok (by decide) (by decide)) rfl rfl (Nat.le_of_ble_eq_true rfl) dX4_undo_10 ?_
    have hsp : sp_undo (m, k, kf, tp, tl, sb, sz, nu, ct)  = (kFi 3, (m, k, kf, tp, tl, sb, sz, nu, kTe ct 3)) := by simp [-Nat.add_zero, sp_undo, sp_tell, nI_l0, nI_l1, nI_l2, nI_l3, nI_l4, tN_l0, tN_l1, tN_l2, tN_l3, tN_l4, c4] <;> (repeat' (first | intro _ | refine ⟨?_, ?_⟩ | split)) <;> first | rfl | omega | (exfalso; omega)
    exact k_eqw (ws2 := modA g b (sp_undo (m, k, kf, tp, tl, sb, sz, nu, ct) ).2 (fj, mj, fr, to, va, iw, jk, th, ai, ot, mo)) (by rw [hsp]; rfl) (hR _ _ _ (fj, mj, fr, to, va, iw, jk, th, ai, ot, mo) dX4_undo_13 (by rw [hsp]))
set_option maxHeartbeats 4000000 in
set_option maxRecDepth 100000 in
theorem mp_feed (l : Launch) (g : KG) (b : Nat → Nat) (j : MJ) (s : KS) (hs : kOk s) (x : Int32) (y : Int32) : CT l yX4_feed cX4_feed 4 (some .int) (rmK 1) g [.ref (b 0), .int x, .int y] (modA g b s j) (S := MJ) oI (fun r _ => r = (sp_feed s x y).1) (fun j => modA g b (sp_feed s x y).2 j) := by
  obtain ⟨m, k, kf, tp, tl, sb, sz, nu, ct⟩ := s
  obtain ⟨fj, mj, fr, to, va, iw, jk, th, ai, ot, mo⟩ := j
  obtain ⟨hm, hk, htl, htp, hsh⟩ := hs
  have h0 : m 0 ≤ 8 := hm.1
  have h1 : m 1 ≤ 9999 := hm.2.1
  have h2 : m 2 ≤ 4 := hm.2.2.1
  have h3 : m 3 ≤ 99 := hm.2.2.2.2.1
  have hB : 9999 < 2 ^ 30 := by decide
  refine k_bodyI (by decide) (Nat.le_of_ble_eq_true rfl) (fun _ _ _ => rfl) (fun J hJ hR => ?_)
  show J (modW g b (mE kf fj mj tl fr to va iw) m th ai ct (fun i => nI ((if kf then k else jk) i)) ot tp sb sz nu mo) [(0, .ref (b 0)), (1, .int x), (2, .int y)] 0 []
  refine k_iload_n hJ dX4_feed_0 2 rfl ?_
  refine k_i2l hJ dX4_feed_1 rfl ?_
  refine k_lconst (v := 1) hJ dX4_feed_2 (by decide) ?_
  refine k_ldc2 hJ dX4_feed_3 cw_X4_61 ?_
  refine c_SI (As := [.long y.toInt64, .long 1, .long 4]) (st := []) hJ (ct_X4_in l g y.toInt64 1 4) Fr.none ms_X4_in ml_X4_47 (kRm_ok (by decide) (by decide)) rfl rfl (Nat.le_of_ble_eq_true rfl) dX4_feed_6 ?_
  refine k_eqs (st2 := [.int (kb (vBt y 1 4))]) (by rw [show vInL y.toInt64 1 4 = vBt y 1 4 from vInL_bt y 1 4 1 4 rfl rfl]) ?_
  refine b_if_ne (tgt := 19) hJ dX4_feed_9 (by decide) (fun c9 => ?_) (fun c9 => ?_)
  · obtain ⟨py, hly, hpy, rfl⟩ := vBt_of (by omega) (by first | omega | (have := Nat.pow_le_pow_right (show 0 < 2 by decide) h0; omega)) c9
    refine k_aload_n hJ dX4_feed_19 0 rfl ?_
    refine gf_X4_190 (v := .int (nI tl)) hJ 0 rfl rfl dX4_feed_20 ?_
    refine k_iload_n hJ dX4_feed_23 2 rfl ?_
    refine n_iadd hJ dX4_feed_24 ?_
    refine k_bipush (v := nI 120) hJ dX4_feed_25 (by decide) ?_
    refine n_icmp_le (tgt := 37) hJ dX4_feed_27 (by decide) (by omega) (by omega) (fun c27 => ?_) (fun c27 => ?_)
    · refine k_iload_n hJ dX4_feed_37 2 rfl ?_
      refine k_iconst (v := nI 1) hJ dX4_feed_38 (by decide) ?_
      refine n_isub hJ dX4_feed_39 (by omega) ?_
      refine k_istore_n (lv1 := [(0, .ref (b 0)), (1, .int x), (2, .int (nI py)), (3, .int (nI (py - 1)))]) hJ dX4_feed_40 (by decide) [1, 2, 3, 0] rfl ?_
      have L41 : ∀ (i : Nat) (P : Nat → Nat), i ≤ py → (∀ j, P j = if tl ≤ j ∧ j < tl + (py - i) then tN ((x >>> (nI (8 * (py - 1 - (j - tl))) &&& 31)) &&& 255) else tp j) → J (modW g b (mE kf fj mj (tl + (py - i)) fr to va iw) m th ai ct (fun i => nI ((if kf then k else jk) i)) ot P sb sz nu mo) [(0, .ref (b 0)), (1, .int x), (2, .int (nI py)), (3, .int (kDn i))] 41 [] := by
        intro i
        induction i with
        | zero =>
          intro P hi hP
          show J (modW g b (mE kf fj mj (tl + py) fr to va iw) m th ai ct (fun i => nI ((if kf then k else jk) i)) ot P sb sz nu mo) [(0, .ref (b 0)), (1, .int x), (2, .int (nI py)), (3, .int (-1))] 41 []
          have hPe : P = vFeed tp tl x py := funext fun j => by rw [hP j]; unfold vFeed; rw [Nat.sub_zero]
          refine k_iload_n hJ dX4_feed_41 3 rfl ?_
          refine k_if_lt (tgt := 80) hJ dX4_feed_42 (by decide) (fun c42 => ?_) (fun c42 => ?_)
          · refine k_aload_n hJ dX4_feed_80 0 rfl ?_
            refine gf_X4_190 (v := .int (nI (tl + py))) hJ 0 rfl rfl dX4_feed_81 ?_
            subst hPe
            have hsp : sp_feed (m, k, kf, tp, tl, sb, sz, nu, ct) x (nI py) = (nI (tl + py), (m, k, kf, vFeed tp tl x py, tl + py, sb, sz, nu, ct)) := by simp [-Nat.add_zero, sp_feed, sp_tell, nI_l0, nI_l1, nI_l2, nI_l3, nI_l4, tN_l0, tN_l1, tN_l2, tN_l3, tN_l4, c9, c42, nI_clamp (show py < 2 ^ 31 by omega)] <;> (repeat' (first | intro _ | refine ⟨?_, ?_⟩ | split)) <;> first | rfl | omega | (exfalso; omega)
            exact k_eqw (ws2 := modA g b (sp_feed (m, k, kf, tp, tl, sb, sz, nu, ct) x (nI py)).2 (fj, mj, fr, to, va, iw, jk, th, ai, ot, mo)) (by rw [hsp]; rfl) (hR _ _ _ (fj, mj, fr, to, va, iw, jk, th, ai, ot, mo) dX4_feed_84 (by rw [hsp]))
          · exact absurd (by decide) c42
        | succ i ih =>
          intro P hi hP
          show J (modW g b (mE kf fj mj (tl + (py - (i + 1))) fr to va iw) m th ai ct (fun i => nI ((if kf then k else jk) i)) ot P sb sz nu mo) [(0, .ref (b 0)), (1, .int x), (2, .int (nI py)), (3, .int (nI i))] 41 []
          refine k_iload_n hJ dX4_feed_41 3 rfl ?_
          refine n_if_lt (tgt := 80) hJ dX4_feed_42 (by decide) (by omega) (fun c42 => ?_) (fun c42 => ?_)
          · exact absurd c42 (by omega)
          · refine k_aload_n hJ dX4_feed_45 0 rfl ?_
            refine gf_X4_28 (v := .ref (b 7)) hJ 0 rfl rfl dX4_feed_46 ?_
            refine k_aload_n hJ dX4_feed_49 0 rfl ?_
            refine gf_X4_190 (v := .int (nI (tl + (py - (i + 1))))) hJ 0 rfl rfl dX4_feed_50 ?_
            refine k_iload_n hJ dX4_feed_53 1 rfl ?_
            refine k_bipush (v := nI 8) hJ dX4_feed_54 (by decide) ?_
            refine k_iload_n hJ dX4_feed_56 3 rfl ?_
            refine n_imul hJ dX4_feed_57 ?_
            refine k_ishr hJ dX4_feed_58 ?_
            refine k_sipush (v := nI 255) hJ dX4_feed_59 (by decide) ?_
            refine k_iand hJ dX4_feed_62 ?_
            refine k_eqs (st2 := [.int (nI (tN ((x >>> (nI (8 * i) &&& 31)) &&& 255))), .int (nI (tl + (py - (i + 1)))), .ref (b 7)]) (by rw [(and255 _).1]) ?_
            refine k_iast (ws2 := modW g b (mE kf fj mj (tl + (py - (i + 1))) fr to va iw) m th ai ct (fun i => nI ((if kf then k else jk) i)) ot (vUp P (tl + (py - (i + 1))) (tN ((x >>> (nI (8 * i) &&& 31)) &&& 255))) sb sz nu mo) hJ 7 rfl (tl + (py - (i + 1))) (by omega) (by decide) (mw_tp (v := (tN ((x >>> (nI (8 * i) &&& 31)) &&& 255)))) dX4_feed_63 ?_
            refine k_aload_n hJ dX4_feed_64 0 rfl ?_
            refine k_dup hJ dX4_feed_65 rfl ?_
            refine gf_X4_190 (v := .int (nI (tl + (py - (i + 1))))) hJ 0 rfl rfl dX4_feed_66 ?_
            refine k_iconst (v := nI 1) hJ dX4_feed_69 (by decide) ?_
            refine n_iadd hJ dX4_feed_70 ?_
            refine pf_X4_190 (ws2 := modW g b (mE kf fj mj ((tl + (py - (i + 1))) + 1) fr to va iw) m th ai ct (fun i => nI ((if kf then k else jk) i)) ot (vUp P (tl + (py - (i + 1))) (tN ((x >>> (nI (8 * i) &&& 31)) &&& 255))) sb sz nu mo) hJ 0 rfl rfl (Nat.le_of_ble_eq_true rfl) dX4_feed_71 ?_
            refine k_iinc (v := kDn i) (lv1 := [(0, .ref (b 0)), (1, .int x), (2, .int (nI py)), (3, .int (kDn i))]) hJ dX4_feed_74 3 rfl (kDn_dec i) (by decide) [1, 2, 3, 0] rfl ?_
            refine k_goto (tgt := 41) hJ dX4_feed_77 (by decide) ?_
            refine k_eqw (ws2 := modW g b (mE kf fj mj (tl + (py - i)) fr to va iw) m th ai ct (fun i => nI ((if kf then k else jk) i)) ot (vUp P (tl + (py - (i + 1))) (tN ((x >>> (nI (8 * i) &&& 31)) &&& 255))) sb sz nu mo) (by rw [show tl + (py - (i + 1)) + 1 = tl + (py - i) by omega]) ?_
            refine ih _ (by omega) (fun j => ?_)
            by_cases q : j = tl + (py - (i + 1))
            · rw [vUp_eq q, if_pos (by omega), show py - 1 - (j - tl) = i by omega]
            · rw [vUp_ne q, hP j]; by_cases c : tl ≤ j ∧ j < tl + (py - (i + 1))
              · rw [if_pos c, if_pos (by omega)]
              · rw [if_neg c, if_neg (by omega)]
      refine k_eqw (ws2 := modW g b (mE kf fj mj (tl + (py - py)) fr to va iw) m th ai ct (fun i => nI ((if kf then k else jk) i)) ot tp sb sz nu mo) (by rw [Nat.sub_self]; rfl) ?_
      refine k_eql (lv1 := [(0, .ref (b 0)), (1, .int x), (2, .int (nI py)), (3, .int (kDn py))]) (by obtain ⟨q, hq⟩ : ∃ q, py = q + 1 := ⟨py - 1, by omega⟩; rw [hq]; rfl) ?_
      exact L41 py tp (Nat.le_refl _) (fun j => by rw [if_neg (by omega)])
    · refine k_aload_n hJ dX4_feed_30 0 rfl ?_
      refine k_ldc hJ dX4_feed_31 cw_X4_78 ?_
      refine k_eqs (st2 := [.int (kFi 1), .ref (b 0)]) (by rw [kFi_c1]) ?_
      refine c_VI (As := [.int (kFi 1)]) (st := []) hJ (ct_X4_finds l g b (mE kf fj mj tl fr to va iw) m th ai ct (fun i => nI ((if kf then k else jk) i)) ot tp sb sz nu mo 1 (by decide)) (Fr.all rfl) mv_X4_finds ml_X4_68 0 rfl rfl rfl (kRm_ok (by decide) (by decide)) rfl rfl (Nat.le_of_ble_eq_true rfl) dX4_feed_33 ?_
      have hsp : sp_feed (m, k, kf, tp, tl, sb, sz, nu, ct) x (nI py) = (kFi 1, (m, k, kf, tp, tl, sb, sz, nu, kTe ct 1)) := by simp [-Nat.add_zero, sp_feed, sp_tell, nI_l0, nI_l1, nI_l2, nI_l3, nI_l4, tN_l0, tN_l1, tN_l2, tN_l3, tN_l4, c9, nI_clamp (show py < 2 ^ 31 by omega)] <;> (repeat' (first | intro _ | refine ⟨?_, ?_⟩ | split)) <;> first | rfl | omega | (exfalso; omega)
      exact k_eqw (ws2 := modA g b (sp_feed (m, k, kf, tp, tl, sb, sz, nu, ct) x (nI py)).2 (fj, mj, fr, to, va, iw, jk, th, ai, ot, mo)) (by rw [hsp]; rfl) (hR _ _ _ (fj, mj, fr, to, va, iw, jk, th, ai, ot, mo) dX4_feed_36 (by rw [hsp]))
  · refine k_aload_n hJ dX4_feed_12 0 rfl ?_
    refine k_ldc hJ dX4_feed_13 cw_X4_44 ?_
    refine k_eqs (st2 := [.int (kFi 0), .ref (b 0)]) (by rw [kFi_c0]) ?_
    refine c_VI (As := [.int (kFi 0)]) (st := []) hJ (ct_X4_finds l g b (mE kf fj mj tl fr to va iw) m th ai ct (fun i => nI ((if kf then k else jk) i)) ot tp sb sz nu mo 0 (by decide)) (Fr.all rfl) mv_X4_finds ml_X4_68 0 rfl rfl rfl (kRm_ok (by decide) (by decide)) rfl rfl (Nat.le_of_ble_eq_true rfl) dX4_feed_15 ?_
    have hsp : sp_feed (m, k, kf, tp, tl, sb, sz, nu, ct) x y = (kFi 0, (m, k, kf, tp, tl, sb, sz, nu, kTe ct 0)) := by simp [-Nat.add_zero, sp_feed, sp_tell, nI_l0, nI_l1, nI_l2, nI_l3, nI_l4, tN_l0, tN_l1, tN_l2, tN_l3, tN_l4, c9] <;> (repeat' (first | intro _ | refine ⟨?_, ?_⟩ | split)) <;> first | rfl | omega | (exfalso; omega)
    exact k_eqw (ws2 := modA g b (sp_feed (m, k, kf, tp, tl, sb, sz, nu, ct) x y).2 (fj, mj, fr, to, va, iw, jk, th, ai, ot, mo)) (by rw [hsp]; rfl) (hR _ _ _ (fj, mj, fr, to, va, iw, jk, th, ai, ot, mo) dX4_feed_18 (by rw [hsp]))
set_option maxHeartbeats 4000000 in
set_option maxRecDepth 100000 in
theorem mp_status (l : Launch) (g : KG) (b : Nat → Nat) (j : MJ) (s : KS) (hs : kOk s) (x : Int32) : CT l yX4_status cX4_status 4 (some .int) (rmK 1) g [.ref (b 0), .int x] (modA g b s j) (S := MJ) oI (fun r _ => r = (sp_status s x).1) (fun j => modA g b (sp_status s x).2 j) := by
  obtain ⟨m, k, kf, tp, tl, sb, sz, nu, ct⟩ := s
  obtain ⟨fj, mj, fr, to, va, iw, jk, th, ai, ot, mo⟩ := j
  obtain ⟨hm, hk, htl, htp, hsh⟩ := hs
  have h0 : m 0 ≤ 8 := hm.1
  have h1 : m 1 ≤ 9999 := hm.2.1
  have h2 : m 2 ≤ 4 := hm.2.2.1
  have h3 : m 3 ≤ 99 := hm.2.2.2.2.1
  have hB : 9999 < 2 ^ 30 := by decide
  refine k_bodyI (by decide) (Nat.le_of_ble_eq_true rfl) (fun _ _ _ => rfl) (fun J hJ hR => ?_)
  show J (modW g b (mE kf fj mj tl fr to va iw) m th ai ct (fun i => nI ((if kf then k else jk) i)) ot tp sb sz nu mo) [(0, .ref (b 0)), (1, .int x)] 0 []
  refine k_iload_n hJ dX4_status_0 1 rfl ?_
  refine k_i2l hJ dX4_status_1 rfl ?_
  refine k_ldc2 hJ dX4_status_2 cw_X4_308 ?_
  refine k_ldc2 hJ dX4_status_5 cw_X4_310 ?_
  refine c_SI (As := [.long x.toInt64, .long (-1), .long 6]) (st := []) hJ (ct_X4_in l g x.toInt64 (-1) 6) Fr.none ms_X4_in ml_X4_47 (kRm_ok (by decide) (by decide)) rfl rfl (Nat.le_of_ble_eq_true rfl) dX4_status_8 ?_
  refine k_eqs (st2 := [.int (kb (decide (x = -1) || vIn x 7))]) (by rw [vInL_m1]) ?_
  refine b_if_ne (tgt := 21) hJ dX4_status_11 (by decide) (fun c11 => ?_) (fun c11 => ?_)
  · refine k_iconst (v := nI 0) hJ dX4_status_21 (by decide) ?_
    refine k_istore_n (lv1 := [(0, .ref (b 0)), (1, .int x), (2, .int (nI 0))]) hJ dX4_status_22 (by decide) [1, 2, 0] rfl ?_
    refine k_iconst (v := nI 0) hJ dX4_status_23 (by decide) ?_
    refine k_istore_n (lv1 := [(0, .ref (b 0)), (1, .int x), (2, .int (nI 0)), (3, .int (nI 0))]) hJ dX4_status_24 (by decide) [1, 2, 3, 0] rfl ?_
    have hc : x = -1 ∨ vIn x 7 = true := by simpa using c11
    rcases hc with rfl | hc
    · have hv1 : vIn (-1) 7 = false := by decide
      have L25 : ∀ (fu : Nat) (i : Nat), (i ≤ 7) → (8 ≤ i + fu) → J (modW g b (mE kf fj mj tl fr to va iw) m th ai ct (fun i => nI ((if kf then k else jk) i)) ot tp sb sz nu mo) [(0, .ref (b 0)), (1, .int (-1)), (2, .int (vAll ct i)), (3, .int (nI i))] 25 [] := by
        intro fu
        induction fu with
        | zero => intro i hi hf; exfalso; omega
        | succ fu ih =>
          intro i hi hf
          refine k_iload_n hJ dX4_status_25 3 rfl ?_
          refine k_bipush (v := nI 7) hJ dX4_status_26 (by decide) ?_
          refine n_icmp_ge (tgt := 59) hJ dX4_status_28 (by decide) (by omega) (by omega) (fun c28 => ?_) (fun c28 => ?_)
          · refine k_iload_n hJ dX4_status_59 2 rfl ?_
            have hi7 : i = 7 := by omega
            have hsp : sp_status (m, k, kf, tp, tl, sb, sz, nu, ct) (-1) = (vAll ct i, (m, k, kf, tp, tl, sb, sz, nu, ct)) := by simp only [sp_status]; rw [if_neg (by rw [hv1]; decide), if_pos trivial, hi7]
            exact k_eqw (ws2 := modA g b (sp_status (m, k, kf, tp, tl, sb, sz, nu, ct) (-1)).2 (fj, mj, fr, to, va, iw, jk, th, ai, ot, mo)) (by rw [hsp]; rfl) (hR _ _ _ (fj, mj, fr, to, va, iw, jk, th, ai, ot, mo) dX4_status_60 (by rw [hsp]))
          · refine k_iload_n hJ dX4_status_31 2 rfl ?_
            refine k_iload_n hJ dX4_status_32 1 rfl ?_
            refine k_if_lt (tgt := 41) hJ dX4_status_33 (by decide) (fun c33 => ?_) (fun c33 => ?_)
            · refine k_aload_n hJ dX4_status_41 0 rfl ?_
              refine gf_X4_22 (v := .ref (b 5)) hJ 0 rfl rfl dX4_status_42 ?_
              refine k_iload_n hJ dX4_status_45 3 rfl ?_
              refine k_iald hJ 4 rfl i (by omega) (by decide) rfl dX4_status_46 ?_
              refine k_goto (tgt := 51) hJ dX4_status_47 (by decide) ?_
              refine k_iadd hJ dX4_status_51 ?_
              refine k_istore_n (lv1 := [(0, .ref (b 0)), (1, .int (-1)), (2, .int ((vAll ct i) + (ct i))), (3, .int (nI i))]) hJ dX4_status_52 (by decide) [1, 2, 0, 3] rfl ?_
              refine n_iinc (b := 1) (lv1 := [(0, .ref (b 0)), (1, .int (-1)), (2, .int ((vAll ct i) + (ct i))), (3, .int (nI (i + 1)))]) hJ dX4_status_53 3 rfl (by decide) (by decide) [1, 2, 3, 0] rfl ?_
              refine k_goto (tgt := 25) hJ dX4_status_56 (by decide) ?_
              refine k_eql (lv1 := [(0, .ref (b 0)), (1, .int (-1)), (2, .int (vAll ct (i + 1))), (3, .int (nI (i + 1)))]) (by rw [vAll]) ?_
              exact ih (i + 1) (by omega) (by omega)
            · exact absurd (by decide) c33
      exact L25 8 0 (by omega) (by omega)
    · obtain ⟨px, hpx, rfl⟩ := vIn_of (by decide) hc
      have hx1 : ¬ nI px = -1 := fun q => by have a := nI_pos (show px < 2 ^ 31 by omega); rw [q] at a; exact a (by decide)
      have L25 : ∀ (fu : Nat) (i : Nat), (i ≤ 7) → (8 ≤ i + fu) → J (modW g b (mE kf fj mj tl fr to va iw) m th ai ct (fun i => nI ((if kf then k else jk) i)) ot tp sb sz nu mo) [(0, .ref (b 0)), (1, .int (nI px)), (2, .int (if px < i then ct px else 0)), (3, .int (nI i))] 25 [] := by
        intro fu
        induction fu with
        | zero => intro i hi hf; exfalso; omega
        | succ fu ih =>
          intro i hi hf
          refine k_iload_n hJ dX4_status_25 3 rfl ?_
          refine k_bipush (v := nI 7) hJ dX4_status_26 (by decide) ?_
          refine n_icmp_ge (tgt := 59) hJ dX4_status_28 (by decide) (by omega) (by omega) (fun c28 => ?_) (fun c28 => ?_)
          · refine k_iload_n hJ dX4_status_59 2 rfl ?_
            have hi7 : i = 7 := by omega
            have hsp : sp_status (m, k, kf, tp, tl, sb, sz, nu, ct) (nI px) = ((if px < i then ct px else 0), (m, k, kf, tp, tl, sb, sz, nu, ct)) := by simp only [sp_status]; rw [if_pos hc, if_pos (by omega), tN_nI (by omega)]
            exact k_eqw (ws2 := modA g b (sp_status (m, k, kf, tp, tl, sb, sz, nu, ct) (nI px)).2 (fj, mj, fr, to, va, iw, jk, th, ai, ot, mo)) (by rw [hsp]; rfl) (hR _ _ _ (fj, mj, fr, to, va, iw, jk, th, ai, ot, mo) dX4_status_60 (by rw [hsp]))
          · refine k_iload_n hJ dX4_status_31 2 rfl ?_
            refine k_iload_n hJ dX4_status_32 1 rfl ?_
            refine n_if_lt (tgt := 41) hJ dX4_status_33 (by decide) (by omega) (fun c33 => ?_) (fun c33 => ?_)
            · exact absurd c33 (by omega)
            · refine k_iload_n hJ dX4_status_36 3 rfl ?_
              refine k_iload_n hJ dX4_status_37 1 rfl ?_
              refine n_icmp_ne (tgt := 50) hJ dX4_status_38 (by decide) (by omega) (by omega) (fun c38 => ?_) (fun c38 => ?_)
              · refine k_iconst (v := nI 0) hJ dX4_status_50 (by decide) ?_
                refine k_iadd hJ dX4_status_51 ?_
                refine k_istore_n (lv1 := [(0, .ref (b 0)), (1, .int (nI px)), (2, .int ((if px < i then ct px else 0) + (nI 0))), (3, .int (nI i))]) hJ dX4_status_52 (by decide) [1, 2, 0, 3] rfl ?_
                refine n_iinc (b := 1) (lv1 := [(0, .ref (b 0)), (1, .int (nI px)), (2, .int ((if px < i then ct px else 0) + (nI 0))), (3, .int (nI (i + 1)))]) hJ dX4_status_53 3 rfl (by decide) (by decide) [1, 2, 3, 0] rfl ?_
                refine k_goto (tgt := 25) hJ dX4_status_56 (by decide) ?_
                refine k_eql (lv1 := [(0, .ref (b 0)), (1, .int (nI px)), (2, .int (if px < i + 1 then ct px else 0)), (3, .int (nI (i + 1)))]) (by rw [nI_l0, Int32.add_zero]; by_cases q : px < i; rw [if_pos q, if_pos (by omega)]; rw [if_neg q, if_neg (by omega)]) ?_
                exact ih (i + 1) (by omega) (by omega)
              · refine k_aload_n hJ dX4_status_41 0 rfl ?_
                refine gf_X4_22 (v := .ref (b 5)) hJ 0 rfl rfl dX4_status_42 ?_
                refine k_iload_n hJ dX4_status_45 3 rfl ?_
                refine k_iald hJ 4 rfl i (by omega) (by decide) rfl dX4_status_46 ?_
                refine k_goto (tgt := 51) hJ dX4_status_47 (by decide) ?_
                refine k_iadd hJ dX4_status_51 ?_
                refine k_istore_n (lv1 := [(0, .ref (b 0)), (1, .int (nI px)), (2, .int ((if px < i then ct px else 0) + (ct i))), (3, .int (nI i))]) hJ dX4_status_52 (by decide) [1, 2, 0, 3] rfl ?_
                refine n_iinc (b := 1) (lv1 := [(0, .ref (b 0)), (1, .int (nI px)), (2, .int ((if px < i then ct px else 0) + (ct i))), (3, .int (nI (i + 1)))]) hJ dX4_status_53 3 rfl (by decide) (by decide) [1, 2, 3, 0] rfl ?_
                refine k_goto (tgt := 25) hJ dX4_status_56 (by decide) ?_
                refine k_eql (lv1 := [(0, .ref (b 0)), (1, .int (nI px)), (2, .int (if px < i + 1 then ct px else 0)), (3, .int (nI (i + 1)))]) (by rw [if_neg (by omega), if_pos (by omega), Int32.zero_add, c38]) ?_
                exact ih (i + 1) (by omega) (by omega)
      exact L25 8 0 (by omega) (by omega)
  · refine k_aload_n hJ dX4_status_14 0 rfl ?_
    refine k_ldc hJ dX4_status_15 cw_X4_44 ?_
    refine k_eqs (st2 := [.int (kFi 0), .ref (b 0)]) (by rw [kFi_c0]) ?_
    refine c_VI (As := [.int (kFi 0)]) (st := []) hJ (ct_X4_finds l g b (mE kf fj mj tl fr to va iw) m th ai ct (fun i => nI ((if kf then k else jk) i)) ot tp sb sz nu mo 0 (by decide)) (Fr.all rfl) mv_X4_finds ml_X4_68 0 rfl rfl rfl (kRm_ok (by decide) (by decide)) rfl rfl (Nat.le_of_ble_eq_true rfl) dX4_status_17 ?_
    have hsp : sp_status (m, k, kf, tp, tl, sb, sz, nu, ct) x = (kFi 0, (m, k, kf, tp, tl, sb, sz, nu, kTe ct 0)) := by simp only [sp_status]; have q := c11; simp only [Bool.or_eq_false_iff, decide_eq_false_iff_not] at q; rw [if_neg (by rw [q.2]; decide), if_neg q.1]; rfl
    exact k_eqw (ws2 := modA g b (sp_status (m, k, kf, tp, tl, sb, sz, nu, ct) x).2 (fj, mj, fr, to, va, iw, jk, th, ai, ot, mo)) (by rw [hsp]; rfl) (hR _ _ _ (fj, mj, fr, to, va, iw, jk, th, ai, ot, mo) dX4_status_20 (by rw [hsp]))
