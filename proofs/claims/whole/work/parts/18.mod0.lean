/-- the reference's object and its row s; e: its numbers beside (isKept, firstJury, manyJuries, taped, from, to, value, isWrong) -/
def modS (g : KG) (b : Nat → Nat) (e : Nat → Int32) (m : Nat → Nat) : va_W := [(b 0, .inr (4, [.ref (b 1), .ref (b 2), .ref (b 3), .ref (b 4), .ref (b 5), .int (e 0), .ref (b 6), .int (e 1), .int (e 2), .ref (b 7), .int (e 3), .int (e 4), .int (e 5), .int (e 6), .int (e 7), .ref (b 8), .ref (b 9), .ref (b 10), .ref (b 11)])), (b 1, .inl (kI g, 84, .inl (fun i => nI (m i))))]
theorem ms_set (g : KG) (b : Nat → Nat) (e : Nat → Int32) (m : Nat → Nat) (i v : Nat) : (modS g b e m).set 1 (b 1, .inl (kI g, 84, .inl (upd (fun i => nI (m i)) i (nI v)))) = modS g b e (vUp m i v) := by
  have h : upd (fun i => nI (m i)) i (nI v) = fun j => nI (vUp m i v j) := by
    funext j
    by_cases e : j = i
    · rw [e, pk_us, vUp_s]
    · rw [pk_un e, vUp_ne e]
  rw [h]
  rfl
def vInL (v lo hi : Int64) : Bool := if v < lo then false else if hi < v then false else true
theorem lg_lt {x y : Int64} : lg_cmp x y < 0 ↔ x < y := by
  unfold lg_cmp
  by_cases h : x > y
  · rw [if_pos h]
    exact ⟨fun q => absurd q (by decide), fun q => absurd (Int64.lt_trans q h) (Int64.lt_irrefl)⟩
  · rw [if_neg h]
    by_cases h2 : x = y
    · rw [if_pos h2, h2]
      exact ⟨fun q => absurd q (by decide), fun q => absurd q (Int64.lt_irrefl)⟩
    · rw [if_neg h2]
      exact ⟨fun _ => by rcases Int64.lt_or_lt_of_ne h2 with q | q; exact q; exact absurd q h, fun _ => by decide⟩
theorem lg_gt {x y : Int64} : 0 < lg_cmp x y ↔ y < x := by
  unfold lg_cmp
  by_cases h : x > y
  · rw [if_pos h]
    exact ⟨fun _ => h, fun _ => by decide⟩
  · rw [if_neg h]
    by_cases h2 : x = y
    · rw [if_pos h2]
      exact ⟨fun q => absurd q (by decide), fun q => absurd q h⟩
    · rw [if_neg h2]
      exact ⟨fun q => absurd q (by decide), fun q => absurd q h⟩
theorem lg_eq {x y : Int64} : lg_cmp x y = 0 ↔ x = y := by
  unfold lg_cmp
  by_cases h : x > y
  · rw [if_pos h]
    exact ⟨fun q => absurd q (by decide), fun q => absurd h (by rw [q]; exact Int64.lt_irrefl)⟩
  · rw [if_neg h]
    by_cases h2 : x = y
    · rw [if_pos h2]
      exact ⟨fun _ => h2, fun _ => rfl⟩
    · rw [if_neg h2]
      exact ⟨fun q => absurd q (by decide), fun q => absurd q h2⟩
theorem w_lt (a b : Int32) : a.toInt64 < b.toInt64 ↔ a < b := by rw [Int64.lt_iff_toInt_lt, Int32.lt_iff_toInt_lt, Int32.toInt_toInt64, Int32.toInt_toInt64]
theorem vInL_in {x : Int32} {n : Nat} (h0 : 0 < n) (hn : n < 2 ^ 31) {hi : Int64} (hh : hi = (nI (n - 1)).toInt64) : vInL x.toInt64 0 hi = vIn x n := by
  have e0 : (0 : Int64) = (0 : Int32).toInt64 := by decide
  unfold vInL vIn
  rw [e0, hh]
  simp only [w_lt]
  by_cases h : x < 0
  · rw [if_pos h, if_pos h]
  · rw [if_neg h, if_neg h]
    obtain ⟨j, hj, rfl⟩ := nI_of h
    by_cases h2 : n ≤ j
    · rw [if_pos (nI_lt (by omega) hj), if_pos (nI_le h2 hj)]
    · rw [if_neg (nI_nlt (by omega) (by omega)), if_neg (nI_ge (by omega) hn)]
theorem vInL_pp {x : Int32} {n : Nat} (hn : n < 2 ^ 30) : vInL x.toInt64 0 (nI n - nI 1).toInt64 = vIn x n := by
  rcases Nat.eq_zero_or_pos n with h | h
  · subst h
    have e0 : (0 : Int64) = (0 : Int32).toInt64 := by decide
    have e1 : nI 0 - nI 1 = (-1 : Int32) := by decide
    unfold vInL vIn
    rw [e0, e1]
    simp only [w_lt]
    by_cases h : x < 0
    · rw [if_pos h, if_pos h]
    · rw [if_neg h, if_neg h]
      obtain ⟨j, hj, rfl⟩ := nI_of h
      have : (-1 : Int32) < nI j := by rw [Int32.lt_iff_toInt_lt, nI_toInt hj]; exact Int.lt_of_lt_of_le (by decide) (Int.natCast_nonneg j)
      rw [if_pos this, if_pos (by exact nI_le (Nat.zero_le j) hj)]
  · exact vInL_in h (by omega) (by rw [pk_sub h])
theorem nI_sub_nn {a b : Nat} (ha : a < 2 ^ 30) (hb : b < 2 ^ 30) : 0 ≤ nI a - nI b ↔ b ≤ a := by
  rw [Int32.le_iff_toInt_le, pk_sub_toInt ha hb]
  show (0 : Int) ≤ _ ↔ _
  omega
theorem nI_sub_np {a b : Nat} (ha : a < 2 ^ 30) (hb : b < 2 ^ 30) : nI a - nI b ≤ 0 ↔ a ≤ b := by
  rw [Int32.le_iff_toInt_le, pk_sub_toInt ha hb]
  show _ ≤ (0 : Int) ↔ _
  omega
set_option maxHeartbeats 4000000 in
set_option maxRecDepth 100000 in
theorem ct_X4_in (l : Launch) (g : KG) (v lo hi : Int64)  : CI l yX4_in cX4_in 6 (some .boolean) (rmK 0) g [.long v, .long lo, .long hi] ([]) (kb (vInL v lo hi)) ([]) := by
  refine k_bodyI (by decide) (Nat.le_of_ble_eq_true rfl) (fun _ _ h => by rw [h]; exact kb_nar _) (fun J hJ hR => ?_)
  show J ([]) [(0, .long v), (2, .long lo), (4, .long hi)] 0 []
  refine k_lload_n hJ dX4_in_0 0 rfl ?_
  refine k_lload_n hJ dX4_in_1 1 rfl ?_
  refine k_lcmp hJ dX4_in_2 ?_
  refine k_if_lt (tgt := 17) hJ dX4_in_3 (by decide) (fun c3 => ?_) (fun c3 => ?_)
  · rw [lg_lt] at c3
    refine k_iconst (v := nI 0) hJ dX4_in_17 (by decide) ?_
    exact hR _ _ _ () dX4_in_18 (by unfold vInL; simp only [c3, if_true, if_false]; rfl)
  · rw [lg_lt] at c3
    refine k_lload_n hJ dX4_in_6 0 rfl ?_
    refine k_lload hJ dX4_in_7 2 rfl ?_
    refine k_lcmp hJ dX4_in_9 ?_
    refine k_if_gt (tgt := 17) hJ dX4_in_10 (by decide) (fun c10 => ?_) (fun c10 => ?_)
    · rw [lg_gt] at c10
      refine k_iconst (v := nI 0) hJ dX4_in_17 (by decide) ?_
      exact hR _ _ _ () dX4_in_18 (by unfold vInL; simp only [c3, c10, if_true, if_false]; rfl)
    · rw [lg_gt] at c10
      refine k_iconst (v := nI 1) hJ dX4_in_13 (by decide) ?_
      refine k_goto (tgt := 18) hJ dX4_in_14 (by decide) ?_
      exact hR _ _ _ () dX4_in_18 (by unfold vInL; simp only [c3, c10, if_true, if_false]; rfl)
set_option maxHeartbeats 4000000 in
set_option maxRecDepth 100000 in
theorem ct_X4_isPlace (l : Launch) (g : KG) (x : Int32)  : CI l yX4_isPlace cX4_isPlace 1 (some .boolean) (rmK 1) g [.int x] ([]) (kb (vIn x 48)) ([]) := by
  refine k_bodyI (by decide) (Nat.le_of_ble_eq_true rfl) (fun _ _ h => by rw [h]; exact kb_nar _) (fun J hJ hR => ?_)
  show J ([]) [(0, .int x)] 0 []
  refine k_iload_n hJ dX4_isPlace_0 0 rfl ?_
  refine k_i2l hJ dX4_isPlace_1 rfl ?_
  refine k_lconst (v := 0) hJ dX4_isPlace_2 (by decide) ?_
  refine k_ldc2 hJ dX4_isPlace_3 cw_X4_45 ?_
  refine c_SI (As := [.long x.toInt64, .long 0, .long 47]) (st := []) hJ (ct_X4_in l g x.toInt64 0 47 ) Fr.none ms_X4_in ml_X4_47 (kRm_ok (by decide) (by decide)) rfl rfl (Nat.le_of_ble_eq_true rfl) dX4_isPlace_6 ?_
  exact hR _ _ _ () dX4_isPlace_9 (by rw [vInL_in (n := 48) (by decide) (by decide) (by decide)])
set_option maxHeartbeats 4000000 in
set_option maxRecDepth 100000 in
theorem ct_X4_isKind (l : Launch) (g : KG) (x : Int32)  : CI l yX4_isKind cX4_isKind 1 (some .boolean) (rmK 1) g [.int x] ([]) (kb (vIn x 6)) ([]) := by
  refine k_bodyI (by decide) (Nat.le_of_ble_eq_true rfl) (fun _ _ h => by rw [h]; exact kb_nar _) (fun J hJ hR => ?_)
  show J ([]) [(0, .int x)] 0 []
  refine k_iload_n hJ dX4_isKind_0 0 rfl ?_
  refine k_i2l hJ dX4_isKind_1 rfl ?_
  refine k_lconst (v := 0) hJ dX4_isKind_2 (by decide) ?_
  refine k_ldc2 hJ dX4_isKind_3 cw_X4_55 ?_
  refine c_SI (As := [.long x.toInt64, .long 0, .long 5]) (st := []) hJ (ct_X4_in l g x.toInt64 0 5 ) Fr.none ms_X4_in ml_X4_47 (kRm_ok (by decide) (by decide)) rfl rfl (Nat.le_of_ble_eq_true rfl) dX4_isKind_6 ?_
  exact hR _ _ _ () dX4_isKind_9 (by rw [vInL_in (n := 6) (by decide) (by decide) (by decide)])
set_option maxHeartbeats 4000000 in
set_option maxRecDepth 100000 in
theorem ct_X4_isDeed (l : Launch) (g : KG) (x : Int32)  : CI l yX4_isDeed cX4_isDeed 1 (some .boolean) (rmK 1) g [.int x] ([]) (kb (vIn x 6)) ([]) := by
  refine k_bodyI (by decide) (Nat.le_of_ble_eq_true rfl) (fun _ _ h => by rw [h]; exact kb_nar _) (fun J hJ hR => ?_)
  show J ([]) [(0, .int x)] 0 []
  refine k_iload_n hJ dX4_isDeed_0 0 rfl ?_
  refine k_i2l hJ dX4_isDeed_1 rfl ?_
  refine k_lconst (v := 0) hJ dX4_isDeed_2 (by decide) ?_
  refine k_ldc2 hJ dX4_isDeed_3 cw_X4_55 ?_
  refine c_SI (As := [.long x.toInt64, .long 0, .long 5]) (st := []) hJ (ct_X4_in l g x.toInt64 0 5 ) Fr.none ms_X4_in ml_X4_47 (kRm_ok (by decide) (by decide)) rfl rfl (Nat.le_of_ble_eq_true rfl) dX4_isDeed_6 ?_
  exact hR _ _ _ () dX4_isDeed_9 (by rw [vInL_in (n := 6) (by decide) (by decide) (by decide)])
set_option maxHeartbeats 4000000 in
set_option maxRecDepth 100000 in
theorem ct_X4_isPerson (l : Launch) (g : KG) (b : Nat → Nat) (e : Nat → Int32) (m : Nat → Nat) (x : Int32)  (h0 : m 0 ≤ 8) : CI l yX4_isPerson cX4_isPerson 2 (some .boolean) (rmK 1) g [.ref (b 0), .int x] (modS g b e m) (kb (vIn x (m 0))) (modS g b e m) := by
  refine k_bodyI (by decide) (Nat.le_of_ble_eq_true rfl) (fun _ _ h => by rw [h]; exact kb_nar _) (fun J hJ hR => ?_)
  show J (modS g b e m) [(0, .ref (b 0)), (1, .int x)] 0 []
  refine k_iload_n hJ dX4_isPerson_0 1 rfl ?_
  refine k_i2l hJ dX4_isPerson_1 rfl ?_
  refine k_lconst (v := 0) hJ dX4_isPerson_2 (by decide) ?_
  refine k_aload_n hJ dX4_isPerson_3 0 rfl ?_
  refine gf_X4_7 hJ 0 rfl rfl dX4_isPerson_4 ?_
  refine k_iconst (v := nI 0) hJ dX4_isPerson_7 (by decide) ?_
  refine k_iald hJ 1 rfl 0 (by omega) (by decide) rfl dX4_isPerson_8 ?_
  refine k_iconst (v := nI 1) hJ dX4_isPerson_9 (by decide) ?_
  refine k_isub hJ dX4_isPerson_10 ?_
  refine k_i2l hJ dX4_isPerson_11 rfl ?_
  refine c_SI (As := [.long x.toInt64, .long 0, .long (((nI (m 0)) - (nI 1)).toInt64)]) (st := []) hJ (ct_X4_in l g x.toInt64 0 (((nI (m 0)) - (nI 1)).toInt64) ) Fr.none ms_X4_in ml_X4_47 (kRm_ok (by decide) (by decide)) rfl rfl (Nat.le_of_ble_eq_true rfl) dX4_isPerson_12 ?_
  exact hR _ _ _ () dX4_isPerson_15 (by rw [vInL_pp (by omega)])
set_option maxHeartbeats 4000000 in
set_option maxRecDepth 100000 in
theorem ct_X4_areTwo (l : Launch) (g : KG) (b : Nat → Nat) (e : Nat → Int32) (m : Nat → Nat) (x y : Int32)  (h0 : m 0 ≤ 8) : CI l yX4_areTwo cX4_areTwo 3 (some .boolean) (rmK 2) g [.ref (b 0), .int x, .int y] (modS g b e m) (kb (vTwo x y (m 0))) (modS g b e m) := by
  refine k_bodyI (by decide) (Nat.le_of_ble_eq_true rfl) (fun _ _ h => by rw [h]; exact kb_nar _) (fun J hJ hR => ?_)
  show J (modS g b e m) [(0, .ref (b 0)), (1, .int x), (2, .int y)] 0 []
  refine k_aload_n hJ dX4_areTwo_0 0 rfl ?_
  refine k_iload_n hJ dX4_areTwo_1 1 rfl ?_
  refine c_VI (As := [.int x]) (st := []) hJ (ct_X4_isPerson l g b e m x (by omega)) (Fr.all rfl) mv_X4_isPerson ml_X4_51 0 rfl rfl rfl (kRm_ok (by decide) (by decide)) rfl rfl (Nat.le_of_ble_eq_true rfl) dX4_areTwo_2 ?_
  refine b_if_eq (tgt := 25) hJ dX4_areTwo_5 (by decide) (fun c5 => ?_) (fun c5 => ?_)
  · refine k_iconst (v := nI 0) hJ dX4_areTwo_25 (by decide) ?_
    exact hR _ _ _ () dX4_areTwo_26 (by unfold vTwo; simp only [c5]; rfl)
  · refine k_aload_n hJ dX4_areTwo_8 0 rfl ?_
    refine k_iload_n hJ dX4_areTwo_9 2 rfl ?_
    refine c_VI (As := [.int y]) (st := []) hJ (ct_X4_isPerson l g b e m y (by omega)) (Fr.all rfl) mv_X4_isPerson ml_X4_51 0 rfl rfl rfl (kRm_ok (by decide) (by decide)) rfl rfl (Nat.le_of_ble_eq_true rfl) dX4_areTwo_10 ?_
    refine b_if_eq (tgt := 25) hJ dX4_areTwo_13 (by decide) (fun c13 => ?_) (fun c13 => ?_)
    · refine k_iconst (v := nI 0) hJ dX4_areTwo_25 (by decide) ?_
      exact hR _ _ _ () dX4_areTwo_26 (by unfold vTwo; simp only [c5, c13]; rfl)
    · refine k_iload_n hJ dX4_areTwo_16 1 rfl ?_
      refine k_iload_n hJ dX4_areTwo_17 2 rfl ?_
      refine k_icmp_eq (tgt := 25) hJ dX4_areTwo_18 (by decide) (fun (c18 : x = y) => ?_) (fun (c18 : ¬ x = y) => ?_)
      · refine k_iconst (v := nI 0) hJ dX4_areTwo_25 (by decide) ?_
        exact hR _ _ _ () dX4_areTwo_26 (by unfold vTwo; simp only [c5, c13, c18]; rfl)
      · refine k_iconst (v := nI 1) hJ dX4_areTwo_21 (by decide) ?_
        refine k_goto (tgt := 26) hJ dX4_areTwo_22 (by decide) ?_
        exact hR _ _ _ () dX4_areTwo_26 (by unfold vTwo; simp only [c5, c13, c18]; rfl)
set_option maxHeartbeats 4000000 in
set_option maxRecDepth 100000 in
theorem ct_X4_spot (l : Launch) (g : KG) (p w : Nat)  : CI l yX4_spot cX4_spot 2 (some .int) (rmK 0) g [.int (nI p), .int (nI w)] ([]) (nI (4 + 10 * p + w)) ([]) := by
  refine k_bodyI (by decide) (Nat.le_of_ble_eq_true rfl) (fun _ _ _ => rfl) (fun J hJ hR => ?_)
  show J ([]) [(0, .int (nI p)), (1, .int (nI w))] 0 []
  refine k_iconst (v := nI 4) hJ dX4_spot_0 (by decide) ?_
  refine k_bipush (v := nI 10) hJ dX4_spot_1 (by decide) ?_
  refine k_iload_n hJ dX4_spot_3 0 rfl ?_
  refine n_imul hJ dX4_spot_4 ?_
  refine n_iadd hJ dX4_spot_5 ?_
  refine k_iload_n hJ dX4_spot_6 1 rfl ?_
  refine n_iadd hJ dX4_spot_7 ?_
  exact hR _ _ _ () dX4_spot_8 rfl
set_option maxHeartbeats 4000000 in
set_option maxRecDepth 100000 in
theorem ct_X4_its (l : Launch) (g : KG) (b : Nat → Nat) (e : Nat → Int32) (m : Nat → Nat) (p w : Nat)  (hp : p < 8) (hw : w < 10) : CI l yX4_its cX4_its 3 (some .int) (rmK 1) g [.ref (b 0), .int (nI p), .int (nI w)] (modS g b e m) (nI (m (4 + 10 * p + w))) (modS g b e m) := by
  refine k_bodyI (by decide) (Nat.le_of_ble_eq_true rfl) (fun _ _ _ => rfl) (fun J hJ hR => ?_)
  show J (modS g b e m) [(0, .ref (b 0)), (1, .int (nI p)), (2, .int (nI w))] 0 []
  refine k_aload_n hJ dX4_its_0 0 rfl ?_
  refine gf_X4_7 hJ 0 rfl rfl dX4_its_1 ?_
  refine k_iload_n hJ dX4_its_4 1 rfl ?_
  refine k_iload_n hJ dX4_its_5 2 rfl ?_
  refine c_SI (As := [.int (nI p), .int (nI w)]) (st := [.ref (b 1)]) hJ (ct_X4_spot l g p w ) Fr.none ms_X4_spot ml_X4_57 (kRm_ok (by decide) (by decide)) rfl rfl (Nat.le_of_ble_eq_true rfl) dX4_its_6 ?_
  refine k_iald hJ 1 rfl (4 + 10 * p + w) (by omega) (by decide) rfl dX4_its_9 ?_
  exact hR _ _ _ () dX4_its_10 rfl
set_option maxHeartbeats 4000000 in
set_option maxRecDepth 100000 in
theorem ct_X4_becomes (l : Launch) (g : KG) (b : Nat → Nat) (e : Nat → Int32) (m : Nat → Nat) (i v : Nat)  (hi : i < 84) : CI l yX4_becomes cX4_becomes 4 (some .int) (rmK 0) g [.ref (b 0), .int (nI i), .int (nI v)] (modS g b e m) (nI (m i)) (modS g b e (vUp m i v)) := by
  refine k_bodyI (by decide) (Nat.le_of_ble_eq_true rfl) (fun _ _ _ => rfl) (fun J hJ hR => ?_)
  show J (modS g b e m) [(0, .ref (b 0)), (1, .int (nI i)), (2, .int (nI v))] 0 []
  refine k_aload_n hJ dX4_becomes_0 0 rfl ?_
  refine gf_X4_7 hJ 0 rfl rfl dX4_becomes_1 ?_
  refine k_iload_n hJ dX4_becomes_4 1 rfl ?_
  refine k_iald hJ 1 rfl i (by omega) (by decide) rfl dX4_becomes_5 ?_
  refine k_istore_n (lv1 := [(0, .ref (b 0)), (1, .int (nI i)), (2, .int (nI v)), (3, .int (nI (m i)))]) hJ dX4_becomes_6 (by decide) [1, 2, 3, 0] rfl ?_
  refine k_aload_n hJ dX4_becomes_7 0 rfl ?_
  refine gf_X4_7 hJ 0 rfl rfl dX4_becomes_8 ?_
  refine k_iload_n hJ dX4_becomes_11 1 rfl ?_
  refine k_iload_n hJ dX4_becomes_12 2 rfl ?_
  refine k_iast hJ 1 rfl i (by omega) (by decide) (ms_set g b e m i v) dX4_becomes_13 ?_
  refine k_iload_n hJ dX4_becomes_14 3 rfl ?_
  exact hR _ _ _ () dX4_becomes_15 rfl
set_option maxHeartbeats 4000000 in
set_option maxRecDepth 100000 in
theorem ct_X4_givesOff (l : Launch) (g : KG) (b : Nat → Nat) (e : Nat → Int32) (m : Nat → Nat) (p d : Nat)  {B : Nat} (hB : B < 2 ^ 30) (hm : vOk B m) (hp : p < 8) (hd : d < 6) : CI l yX4_givesOff cX4_givesOff 6 (some .int) (rmK 2) g [.ref (b 0), .int (nI p), .int (nI d)] (modS g b e m) (nI (vGives m p d)) (modS g b e m) := by
  refine k_bodyI (by decide) (Nat.le_of_ble_eq_true rfl) (fun _ _ _ => rfl) (fun J hJ hR => ?_)
  have h1 := hm.2.1
  show J (modS g b e m) [(0, .ref (b 0)), (1, .int (nI p)), (2, .int (nI d))] 0 []
  refine k_aload_n hJ dX4_givesOff_0 0 rfl ?_
  refine k_iload_n hJ dX4_givesOff_1 1 rfl ?_
  refine k_iconst (v := nI 4) hJ dX4_givesOff_2 (by decide) ?_
  refine k_iload_n hJ dX4_givesOff_3 2 rfl ?_
  refine n_iadd hJ dX4_givesOff_4 ?_
  refine c_VI (As := [.int (nI p), .int (nI (4 + d))]) (st := []) hJ (ct_X4_its l g b e m p (4 + d) (by omega) (by omega)) (Fr.all rfl) mv_X4_its ml_X4_82 0 rfl rfl rfl (kRm_ok (by decide) (by decide)) rfl rfl (Nat.le_of_ble_eq_true rfl) dX4_givesOff_5 ?_
  have hb5 : m (4 + 10 * p + (4 + d)) ≤ 99 := hm.sc (show p < 8 by omega) (show d < 6 by omega)
  refine k_istore_n (lv1 := [(0, .ref (b 0)), (1, .int (nI p)), (2, .int (nI d)), (3, .int (nI (m (4 + 10 * p + (4 + d)))))]) hJ dX4_givesOff_8 (by decide) [1, 2, 3, 0] rfl ?_
  refine k_iload_n hJ dX4_givesOff_9 3 rfl ?_
  refine k_bipush (v := nI 10) hJ dX4_givesOff_10 (by decide) ?_
  refine n_icmp_ge (tgt := 19) hJ dX4_givesOff_12 (by decide) (by omega) (by omega) (fun c12 => ?_) (fun c12 => ?_)
  · refine k_iload_n hJ dX4_givesOff_19 3 rfl ?_
    refine k_bipush (v := nI 10) hJ dX4_givesOff_20 (by decide) ?_
    refine n_isub hJ dX4_givesOff_22 (by omega) ?_
    refine k_istore (lv1 := [(0, .ref (b 0)), (1, .int (nI p)), (2, .int (nI d)), (3, .int (nI (m (4 + 10 * p + (4 + d))))), (4, .int (nI ((m (4 + 10 * p + (4 + d))) - 10)))]) hJ dX4_givesOff_23 (by decide) [1, 2, 3, 4, 0] rfl ?_
    refine k_iload_n hJ dX4_givesOff_25 3 rfl ?_
    refine k_iload_n hJ dX4_givesOff_26 3 rfl ?_
    refine k_iconst (v := nI 2) hJ dX4_givesOff_27 (by decide) ?_
    refine n_idiv hJ dX4_givesOff_28 (by omega) (by omega) (by omega) ?_
    refine n_iadd hJ dX4_givesOff_29 ?_
    refine k_istore (lv1 := [(0, .ref (b 0)), (1, .int (nI p)), (2, .int (nI d)), (3, .int (nI (m (4 + 10 * p + (4 + d))))), (4, .int (nI ((m (4 + 10 * p + (4 + d))) - 10))), (5, .int (nI ((m (4 + 10 * p + (4 + d))) + ((m (4 + 10 * p + (4 + d))) / 2))))]) hJ dX4_givesOff_30 (by decide) [1, 2, 3, 4, 5, 0] rfl ?_
    refine k_aload_n hJ dX4_givesOff_32 0 rfl ?_
    refine k_iload_n hJ dX4_givesOff_33 1 rfl ?_
    refine k_iconst (v := nI 0) hJ dX4_givesOff_34 (by decide) ?_
    refine c_VI (As := [.int (nI p), .int (nI 0)]) (st := []) hJ (ct_X4_its l g b e m p 0 (by omega) (by omega)) (Fr.all rfl) mv_X4_its ml_X4_82 0 rfl rfl rfl (kRm_ok (by decide) (by decide)) rfl rfl (Nat.le_of_ble_eq_true rfl) dX4_givesOff_35 ?_
    have hb35 : m (4 + 10 * p + 0) ≤ 5 := hm.kd (show p < 8 by omega)
    rcases (show (m (4 + 10 * p + 0)) = 0 ∨ (m (4 + 10 * p + 0)) = 1 ∨ (m (4 + 10 * p + 0)) = 2 ∨ (m (4 + 10 * p + 0)) = 3 ∨ (m (4 + 10 * p + 0)) = 4 ∨ (m (4 + 10 * p + 0)) = 5 from by omega) with c38 | c38 | c38 | c38 | c38 | c38
    · refine n_tabOut (tgt := 124) hJ dX4_givesOff_38 (by omega) (by omega) (by decide) ?_
      refine k_iload_n hJ dX4_givesOff_124 3 rfl ?_
      exact hR _ _ _ () dX4_givesOff_125 (by refine congrArg nI ?_; unfold vGives; (try simp only [vKd, vPl, vNs, vCd, vSc]); (repeat' split) <;> first | rfl | omega)
    · refine n_tabIn (c := 1) (tgt := 72) hJ dX4_givesOff_38 c38 (by decide) (by decide) (by decide) rfl (by decide) ?_
      refine k_iload_n hJ dX4_givesOff_72 2 rfl ?_
      refine n_if_ne (tgt := 80) hJ dX4_givesOff_73 (by decide) (by omega) (fun c73 => ?_) (fun c73 => ?_)
      · refine k_iload_n hJ dX4_givesOff_80 3 rfl ?_
        exact hR _ _ _ () dX4_givesOff_81 (by refine congrArg nI ?_; unfold vGives; (try simp only [vKd, vPl, vNs, vCd, vSc]); (repeat' split) <;> first | rfl | omega)
      · refine k_iconst (v := nI 0) hJ dX4_givesOff_76 (by decide) ?_
        refine k_goto (tgt := 81) hJ dX4_givesOff_77 (by decide) ?_
        exact hR _ _ _ () dX4_givesOff_81 (by refine congrArg nI ?_; unfold vGives; (try simp only [vKd, vPl, vNs, vCd, vSc]); (repeat' split) <;> first | rfl | omega)
    · refine n_tabIn (c := 2) (tgt := 82) hJ dX4_givesOff_38 c38 (by decide) (by decide) (by decide) rfl (by decide) ?_
      refine k_iload hJ dX4_givesOff_82 4 rfl ?_
      exact hR _ _ _ () dX4_givesOff_84 (by refine congrArg nI ?_; unfold vGives; (try simp only [vKd, vPl, vNs, vCd, vSc]); (repeat' split) <;> first | rfl | omega)
    · refine n_tabIn (c := 3) (tgt := 85) hJ dX4_givesOff_38 c38 (by decide) (by decide) (by decide) rfl (by decide) ?_
      refine k_iload hJ dX4_givesOff_85 5 rfl ?_
      exact hR _ _ _ () dX4_givesOff_87 (by refine congrArg nI ?_; unfold vGives; (try simp only [vKd, vPl, vNs, vCd, vSc]); (repeat' split) <;> first | rfl | omega)
    · refine n_tabIn (c := 4) (tgt := 88) hJ dX4_givesOff_38 c38 (by decide) (by decide) (by decide) rfl (by decide) ?_
      refine k_aload_n hJ dX4_givesOff_88 0 rfl ?_
      refine gf_X4_7 hJ 0 rfl rfl dX4_givesOff_89 ?_
      refine k_iconst (v := nI 1) hJ dX4_givesOff_92 (by decide) ?_
      refine k_iald hJ 1 rfl 1 (by omega) (by decide) rfl dX4_givesOff_93 ?_
      refine k_iconst (v := nI 2) hJ dX4_givesOff_94 (by decide) ?_
      refine n_irem hJ dX4_givesOff_95 (by omega) (by omega) (by omega) ?_
      refine n_if_ne (tgt := 106) hJ dX4_givesOff_96 (by decide) (by omega) (fun c96 => ?_) (fun c96 => ?_)
      · refine k_iload hJ dX4_givesOff_106 4 rfl ?_
        exact hR _ _ _ () dX4_givesOff_108 (by refine congrArg nI ?_; unfold vGives; (try simp only [vKd, vPl, vNs, vCd, vSc]); (repeat' split) <;> first | rfl | omega)
      · refine k_iload hJ dX4_givesOff_99 4 rfl ?_
        refine k_iconst (v := nI 2) hJ dX4_givesOff_101 (by decide) ?_
        refine n_idiv hJ dX4_givesOff_102 (by omega) (by omega) (by omega) ?_
        refine k_goto (tgt := 108) hJ dX4_givesOff_103 (by decide) ?_
        exact hR _ _ _ () dX4_givesOff_108 (by refine congrArg nI ?_; unfold vGives; (try simp only [vKd, vPl, vNs, vCd, vSc]); (repeat' split) <;> first | rfl | omega)
    · refine n_tabIn (c := 5) (tgt := 109) hJ dX4_givesOff_38 c38 (by decide) (by decide) (by decide) rfl (by decide) ?_
      refine k_iload hJ dX4_givesOff_109 5 rfl ?_
      refine k_iconst (v := nI 5) hJ dX4_givesOff_111 (by decide) ?_
      refine n_icmp_ge (tgt := 119) hJ dX4_givesOff_112 (by decide) (by omega) (by omega) (fun c112 => ?_) (fun c112 => ?_)
      · refine k_iload hJ dX4_givesOff_119 5 rfl ?_
        refine k_iconst (v := nI 5) hJ dX4_givesOff_121 (by decide) ?_
        refine n_isub hJ dX4_givesOff_122 (by omega) ?_
        exact hR _ _ _ () dX4_givesOff_123 (by refine congrArg nI ?_; unfold vGives; (try simp only [vKd, vPl, vNs, vCd, vSc]); (repeat' split) <;> first | rfl | omega)
      · refine k_iconst (v := nI 0) hJ dX4_givesOff_115 (by decide) ?_
        refine k_goto (tgt := 123) hJ dX4_givesOff_116 (by decide) ?_
        exact hR _ _ _ () dX4_givesOff_123 (by refine congrArg nI ?_; unfold vGives; (try simp only [vKd, vPl, vNs, vCd, vSc]); (repeat' split) <;> first | rfl | omega)
  · refine k_iconst (v := nI 0) hJ dX4_givesOff_15 (by decide) ?_
    refine k_goto (tgt := 23) hJ dX4_givesOff_16 (by decide) ?_
    refine k_istore (lv1 := [(0, .ref (b 0)), (1, .int (nI p)), (2, .int (nI d)), (3, .int (nI (m (4 + 10 * p + (4 + d))))), (4, .int (nI 0))]) hJ dX4_givesOff_23 (by decide) [1, 2, 3, 4, 0] rfl ?_
    refine k_iload_n hJ dX4_givesOff_25 3 rfl ?_
    refine k_iload_n hJ dX4_givesOff_26 3 rfl ?_
    refine k_iconst (v := nI 2) hJ dX4_givesOff_27 (by decide) ?_
    refine n_idiv hJ dX4_givesOff_28 (by omega) (by omega) (by omega) ?_
    refine n_iadd hJ dX4_givesOff_29 ?_
    refine k_istore (lv1 := [(0, .ref (b 0)), (1, .int (nI p)), (2, .int (nI d)), (3, .int (nI (m (4 + 10 * p + (4 + d))))), (4, .int (nI 0)), (5, .int (nI ((m (4 + 10 * p + (4 + d))) + ((m (4 + 10 * p + (4 + d))) / 2))))]) hJ dX4_givesOff_30 (by decide) [1, 2, 3, 4, 5, 0] rfl ?_
    refine k_aload_n hJ dX4_givesOff_32 0 rfl ?_
    refine k_iload_n hJ dX4_givesOff_33 1 rfl ?_
    refine k_iconst (v := nI 0) hJ dX4_givesOff_34 (by decide) ?_
    refine c_VI (As := [.int (nI p), .int (nI 0)]) (st := []) hJ (ct_X4_its l g b e m p 0 (by omega) (by omega)) (Fr.all rfl) mv_X4_its ml_X4_82 0 rfl rfl rfl (kRm_ok (by decide) (by decide)) rfl rfl (Nat.le_of_ble_eq_true rfl) dX4_givesOff_35 ?_
    have hb35 : m (4 + 10 * p + 0) ≤ 5 := hm.kd (show p < 8 by omega)
    rcases (show (m (4 + 10 * p + 0)) = 0 ∨ (m (4 + 10 * p + 0)) = 1 ∨ (m (4 + 10 * p + 0)) = 2 ∨ (m (4 + 10 * p + 0)) = 3 ∨ (m (4 + 10 * p + 0)) = 4 ∨ (m (4 + 10 * p + 0)) = 5 from by omega) with c38 | c38 | c38 | c38 | c38 | c38
    · refine n_tabOut (tgt := 124) hJ dX4_givesOff_38 (by omega) (by omega) (by decide) ?_
      refine k_iload_n hJ dX4_givesOff_124 3 rfl ?_
      exact hR _ _ _ () dX4_givesOff_125 (by refine congrArg nI ?_; unfold vGives; (try simp only [vKd, vPl, vNs, vCd, vSc]); (repeat' split) <;> first | rfl | omega)
    · refine n_tabIn (c := 1) (tgt := 72) hJ dX4_givesOff_38 c38 (by decide) (by decide) (by decide) rfl (by decide) ?_
      refine k_iload_n hJ dX4_givesOff_72 2 rfl ?_
      refine n_if_ne (tgt := 80) hJ dX4_givesOff_73 (by decide) (by omega) (fun c73 => ?_) (fun c73 => ?_)
      · refine k_iload_n hJ dX4_givesOff_80 3 rfl ?_
        exact hR _ _ _ () dX4_givesOff_81 (by refine congrArg nI ?_; unfold vGives; (try simp only [vKd, vPl, vNs, vCd, vSc]); (repeat' split) <;> first | rfl | omega)
      · refine k_iconst (v := nI 0) hJ dX4_givesOff_76 (by decide) ?_
        refine k_goto (tgt := 81) hJ dX4_givesOff_77 (by decide) ?_
        exact hR _ _ _ () dX4_givesOff_81 (by refine congrArg nI ?_; unfold vGives; (try simp only [vKd, vPl, vNs, vCd, vSc]); (repeat' split) <;> first | rfl | omega)
    · refine n_tabIn (c := 2) (tgt := 82) hJ dX4_givesOff_38 c38 (by decide) (by decide) (by decide) rfl (by decide) ?_
      refine k_iload hJ dX4_givesOff_82 4 rfl ?_
      exact hR _ _ _ () dX4_givesOff_84 (by refine congrArg nI ?_; unfold vGives; (try simp only [vKd, vPl, vNs, vCd, vSc]); (repeat' split) <;> first | rfl | omega)
    · refine n_tabIn (c := 3) (tgt := 85) hJ dX4_givesOff_38 c38 (by decide) (by decide) (by decide) rfl (by decide) ?_
      refine k_iload hJ dX4_givesOff_85 5 rfl ?_
      exact hR _ _ _ () dX4_givesOff_87 (by refine congrArg nI ?_; unfold vGives; (try simp only [vKd, vPl, vNs, vCd, vSc]); (repeat' split) <;> first | rfl | omega)
    · refine n_tabIn (c := 4) (tgt := 88) hJ dX4_givesOff_38 c38 (by decide) (by decide) (by decide) rfl (by decide) ?_
      refine k_aload_n hJ dX4_givesOff_88 0 rfl ?_
      refine gf_X4_7 hJ 0 rfl rfl dX4_givesOff_89 ?_
      refine k_iconst (v := nI 1) hJ dX4_givesOff_92 (by decide) ?_
      refine k_iald hJ 1 rfl 1 (by omega) (by decide) rfl dX4_givesOff_93 ?_
      refine k_iconst (v := nI 2) hJ dX4_givesOff_94 (by decide) ?_
      refine n_irem hJ dX4_givesOff_95 (by omega) (by omega) (by omega) ?_
      refine n_if_ne (tgt := 106) hJ dX4_givesOff_96 (by decide) (by omega) (fun c96 => ?_) (fun c96 => ?_)
      · refine k_iload hJ dX4_givesOff_106 4 rfl ?_
        exact hR _ _ _ () dX4_givesOff_108 (by refine congrArg nI ?_; unfold vGives; (try simp only [vKd, vPl, vNs, vCd, vSc]); (repeat' split) <;> first | rfl | omega)
      · refine k_iload hJ dX4_givesOff_99 4 rfl ?_
        refine k_iconst (v := nI 2) hJ dX4_givesOff_101 (by decide) ?_
        refine n_idiv hJ dX4_givesOff_102 (by omega) (by omega) (by omega) ?_
        refine k_goto (tgt := 108) hJ dX4_givesOff_103 (by decide) ?_
        exact hR _ _ _ () dX4_givesOff_108 (by refine congrArg nI ?_; unfold vGives; (try simp only [vKd, vPl, vNs, vCd, vSc]); (repeat' split) <;> first | rfl | omega)
    · refine n_tabIn (c := 5) (tgt := 109) hJ dX4_givesOff_38 c38 (by decide) (by decide) (by decide) rfl (by decide) ?_
      refine k_iload hJ dX4_givesOff_109 5 rfl ?_
      refine k_iconst (v := nI 5) hJ dX4_givesOff_111 (by decide) ?_
      refine n_icmp_ge (tgt := 119) hJ dX4_givesOff_112 (by decide) (by omega) (by omega) (fun c112 => ?_) (fun c112 => ?_)
      · refine k_iload hJ dX4_givesOff_119 5 rfl ?_
        refine k_iconst (v := nI 5) hJ dX4_givesOff_121 (by decide) ?_
        refine n_isub hJ dX4_givesOff_122 (by omega) ?_
        exact hR _ _ _ () dX4_givesOff_123 (by refine congrArg nI ?_; unfold vGives; (try simp only [vKd, vPl, vNs, vCd, vSc]); (repeat' split) <;> first | rfl | omega)
      · refine k_iconst (v := nI 0) hJ dX4_givesOff_115 (by decide) ?_
        refine k_goto (tgt := 123) hJ dX4_givesOff_116 (by decide) ?_
        exact hR _ _ _ () dX4_givesOff_123 (by refine congrArg nI ?_; unfold vGives; (try simp only [vKd, vPl, vNs, vCd, vSc]); (repeat' split) <;> first | rfl | omega)
set_option maxHeartbeats 4000000 in
set_option maxRecDepth 100000 in
theorem ct_X4_scentsOf (l : Launch) (g : KG) (b : Nat → Nat) (e : Nat → Int32) (m : Nat → Nat) (p : Nat)  {B : Nat} (hB : B < 2 ^ 30) (hm : vOk B m) (hp : p < 8) : CI l yX4_scentsOf cX4_scentsOf 4 (some .int) (rmK 2) g [.ref (b 0), .int (nI p)] (modS g b e m) (nI (vScents m p)) (modS g b e m) := by
  refine k_bodyI (by decide) (Nat.le_of_ble_eq_true rfl) (fun _ _ _ => rfl) (fun J hJ hR => ?_)
  show J (modS g b e m) [(0, .ref (b 0)), (1, .int (nI p))] 0 []
  have L : ∀ (k : Nat) (i : Nat) (S : Nat), (i ≤ 6) → (6 + 1 ≤ i + k) → (S = vSum (fun d => m (4 + 10 * p + (4 + d))) i) → J (modS g b e m) [(0, .ref (b 0)), (1, .int (nI p)), (2, .int (nI S)), (3, .int (nI i))] 4 [] := by
    intro k
    induction k with
    | zero => intro i S hi hf hS; exfalso; omega
    | succ k ih =>
      intro i S hi hf hS
      refine k_iload_n hJ dX4_scentsOf_4 3 rfl ?_
      refine k_bipush (v := nI 6) hJ dX4_scentsOf_5 (by decide) ?_
      refine n_icmp_ge (tgt := 27) hJ dX4_scentsOf_7 (by decide) (by omega) (by omega) (fun c7 => ?_) (fun c7 => ?_)
      · refine k_iload_n hJ dX4_scentsOf_27 2 rfl ?_
        exact hR _ _ _ () dX4_scentsOf_28 (by rw [hS, show i = 6 by omega]; try (rfl))
      · refine k_iload_n hJ dX4_scentsOf_10 2 rfl ?_
        refine k_aload_n hJ dX4_scentsOf_11 0 rfl ?_
        refine k_iload_n hJ dX4_scentsOf_12 1 rfl ?_
        refine k_iconst (v := nI 4) hJ dX4_scentsOf_13 (by decide) ?_
        refine k_iload_n hJ dX4_scentsOf_14 3 rfl ?_
        refine n_iadd hJ dX4_scentsOf_15 ?_
        refine c_VI (As := [.int (nI p), .int (nI (4 + i))]) (st := [.int (nI S)]) hJ (ct_X4_its l g b e m p (4 + i) (by omega) (by omega)) (Fr.all rfl) mv_X4_its ml_X4_82 0 rfl rfl rfl (kRm_ok (by decide) (by decide)) rfl rfl (Nat.le_of_ble_eq_true rfl) dX4_scentsOf_16 ?_
        have hb16 : m (4 + 10 * p + (4 + i)) ≤ 99 := hm.sc (show p < 8 by omega) (show i < 6 by omega)
        refine n_iadd hJ dX4_scentsOf_19 ?_
        refine k_istore_n (lv1 := [(0, .ref (b 0)), (1, .int (nI p)), (2, .int (nI (S + (m (4 + 10 * p + (4 + i)))))), (3, .int (nI i))]) hJ dX4_scentsOf_20 (by decide) [1, 2, 0, 3] rfl ?_
        refine n_iinc (b := 1) (lv1 := [(0, .ref (b 0)), (1, .int (nI p)), (2, .int (nI (S + (m (4 + 10 * p + (4 + i)))))), (3, .int (nI (i + 1)))]) hJ dX4_scentsOf_21 3 rfl (by decide) (by decide) [1, 2, 3, 0] rfl ?_
        refine k_goto (tgt := 4) hJ dX4_scentsOf_24 (by decide) ?_
        exact ih (i + 1) _ (by omega) (by omega) (by rw [vSum, hS])
  refine k_iconst (v := nI 0) hJ dX4_scentsOf_0 (by decide) ?_
  refine k_istore_n (lv1 := [(0, .ref (b 0)), (1, .int (nI p)), (2, .int (nI 0))]) hJ dX4_scentsOf_1 (by decide) [1, 2, 0] rfl ?_
  refine k_iconst (v := nI 0) hJ dX4_scentsOf_2 (by decide) ?_
  refine k_istore_n (lv1 := [(0, .ref (b 0)), (1, .int (nI p)), (2, .int (nI 0)), (3, .int (nI 0))]) hJ dX4_scentsOf_3 (by decide) [1, 2, 3, 0] rfl ?_
  exact L (6 + 1) 0 0 (by omega) (by omega) rfl
set_option maxHeartbeats 4000000 in
set_option maxRecDepth 100000 in
theorem ct_X4_givesOffAll (l : Launch) (g : KG) (b : Nat → Nat) (e : Nat → Int32) (m : Nat → Nat) (p : Nat)  {B : Nat} (hB : B < 2 ^ 30) (hm : vOk B m) (hp : p < 8) : CI l yX4_givesOffAll cX4_givesOffAll 4 (some .int) (rmK 3) g [.ref (b 0), .int (nI p)] (modS g b e m) (nI (vGivesAll m p)) (modS g b e m) := by
  refine k_bodyI (by decide) (Nat.le_of_ble_eq_true rfl) (fun _ _ _ => rfl) (fun J hJ hR => ?_)
  show J (modS g b e m) [(0, .ref (b 0)), (1, .int (nI p))] 0 []
  have L : ∀ (k : Nat) (i : Nat) (S : Nat), (i ≤ 6) → (6 + 1 ≤ i + k) → (S = vSum (fun d => vGives m p d) i) → J (modS g b e m) [(0, .ref (b 0)), (1, .int (nI p)), (2, .int (nI S)), (3, .int (nI i))] 4 [] := by
    intro k
    induction k with
    | zero => intro i S hi hf hS; exfalso; omega
    | succ k ih =>
      intro i S hi hf hS
      refine k_iload_n hJ dX4_givesOffAll_4 3 rfl ?_
      refine k_bipush (v := nI 6) hJ dX4_givesOffAll_5 (by decide) ?_
      refine n_icmp_ge (tgt := 25) hJ dX4_givesOffAll_7 (by decide) (by omega) (by omega) (fun c7 => ?_) (fun c7 => ?_)
      · refine k_iload_n hJ dX4_givesOffAll_25 2 rfl ?_
        exact hR _ _ _ () dX4_givesOffAll_26 (by rw [hS, show i = 6 by omega]; try (rfl))
      · refine k_iload_n hJ dX4_givesOffAll_10 2 rfl ?_
        refine k_aload_n hJ dX4_givesOffAll_11 0 rfl ?_
        refine k_iload_n hJ dX4_givesOffAll_12 1 rfl ?_
        refine k_iload_n hJ dX4_givesOffAll_13 3 rfl ?_
        refine c_VI (As := [.int (nI p), .int (nI i)]) (st := [.int (nI S)]) hJ (ct_X4_givesOff l g b e m p i hB hm (by omega) (by omega)) (Fr.all rfl) mv_X4_givesOff ml_X4_85 0 rfl rfl rfl (kRm_ok (by decide) (by decide)) rfl rfl (Nat.le_of_ble_eq_true rfl) dX4_givesOffAll_14 ?_
        refine n_iadd hJ dX4_givesOffAll_17 ?_
        refine k_istore_n (lv1 := [(0, .ref (b 0)), (1, .int (nI p)), (2, .int (nI (S + (vGives m p i)))), (3, .int (nI i))]) hJ dX4_givesOffAll_18 (by decide) [1, 2, 0, 3] rfl ?_
        refine n_iinc (b := 1) (lv1 := [(0, .ref (b 0)), (1, .int (nI p)), (2, .int (nI (S + (vGives m p i)))), (3, .int (nI (i + 1)))]) hJ dX4_givesOffAll_19 3 rfl (by decide) (by decide) [1, 2, 3, 0] rfl ?_
        refine k_goto (tgt := 4) hJ dX4_givesOffAll_22 (by decide) ?_
        exact ih (i + 1) _ (by omega) (by omega) (by rw [vSum, hS])
  refine k_iconst (v := nI 0) hJ dX4_givesOffAll_0 (by decide) ?_
  refine k_istore_n (lv1 := [(0, .ref (b 0)), (1, .int (nI p)), (2, .int (nI 0))]) hJ dX4_givesOffAll_1 (by decide) [1, 2, 0] rfl ?_
  refine k_iconst (v := nI 0) hJ dX4_givesOffAll_2 (by decide) ?_
  refine k_istore_n (lv1 := [(0, .ref (b 0)), (1, .int (nI p)), (2, .int (nI 0)), (3, .int (nI 0))]) hJ dX4_givesOffAll_3 (by decide) [1, 2, 3, 0] rfl ?_
  exact L (6 + 1) 0 0 (by omega) (by omega) rfl
set_option maxHeartbeats 4000000 in
set_option maxRecDepth 100000 in
theorem ct_X4_scentsAll (l : Launch) (g : KG) (b : Nat → Nat) (e : Nat → Int32) (m : Nat → Nat)  {B : Nat} (hB : B < 2 ^ 30) (hm : vOk B m) : CI l yX4_scentsAll cX4_scentsAll 3 (some .int) (rmK 3) g [.ref (b 0)] (modS g b e m) (nI (vScentsAll m)) (modS g b e m) := by
  refine k_bodyI (by decide) (Nat.le_of_ble_eq_true rfl) (fun _ _ _ => rfl) (fun J hJ hR => ?_)
  have h0 := hm.1
  show J (modS g b e m) [(0, .ref (b 0))] 0 []
  have L : ∀ (k : Nat) (i : Nat) (S : Nat), (i ≤ m 0) → (m 0 + 1 ≤ i + k) → (S = vSum (fun p => vScents m p) i) → J (modS g b e m) [(0, .ref (b 0)), (1, .int (nI S)), (2, .int (nI i))] 4 [] := by
    intro k
    induction k with
    | zero => intro i S hi hf hS; exfalso; omega
    | succ k ih =>
      intro i S hi hf hS
      refine k_iload_n hJ dX4_scentsAll_4 2 rfl ?_
      refine k_aload_n hJ dX4_scentsAll_5 0 rfl ?_
      refine gf_X4_7 hJ 0 rfl rfl dX4_scentsAll_6 ?_
      refine k_iconst (v := nI 0) hJ dX4_scentsAll_9 (by decide) ?_
      refine k_iald hJ 1 rfl 0 (by omega) (by decide) rfl dX4_scentsAll_10 ?_
      refine n_icmp_ge (tgt := 28) hJ dX4_scentsAll_11 (by decide) (by omega) (by omega) (fun c11 => ?_) (fun c11 => ?_)
      · refine k_iload_n hJ dX4_scentsAll_28 1 rfl ?_
        exact hR _ _ _ () dX4_scentsAll_29 (by rw [hS, show i = m 0 by omega]; try (rfl))
      · refine k_iload_n hJ dX4_scentsAll_14 1 rfl ?_
        refine k_aload_n hJ dX4_scentsAll_15 0 rfl ?_
        refine k_iload_n hJ dX4_scentsAll_16 2 rfl ?_
        refine c_VI (As := [.int (nI i)]) (st := [.int (nI S)]) hJ (ct_X4_scentsOf l g b e m i hB hm (by omega)) (Fr.all rfl) mv_X4_scentsOf ml_X4_88 0 rfl rfl rfl (kRm_ok (by decide) (by decide)) rfl rfl (Nat.le_of_ble_eq_true rfl) dX4_scentsAll_17 ?_
        refine n_iadd hJ dX4_scentsAll_20 ?_
        refine k_istore_n (lv1 := [(0, .ref (b 0)), (1, .int (nI (S + (vScents m i)))), (2, .int (nI i))]) hJ dX4_scentsAll_21 (by decide) [1, 0, 2] rfl ?_
        refine n_iinc (b := 1) (lv1 := [(0, .ref (b 0)), (1, .int (nI (S + (vScents m i)))), (2, .int (nI (i + 1)))]) hJ dX4_scentsAll_22 2 rfl (by decide) (by decide) [1, 2, 0] rfl ?_
        refine k_goto (tgt := 4) hJ dX4_scentsAll_25 (by decide) ?_
        exact ih (i + 1) _ (by omega) (by omega) (by rw [vSum, hS])
  refine k_iconst (v := nI 0) hJ dX4_scentsAll_0 (by decide) ?_
  refine k_istore_n (lv1 := [(0, .ref (b 0)), (1, .int (nI 0))]) hJ dX4_scentsAll_1 (by decide) [1, 0] rfl ?_
  refine k_iconst (v := nI 0) hJ dX4_scentsAll_2 (by decide) ?_
  refine k_istore_n (lv1 := [(0, .ref (b 0)), (1, .int (nI 0)), (2, .int (nI 0))]) hJ dX4_scentsAll_3 (by decide) [1, 2, 0] rfl ?_
  exact L (m 0 + 1) 0 0 (by omega) (by omega) rfl
set_option maxHeartbeats 4000000 in
set_option maxRecDepth 100000 in
theorem ct_X4_isUnder (l : Launch) (g : KG) (x y : Nat) (hx : x ≤ 5) (hy : y ≤ 5) : CI l yX4_isUnder cX4_isUnder 2 (some .boolean) (rmK 0) g [.int (nI x), .int (nI y)] ([]) (kb (vUnder x y)) ([]) := by
  refine k_bodyI (by decide) (Nat.le_of_ble_eq_true rfl) (fun _ _ h => by rw [h]; exact kb_nar _) (fun J hJ hR => ?_)
  show J ([]) [(0, .int (nI x)), (1, .int (nI y))] 0 []
  refine k_iload_n hJ dX4_isUnder_0 1 rfl ?_
  refine n_if_eq (tgt := 21) hJ dX4_isUnder_1 (by decide) (by omega) (fun c1 => ?_) (fun c1 => ?_)
  · refine k_iconst (v := nI 1) hJ dX4_isUnder_21 (by decide) ?_
    refine k_goto (tgt := 26) hJ dX4_isUnder_22 (by decide) ?_
    exact hR _ _ _ () dX4_isUnder_26 (by show kb true = _; refine congrArg kb ?_; unfold vUnder; rcases (show y = 0 ∨ y = 1 ∨ y = 2 ∨ y = 3 ∨ y = 4 ∨ y = 5 by omega) with rfl | rfl | rfl | rfl | rfl | rfl <;> rcases (show x = 0 ∨ x = 1 ∨ x = 2 ∨ x = 3 ∨ x = 4 ∨ x = 5 by omega) with rfl | rfl | rfl | rfl | rfl | rfl <;> first | rfl | (exfalso; omega))
  · refine k_iload_n hJ dX4_isUnder_4 0 rfl ?_
    refine k_iload_n hJ dX4_isUnder_5 1 rfl ?_
    refine n_icmp_eq (tgt := 21) hJ dX4_isUnder_6 (by decide) (by omega) (by omega) (fun c6 => ?_) (fun c6 => ?_)
    · refine k_iconst (v := nI 1) hJ dX4_isUnder_21 (by decide) ?_
      refine k_goto (tgt := 26) hJ dX4_isUnder_22 (by decide) ?_
      exact hR _ _ _ () dX4_isUnder_26 (by show kb true = _; refine congrArg kb ?_; unfold vUnder; rcases (show y = 0 ∨ y = 1 ∨ y = 2 ∨ y = 3 ∨ y = 4 ∨ y = 5 by omega) with rfl | rfl | rfl | rfl | rfl | rfl <;> rcases (show x = 0 ∨ x = 1 ∨ x = 2 ∨ x = 3 ∨ x = 4 ∨ x = 5 by omega) with rfl | rfl | rfl | rfl | rfl | rfl <;> first | rfl | (exfalso; omega))
    · refine k_iload_n hJ dX4_isUnder_9 0 rfl ?_
      refine k_iconst (v := nI 3) hJ dX4_isUnder_10 (by decide) ?_
      refine n_icmp_le (tgt := 25) hJ dX4_isUnder_11 (by decide) (by omega) (by omega) (fun c11 => ?_) (fun c11 => ?_)
      · refine k_iconst (v := nI 0) hJ dX4_isUnder_25 (by decide) ?_
        exact hR _ _ _ () dX4_isUnder_26 (by show kb false = _; refine congrArg kb ?_; unfold vUnder; rcases (show y = 0 ∨ y = 1 ∨ y = 2 ∨ y = 3 ∨ y = 4 ∨ y = 5 by omega) with rfl | rfl | rfl | rfl | rfl | rfl <;> rcases (show x = 0 ∨ x = 1 ∨ x = 2 ∨ x = 3 ∨ x = 4 ∨ x = 5 by omega) with rfl | rfl | rfl | rfl | rfl | rfl <;> first | rfl | (exfalso; omega))
      · refine k_iload_n hJ dX4_isUnder_14 0 rfl ?_
        refine k_iconst (v := nI 2) hJ dX4_isUnder_15 (by decide) ?_
        refine n_isub hJ dX4_isUnder_16 (by omega) ?_
        refine k_iload_n hJ dX4_isUnder_17 1 rfl ?_
        refine n_icmp_ne (tgt := 25) hJ dX4_isUnder_18 (by decide) (by omega) (by omega) (fun c18 => ?_) (fun c18 => ?_)
        · refine k_iconst (v := nI 0) hJ dX4_isUnder_25 (by decide) ?_
          exact hR _ _ _ () dX4_isUnder_26 (by show kb false = _; refine congrArg kb ?_; unfold vUnder; rcases (show y = 0 ∨ y = 1 ∨ y = 2 ∨ y = 3 ∨ y = 4 ∨ y = 5 by omega) with rfl | rfl | rfl | rfl | rfl | rfl <;> rcases (show x = 0 ∨ x = 1 ∨ x = 2 ∨ x = 3 ∨ x = 4 ∨ x = 5 by omega) with rfl | rfl | rfl | rfl | rfl | rfl <;> first | rfl | (exfalso; omega))
        · refine k_iconst (v := nI 1) hJ dX4_isUnder_21 (by decide) ?_
          refine k_goto (tgt := 26) hJ dX4_isUnder_22 (by decide) ?_
          exact hR _ _ _ () dX4_isUnder_26 (by show kb true = _; refine congrArg kb ?_; unfold vUnder; rcases (show y = 0 ∨ y = 1 ∨ y = 2 ∨ y = 3 ∨ y = 4 ∨ y = 5 by omega) with rfl | rfl | rfl | rfl | rfl | rfl <;> rcases (show x = 0 ∨ x = 1 ∨ x = 2 ∨ x = 3 ∨ x = 4 ∨ x = 5 by omega) with rfl | rfl | rfl | rfl | rfl | rfl <;> first | rfl | (exfalso; omega))
set_option maxHeartbeats 4000000 in
set_option maxRecDepth 100000 in
theorem ct_X4_absolute (l : Launch) (g : KG) (a b : Nat)  (ha : a < 2 ^ 30) (hb : b < 2 ^ 30) : CI l yX4_absolute cX4_absolute 1 (some .int) (rmK 0) g [.int (nI a - nI b)] ([]) (nI ((a - b) + (b - a))) ([]) := by
  refine k_bodyI (by decide) (Nat.le_of_ble_eq_true rfl) (fun _ _ _ => rfl) (fun J hJ hR => ?_)
  show J ([]) [(0, .int (nI a - nI b))] 0 []
  refine k_iload_n hJ dX4_absolute_0 0 rfl ?_
  refine k_if_ge (tgt := 9) hJ dX4_absolute_1 (by decide) (fun c1 => ?_) (fun c1 => ?_)
  · refine k_iload_n hJ dX4_absolute_9 0 rfl ?_
    exact hR _ _ _ () dX4_absolute_10 (by rw [← nI_abs ha hb, if_pos c1])
  · refine k_iload_n hJ dX4_absolute_4 0 rfl ?_
    refine k_ineg hJ dX4_absolute_5 ?_
    refine k_goto (tgt := 10) hJ dX4_absolute_6 (by decide) ?_
    exact hR _ _ _ () dX4_absolute_10 (by rw [← nI_abs ha hb, if_neg c1, Int32.zero_sub])
set_option maxHeartbeats 4000000 in
set_option maxRecDepth 100000 in
theorem ct_X4_apart (l : Launch) (g : KG) (b : Nat → Nat) (e : Nat → Int32) (m : Nat → Nat) (p o : Nat)  {B : Nat} (hB : B < 2 ^ 30) (hm : vOk B m) (hp : p < 8) (ho : o < 8) : CI l yX4_apart cX4_apart 5 (some .int) (rmK 2) g [.ref (b 0), .int (nI p), .int (nI o)] (modS g b e m) (nI (vApart (m (4 + 10 * p + 1)) (m (4 + 10 * o + 1)))) (modS g b e m) := by
  refine k_bodyI (by decide) (Nat.le_of_ble_eq_true rfl) (fun _ _ _ => rfl) (fun J hJ hR => ?_)
  show J (modS g b e m) [(0, .ref (b 0)), (1, .int (nI p)), (2, .int (nI o))] 0 []
  refine k_aload_n hJ dX4_apart_0 0 rfl ?_
  refine k_iload_n hJ dX4_apart_1 1 rfl ?_
  refine k_iconst (v := nI 1) hJ dX4_apart_2 (by decide) ?_
  refine c_VI (As := [.int (nI p), .int (nI 1)]) (st := []) hJ (ct_X4_its l g b e m p 1 (by omega) (by omega)) (Fr.all rfl) mv_X4_its ml_X4_82 0 rfl rfl rfl (kRm_ok (by decide) (by decide)) rfl rfl (Nat.le_of_ble_eq_true rfl) dX4_apart_3 ?_
  have hb3 : m (4 + 10 * p + 1) ≤ 47 := hm.pl (show p < 8 by omega)
  refine k_istore_n (lv1 := [(0, .ref (b 0)), (1, .int (nI p)), (2, .int (nI o)), (3, .int (nI (m (4 + 10 * p + 1))))]) hJ dX4_apart_6 (by decide) [1, 2, 3, 0] rfl ?_
  refine k_aload_n hJ dX4_apart_7 0 rfl ?_
  refine k_iload_n hJ dX4_apart_8 2 rfl ?_
  refine k_iconst (v := nI 1) hJ dX4_apart_9 (by decide) ?_
  refine c_VI (As := [.int (nI o), .int (nI 1)]) (st := []) hJ (ct_X4_its l g b e m o 1 (by omega) (by omega)) (Fr.all rfl) mv_X4_its ml_X4_82 0 rfl rfl rfl (kRm_ok (by decide) (by decide)) rfl rfl (Nat.le_of_ble_eq_true rfl) dX4_apart_10 ?_
  have hb10 : m (4 + 10 * o + 1) ≤ 47 := hm.pl (show o < 8 by omega)
  refine k_istore (lv1 := [(0, .ref (b 0)), (1, .int (nI p)), (2, .int (nI o)), (3, .int (nI (m (4 + 10 * p + 1)))), (4, .int (nI (m (4 + 10 * o + 1))))]) hJ dX4_apart_13 (by decide) [1, 2, 3, 4, 0] rfl ?_
  refine k_iload_n hJ dX4_apart_15 3 rfl ?_
  refine k_bipush (v := nI 8) hJ dX4_apart_16 (by decide) ?_
  refine n_idiv hJ dX4_apart_18 (by omega) (by omega) (by omega) ?_
  refine k_iload hJ dX4_apart_19 4 rfl ?_
  refine k_bipush (v := nI 8) hJ dX4_apart_21 (by decide) ?_
  refine n_idiv hJ dX4_apart_23 (by omega) (by omega) (by omega) ?_
  refine k_isub hJ dX4_apart_24 ?_
  refine c_SI (As := [.int ((nI ((m (4 + 10 * p + 1)) / 8)) - (nI ((m (4 + 10 * o + 1)) / 8)))]) (st := []) hJ (ct_X4_absolute l g (m (4 + 10 * p + 1) / 8) (m (4 + 10 * o + 1) / 8) (by omega) (by omega)) Fr.none ms_X4_absolute ml_X4_113 (kRm_ok (by decide) (by decide)) rfl rfl (Nat.le_of_ble_eq_true rfl) dX4_apart_25 ?_
  refine k_iload_n hJ dX4_apart_28 3 rfl ?_
  refine k_bipush (v := nI 8) hJ dX4_apart_29 (by decide) ?_
  refine n_irem hJ dX4_apart_31 (by omega) (by omega) (by omega) ?_
  refine k_iload hJ dX4_apart_32 4 rfl ?_
  refine k_bipush (v := nI 8) hJ dX4_apart_34 (by decide) ?_
  refine n_irem hJ dX4_apart_36 (by omega) (by omega) (by omega) ?_
  refine k_isub hJ dX4_apart_37 ?_
  refine c_SI (As := [.int ((nI ((m (4 + 10 * p + 1)) % 8)) - (nI ((m (4 + 10 * o + 1)) % 8)))]) (st := [.int (nI ((m (4 + 10 * p + 1) / 8 - m (4 + 10 * o + 1) / 8) + (m (4 + 10 * o + 1) / 8 - m (4 + 10 * p + 1) / 8)))]) hJ (ct_X4_absolute l g (m (4 + 10 * p + 1) % 8) (m (4 + 10 * o + 1) % 8) (by omega) (by omega)) Fr.none ms_X4_absolute ml_X4_113 (kRm_ok (by decide) (by decide)) rfl rfl (Nat.le_of_ble_eq_true rfl) dX4_apart_38 ?_
  refine n_iadd hJ dX4_apart_41 ?_
  exact hR _ _ _ () dX4_apart_42 rfl
set_option maxHeartbeats 4000000 in
set_option maxRecDepth 100000 in
theorem ct_X4_isDownwind (l : Launch) (g : KG) (b : Nat → Nat) (e : Nat → Int32) (m : Nat → Nat) (p o : Nat)  {B : Nat} (hB : B < 2 ^ 30) (hm : vOk B m) (hp : p < 8) (ho : o < 8) : CI l yX4_isDownwind cX4_isDownwind 5 (some .boolean) (rmK 2) g [.ref (b 0), .int (nI p), .int (nI o)] (modS g b e m) (kb (vDown (m 2) (m (4 + 10 * p + 1)) (m (4 + 10 * o + 1)))) (modS g b e m) := by
  refine k_bodyI (by decide) (Nat.le_of_ble_eq_true rfl) (fun _ _ h => by rw [h]; exact kb_nar _) (fun J hJ hR => ?_)
  have h2 := hm.2.2.1
  show J (modS g b e m) [(0, .ref (b 0)), (1, .int (nI p)), (2, .int (nI o))] 0 []
  refine k_aload_n hJ dX4_isDownwind_0 0 rfl ?_
  refine k_iload_n hJ dX4_isDownwind_1 1 rfl ?_
  refine k_iconst (v := nI 1) hJ dX4_isDownwind_2 (by decide) ?_
  refine c_VI (As := [.int (nI p), .int (nI 1)]) (st := []) hJ (ct_X4_its l g b e m p 1 (by omega) (by omega)) (Fr.all rfl) mv_X4_its ml_X4_82 0 rfl rfl rfl (kRm_ok (by decide) (by decide)) rfl rfl (Nat.le_of_ble_eq_true rfl) dX4_isDownwind_3 ?_
  have hb3 : m (4 + 10 * p + 1) ≤ 47 := hm.pl (show p < 8 by omega)
  refine k_bipush (v := nI 8) hJ dX4_isDownwind_6 (by decide) ?_
  refine n_idiv hJ dX4_isDownwind_8 (by omega) (by omega) (by omega) ?_
  refine k_aload_n hJ dX4_isDownwind_9 0 rfl ?_
  refine k_iload_n hJ dX4_isDownwind_10 2 rfl ?_
  refine k_iconst (v := nI 1) hJ dX4_isDownwind_11 (by decide) ?_
  refine c_VI (As := [.int (nI o), .int (nI 1)]) (st := [.int (nI ((m (4 + 10 * p + 1)) / 8))]) hJ (ct_X4_its l g b e m o 1 (by omega) (by omega)) (Fr.all rfl) mv_X4_its ml_X4_82 0 rfl rfl rfl (kRm_ok (by decide) (by decide)) rfl rfl (Nat.le_of_ble_eq_true rfl) dX4_isDownwind_12 ?_
  have hb12 : m (4 + 10 * o + 1) ≤ 47 := hm.pl (show o < 8 by omega)
  refine k_bipush (v := nI 8) hJ dX4_isDownwind_15 (by decide) ?_
  refine n_idiv hJ dX4_isDownwind_17 (by omega) (by omega) (by omega) ?_
  refine k_isub hJ dX4_isDownwind_18 ?_
  refine k_istore_n (lv1 := [(0, .ref (b 0)), (1, .int (nI p)), (2, .int (nI o)), (3, .int ((nI ((m (4 + 10 * p + 1)) / 8)) - (nI ((m (4 + 10 * o + 1)) / 8))))]) hJ dX4_isDownwind_19 (by decide) [1, 2, 3, 0] rfl ?_
  refine k_aload_n hJ dX4_isDownwind_20 0 rfl ?_
  refine k_iload_n hJ dX4_isDownwind_21 1 rfl ?_
  refine k_iconst (v := nI 1) hJ dX4_isDownwind_22 (by decide) ?_
  refine c_VI (As := [.int (nI p), .int (nI 1)]) (st := []) hJ (ct_X4_its l g b e m p 1 (by omega) (by omega)) (Fr.all rfl) mv_X4_its ml_X4_82 0 rfl rfl rfl (kRm_ok (by decide) (by decide)) rfl rfl (Nat.le_of_ble_eq_true rfl) dX4_isDownwind_23 ?_
  have hb23 : m (4 + 10 * p + 1) ≤ 47 := hm.pl (show p < 8 by omega)
  refine k_bipush (v := nI 8) hJ dX4_isDownwind_26 (by decide) ?_
  refine n_irem hJ dX4_isDownwind_28 (by omega) (by omega) (by omega) ?_
  refine k_aload_n hJ dX4_isDownwind_29 0 rfl ?_
  refine k_iload_n hJ dX4_isDownwind_30 2 rfl ?_
  refine k_iconst (v := nI 1) hJ dX4_isDownwind_31 (by decide) ?_
  refine c_VI (As := [.int (nI o), .int (nI 1)]) (st := [.int (nI ((m (4 + 10 * p + 1)) % 8))]) hJ (ct_X4_its l g b e m o 1 (by omega) (by omega)) (Fr.all rfl) mv_X4_its ml_X4_82 0 rfl rfl rfl (kRm_ok (by decide) (by decide)) rfl rfl (Nat.le_of_ble_eq_true rfl) dX4_isDownwind_32 ?_
  have hb32 : m (4 + 10 * o + 1) ≤ 47 := hm.pl (show o < 8 by omega)
  refine k_bipush (v := nI 8) hJ dX4_isDownwind_35 (by decide) ?_
  refine n_irem hJ dX4_isDownwind_37 (by omega) (by omega) (by omega) ?_
  refine k_isub hJ dX4_isDownwind_38 ?_
  refine k_istore (lv1 := [(0, .ref (b 0)), (1, .int (nI p)), (2, .int (nI o)), (3, .int ((nI ((m (4 + 10 * p + 1)) / 8)) - (nI ((m (4 + 10 * o + 1)) / 8)))), (4, .int ((nI ((m (4 + 10 * p + 1)) % 8)) - (nI ((m (4 + 10 * o + 1)) % 8))))]) hJ dX4_isDownwind_39 (by decide) [1, 2, 3, 4, 0] rfl ?_
  refine k_aload_n hJ dX4_isDownwind_41 0 rfl ?_
  refine gf_X4_7 hJ 0 rfl rfl dX4_isDownwind_42 ?_
  refine k_iconst (v := nI 2) hJ dX4_isDownwind_45 (by decide) ?_
  refine k_iald hJ 1 rfl 2 (by omega) (by decide) rfl dX4_isDownwind_46 ?_
  rcases (show (m 2) = 0 ∨ (m 2) = 1 ∨ (m 2) = 2 ∨ (m 2) = 3 ∨ (m 2) = 4 from by omega) with c47 | c47 | c47 | c47 | c47
  · refine n_tabOut (tgt := 118) hJ dX4_isDownwind_47 (by omega) (by omega) (by decide) ?_
    refine k_iconst (v := nI 0) hJ dX4_isDownwind_118 (by decide) ?_
    exact hR _ _ _ () dX4_isDownwind_119 (by show kb false = _; refine congrArg kb ?_; unfold vDown; (try simp only [vKd, vPl, vNs, vCd, vSc]); (repeat' split) <;> first | rfl | omega | (symm; exact decide_eq_true (by omega)) | (symm; exact decide_eq_false (by omega)))
  · refine n_tabIn (c := 1) (tgt := 76) hJ dX4_isDownwind_47 c47 (by decide) (by decide) (by decide) rfl (by decide) ?_
    refine k_iload_n hJ dX4_isDownwind_76 3 rfl ?_
    refine k_if_ge (tgt := 84) hJ dX4_isDownwind_77 (by decide) (fun c77 => ?_) (fun c77 => ?_)
    · rw [nI_sub_nn (by omega) (by omega)] at c77
      refine k_iconst (v := nI 0) hJ dX4_isDownwind_84 (by decide) ?_
      exact hR _ _ _ () dX4_isDownwind_85 (by show kb false = _; refine congrArg kb ?_; unfold vDown; (try simp only [vKd, vPl, vNs, vCd, vSc]); (repeat' split) <;> first | rfl | omega | (symm; exact decide_eq_true (by omega)) | (symm; exact decide_eq_false (by omega)))
    · rw [nI_sub_nn (by omega) (by omega)] at c77
      refine k_iconst (v := nI 1) hJ dX4_isDownwind_80 (by decide) ?_
      refine k_goto (tgt := 85) hJ dX4_isDownwind_81 (by decide) ?_
      exact hR _ _ _ () dX4_isDownwind_85 (by show kb true = _; refine congrArg kb ?_; unfold vDown; (try simp only [vKd, vPl, vNs, vCd, vSc]); (repeat' split) <;> first | rfl | omega | (symm; exact decide_eq_true (by omega)) | (symm; exact decide_eq_false (by omega)))
  · refine n_tabIn (c := 2) (tgt := 86) hJ dX4_isDownwind_47 c47 (by decide) (by decide) (by decide) rfl (by decide) ?_
    refine k_iload hJ dX4_isDownwind_86 4 rfl ?_
    refine k_if_le (tgt := 95) hJ dX4_isDownwind_88 (by decide) (fun c88 => ?_) (fun c88 => ?_)
    · rw [nI_sub_np (by omega) (by omega)] at c88
      refine k_iconst (v := nI 0) hJ dX4_isDownwind_95 (by decide) ?_
      exact hR _ _ _ () dX4_isDownwind_96 (by show kb false = _; refine congrArg kb ?_; unfold vDown; (try simp only [vKd, vPl, vNs, vCd, vSc]); (repeat' split) <;> first | rfl | omega | (symm; exact decide_eq_true (by omega)) | (symm; exact decide_eq_false (by omega)))
    · rw [nI_sub_np (by omega) (by omega)] at c88
      refine k_iconst (v := nI 1) hJ dX4_isDownwind_91 (by decide) ?_
      refine k_goto (tgt := 96) hJ dX4_isDownwind_92 (by decide) ?_
      exact hR _ _ _ () dX4_isDownwind_96 (by show kb true = _; refine congrArg kb ?_; unfold vDown; (try simp only [vKd, vPl, vNs, vCd, vSc]); (repeat' split) <;> first | rfl | omega | (symm; exact decide_eq_true (by omega)) | (symm; exact decide_eq_false (by omega)))
  · refine n_tabIn (c := 3) (tgt := 97) hJ dX4_isDownwind_47 c47 (by decide) (by decide) (by decide) rfl (by decide) ?_
    refine k_iload_n hJ dX4_isDownwind_97 3 rfl ?_
    refine k_if_le (tgt := 105) hJ dX4_isDownwind_98 (by decide) (fun c98 => ?_) (fun c98 => ?_)
    · rw [nI_sub_np (by omega) (by omega)] at c98
      refine k_iconst (v := nI 0) hJ dX4_isDownwind_105 (by decide) ?_
      exact hR _ _ _ () dX4_isDownwind_106 (by show kb false = _; refine congrArg kb ?_; unfold vDown; (try simp only [vKd, vPl, vNs, vCd, vSc]); (repeat' split) <;> first | rfl | omega | (symm; exact decide_eq_true (by omega)) | (symm; exact decide_eq_false (by omega)))
    · rw [nI_sub_np (by omega) (by omega)] at c98
      refine k_iconst (v := nI 1) hJ dX4_isDownwind_101 (by decide) ?_
      refine k_goto (tgt := 106) hJ dX4_isDownwind_102 (by decide) ?_
      exact hR _ _ _ () dX4_isDownwind_106 (by show kb true = _; refine congrArg kb ?_; unfold vDown; (try simp only [vKd, vPl, vNs, vCd, vSc]); (repeat' split) <;> first | rfl | omega | (symm; exact decide_eq_true (by omega)) | (symm; exact decide_eq_false (by omega)))
  · refine n_tabIn (c := 4) (tgt := 107) hJ dX4_isDownwind_47 c47 (by decide) (by decide) (by decide) rfl (by decide) ?_
    refine k_iload hJ dX4_isDownwind_107 4 rfl ?_
    refine k_if_ge (tgt := 116) hJ dX4_isDownwind_109 (by decide) (fun c109 => ?_) (fun c109 => ?_)
    · rw [nI_sub_nn (by omega) (by omega)] at c109
      refine k_iconst (v := nI 0) hJ dX4_isDownwind_116 (by decide) ?_
      exact hR _ _ _ () dX4_isDownwind_117 (by show kb false = _; refine congrArg kb ?_; unfold vDown; (try simp only [vKd, vPl, vNs, vCd, vSc]); (repeat' split) <;> first | rfl | omega | (symm; exact decide_eq_true (by omega)) | (symm; exact decide_eq_false (by omega)))
    · rw [nI_sub_nn (by omega) (by omega)] at c109
      refine k_iconst (v := nI 1) hJ dX4_isDownwind_112 (by decide) ?_
      refine k_goto (tgt := 117) hJ dX4_isDownwind_113 (by decide) ?_
      exact hR _ _ _ () dX4_isDownwind_117 (by show kb true = _; refine congrArg kb ?_; unfold vDown; (try simp only [vKd, vPl, vNs, vCd, vSc]); (repeat' split) <;> first | rfl | omega | (symm; exact decide_eq_true (by omega)) | (symm; exact decide_eq_false (by omega)))
set_option maxHeartbeats 4000000 in
set_option maxRecDepth 100000 in
theorem ct_X4_senses (l : Launch) (g : KG) (b : Nat → Nat) (e : Nat → Int32) (m : Nat → Nat) (p gv far : Nat)  {B : Nat} (hB : B < 2 ^ 30) (hm : vOk B m) (hp : p < 8) (hg : gv ≤ 148) (hf : far ≤ 12) : CI l yX4_senses cX4_senses 5 (some .int) (rmK 2) g [.ref (b 0), .int (nI p), .int (nI gv), .int (nI far)] (modS g b e m) (nI (vSense m p gv far)) (modS g b e m) := by
  refine k_bodyI (by decide) (Nat.le_of_ble_eq_true rfl) (fun _ _ _ => rfl) (fun J hJ hR => ?_)
  have hq : gv * m (4 + 10 * p + 2) / (far + 5) ≤ 1332 := vPlain_le hg (hm.ns hp)
  have hq0 : gv * m (4 + 10 * p + 2) ≤ 148 * 9 := Nat.mul_le_mul hg (hm.ns hp)
  show J (modS g b e m) [(0, .ref (b 0)), (1, .int (nI p)), (2, .int (nI gv)), (3, .int (nI far))] 0 []
  refine k_aload_n hJ dX4_senses_0 0 rfl ?_
  refine k_iload_n hJ dX4_senses_1 1 rfl ?_
  refine k_iconst (v := nI 3) hJ dX4_senses_2 (by decide) ?_
  refine c_VI (As := [.int (nI p), .int (nI 3)]) (st := []) hJ (ct_X4_its l g b e m p 3 (by omega) (by omega)) (Fr.all rfl) mv_X4_its ml_X4_82 0 rfl rfl rfl (kRm_ok (by decide) (by decide)) rfl rfl (Nat.le_of_ble_eq_true rfl) dX4_senses_3 ?_
  have hb3 : m (4 + 10 * p + 3) ≤ 1 := hm.cd (show p < 8 by omega)
  refine k_iconst (v := nI 1) hJ dX4_senses_6 (by decide) ?_
  refine n_icmp_ne (tgt := 14) hJ dX4_senses_7 (by decide) (by omega) (by omega) (fun c7 => ?_) (fun c7 => ?_)
  · refine k_iload_n hJ dX4_senses_14 2 rfl ?_
    refine k_aload_n hJ dX4_senses_15 0 rfl ?_
    refine k_iload_n hJ dX4_senses_16 1 rfl ?_
    refine k_iconst (v := nI 2) hJ dX4_senses_17 (by decide) ?_
    refine c_VI (As := [.int (nI p), .int (nI 2)]) (st := [.int (nI gv)]) hJ (ct_X4_its l g b e m p 2 (by omega) (by omega)) (Fr.all rfl) mv_X4_its ml_X4_82 0 rfl rfl rfl (kRm_ok (by decide) (by decide)) rfl rfl (Nat.le_of_ble_eq_true rfl) dX4_senses_18 ?_
    have hb18 : m (4 + 10 * p + 2) ≤ 9 := hm.ns (show p < 8 by omega)
    refine n_imul hJ dX4_senses_21 ?_
    refine k_iload_n hJ dX4_senses_22 3 rfl ?_
    refine k_iconst (v := nI 5) hJ dX4_senses_23 (by decide) ?_
    refine n_iadd hJ dX4_senses_24 ?_
    refine n_idiv hJ dX4_senses_25 (by omega) (by omega) (by omega) ?_
    refine k_istore (lv1 := [(0, .ref (b 0)), (1, .int (nI p)), (2, .int (nI gv)), (3, .int (nI far)), (4, .int (nI ((gv * (m (4 + 10 * p + 2))) / (far + 5))))]) hJ dX4_senses_26 (by decide) [1, 2, 3, 4, 0] rfl ?_
    refine k_aload_n hJ dX4_senses_28 0 rfl ?_
    refine k_iload_n hJ dX4_senses_29 1 rfl ?_
    refine k_iconst (v := nI 0) hJ dX4_senses_30 (by decide) ?_
    refine c_VI (As := [.int (nI p), .int (nI 0)]) (st := []) hJ (ct_X4_its l g b e m p 0 (by omega) (by omega)) (Fr.all rfl) mv_X4_its ml_X4_82 0 rfl rfl rfl (kRm_ok (by decide) (by decide)) rfl rfl (Nat.le_of_ble_eq_true rfl) dX4_senses_31 ?_
    have hb31 : m (4 + 10 * p + 0) ≤ 5 := hm.kd (show p < 8 by omega)
    rcases (show (m (4 + 10 * p + 0)) = 0 ∨ (m (4 + 10 * p + 0)) = 1 ∨ (m (4 + 10 * p + 0)) = 2 ∨ (m (4 + 10 * p + 0)) = 3 ∨ (m (4 + 10 * p + 0)) = 4 ∨ (m (4 + 10 * p + 0)) = 5 from by omega) with c34 | c34 | c34 | c34 | c34 | c34
    · refine n_tabOut (tgt := 100) hJ dX4_senses_34 (by omega) (by omega) (by decide) ?_
      refine k_iload hJ dX4_senses_100 4 rfl ?_
      exact hR _ _ _ () dX4_senses_102 (by refine congrArg nI ?_; unfold vSense; (try simp only [vKd, vPl, vNs, vCd, vSc]); (repeat' split) <;> first | rfl | omega)
    · refine n_tabIn (c := 1) (tgt := 68) hJ dX4_senses_34 c34 (by decide) (by decide) (by decide) rfl (by decide) ?_
      refine k_iload_n hJ dX4_senses_68 3 rfl ?_
      refine n_if_ne (tgt := 76) hJ dX4_senses_69 (by decide) (by omega) (fun c69 => ?_) (fun c69 => ?_)
      · refine k_iload hJ dX4_senses_76 4 rfl ?_
        exact hR _ _ _ () dX4_senses_78 (by refine congrArg nI ?_; unfold vSense; (try simp only [vKd, vPl, vNs, vCd, vSc]); (repeat' split) <;> first | rfl | omega)
      · refine k_iconst (v := nI 0) hJ dX4_senses_72 (by decide) ?_
        refine k_goto (tgt := 78) hJ dX4_senses_73 (by decide) ?_
        exact hR _ _ _ () dX4_senses_78 (by refine congrArg nI ?_; unfold vSense; (try simp only [vKd, vPl, vNs, vCd, vSc]); (repeat' split) <;> first | rfl | omega)
    · refine n_tabIn (c := 2) (tgt := 100) hJ dX4_senses_34 c34 (by decide) (by decide) (by decide) rfl (by decide) ?_
      refine k_iload hJ dX4_senses_100 4 rfl ?_
      exact hR _ _ _ () dX4_senses_102 (by refine congrArg nI ?_; unfold vSense; (try simp only [vKd, vPl, vNs, vCd, vSc]); (repeat' split) <;> first | rfl | omega)
    · refine n_tabIn (c := 3) (tgt := 79) hJ dX4_senses_34 c34 (by decide) (by decide) (by decide) rfl (by decide) ?_
      refine k_iconst (v := nI 2) hJ dX4_senses_79 (by decide) ?_
      refine k_iload hJ dX4_senses_80 4 rfl ?_
      refine n_imul hJ dX4_senses_82 ?_
      exact hR _ _ _ () dX4_senses_83 (by refine congrArg nI ?_; unfold vSense; (try simp only [vKd, vPl, vNs, vCd, vSc]); (repeat' split) <;> first | rfl | omega)
    · refine n_tabIn (c := 4) (tgt := 100) hJ dX4_senses_34 c34 (by decide) (by decide) (by decide) rfl (by decide) ?_
      refine k_iload hJ dX4_senses_100 4 rfl ?_
      exact hR _ _ _ () dX4_senses_102 (by refine congrArg nI ?_; unfold vSense; (try simp only [vKd, vPl, vNs, vCd, vSc]); (repeat' split) <;> first | rfl | omega)
    · refine n_tabIn (c := 5) (tgt := 84) hJ dX4_senses_34 c34 (by decide) (by decide) (by decide) rfl (by decide) ?_
      refine k_iload hJ dX4_senses_84 4 rfl ?_
      refine n_if_le (tgt := 98) hJ dX4_senses_86 (by decide) (by omega) (fun c86 => ?_) (fun c86 => ?_)
      · refine k_iconst (v := nI 0) hJ dX4_senses_98 (by decide) ?_
        exact hR _ _ _ () dX4_senses_99 (by refine congrArg nI ?_; unfold vSense; (try simp only [vKd, vPl, vNs, vCd, vSc]); (repeat' split) <;> first | rfl | omega)
      · refine k_iconst (v := nI 2) hJ dX4_senses_89 (by decide) ?_
        refine k_iload hJ dX4_senses_90 4 rfl ?_
        refine n_imul hJ dX4_senses_92 ?_
        refine k_iconst (v := nI 3) hJ dX4_senses_93 (by decide) ?_
        refine n_iadd hJ dX4_senses_94 ?_
        refine k_goto (tgt := 99) hJ dX4_senses_95 (by decide) ?_
        exact hR _ _ _ () dX4_senses_99 (by refine congrArg nI ?_; unfold vSense; (try simp only [vKd, vPl, vNs, vCd, vSc]); (repeat' split) <;> first | rfl | omega)
  · refine k_iconst (v := nI 0) hJ dX4_senses_10 (by decide) ?_
    refine k_goto (tgt := 26) hJ dX4_senses_11 (by decide) ?_
    refine k_istore (lv1 := [(0, .ref (b 0)), (1, .int (nI p)), (2, .int (nI gv)), (3, .int (nI far)), (4, .int (nI 0))]) hJ dX4_senses_26 (by decide) [1, 2, 3, 4, 0] rfl ?_
    refine k_aload_n hJ dX4_senses_28 0 rfl ?_
    refine k_iload_n hJ dX4_senses_29 1 rfl ?_
    refine k_iconst (v := nI 0) hJ dX4_senses_30 (by decide) ?_
    refine c_VI (As := [.int (nI p), .int (nI 0)]) (st := []) hJ (ct_X4_its l g b e m p 0 (by omega) (by omega)) (Fr.all rfl) mv_X4_its ml_X4_82 0 rfl rfl rfl (kRm_ok (by decide) (by decide)) rfl rfl (Nat.le_of_ble_eq_true rfl) dX4_senses_31 ?_
    have hb31 : m (4 + 10 * p + 0) ≤ 5 := hm.kd (show p < 8 by omega)
    rcases (show (m (4 + 10 * p + 0)) = 0 ∨ (m (4 + 10 * p + 0)) = 1 ∨ (m (4 + 10 * p + 0)) = 2 ∨ (m (4 + 10 * p + 0)) = 3 ∨ (m (4 + 10 * p + 0)) = 4 ∨ (m (4 + 10 * p + 0)) = 5 from by omega) with c34 | c34 | c34 | c34 | c34 | c34
    · refine n_tabOut (tgt := 100) hJ dX4_senses_34 (by omega) (by omega) (by decide) ?_
      refine k_iload hJ dX4_senses_100 4 rfl ?_
      exact hR _ _ _ () dX4_senses_102 (by refine congrArg nI ?_; unfold vSense; (try simp only [vKd, vPl, vNs, vCd, vSc]); (repeat' split) <;> first | rfl | omega)
    · refine n_tabIn (c := 1) (tgt := 68) hJ dX4_senses_34 c34 (by decide) (by decide) (by decide) rfl (by decide) ?_
      refine k_iload_n hJ dX4_senses_68 3 rfl ?_
      refine n_if_ne (tgt := 76) hJ dX4_senses_69 (by decide) (by omega) (fun c69 => ?_) (fun c69 => ?_)
      · refine k_iload hJ dX4_senses_76 4 rfl ?_
        exact hR _ _ _ () dX4_senses_78 (by refine congrArg nI ?_; unfold vSense; (try simp only [vKd, vPl, vNs, vCd, vSc]); (repeat' split) <;> first | rfl | omega)
      · refine k_iconst (v := nI 0) hJ dX4_senses_72 (by decide) ?_
        refine k_goto (tgt := 78) hJ dX4_senses_73 (by decide) ?_
        exact hR _ _ _ () dX4_senses_78 (by refine congrArg nI ?_; unfold vSense; (try simp only [vKd, vPl, vNs, vCd, vSc]); (repeat' split) <;> first | rfl | omega)
    · refine n_tabIn (c := 2) (tgt := 100) hJ dX4_senses_34 c34 (by decide) (by decide) (by decide) rfl (by decide) ?_
      refine k_iload hJ dX4_senses_100 4 rfl ?_
      exact hR _ _ _ () dX4_senses_102 (by refine congrArg nI ?_; unfold vSense; (try simp only [vKd, vPl, vNs, vCd, vSc]); (repeat' split) <;> first | rfl | omega)
    · refine n_tabIn (c := 3) (tgt := 79) hJ dX4_senses_34 c34 (by decide) (by decide) (by decide) rfl (by decide) ?_
      refine k_iconst (v := nI 2) hJ dX4_senses_79 (by decide) ?_
      refine k_iload hJ dX4_senses_80 4 rfl ?_
      refine n_imul hJ dX4_senses_82 ?_
      exact hR _ _ _ () dX4_senses_83 (by refine congrArg nI ?_; unfold vSense; (try simp only [vKd, vPl, vNs, vCd, vSc]); (repeat' split) <;> first | rfl | omega)
    · refine n_tabIn (c := 4) (tgt := 100) hJ dX4_senses_34 c34 (by decide) (by decide) (by decide) rfl (by decide) ?_
      refine k_iload hJ dX4_senses_100 4 rfl ?_
      exact hR _ _ _ () dX4_senses_102 (by refine congrArg nI ?_; unfold vSense; (try simp only [vKd, vPl, vNs, vCd, vSc]); (repeat' split) <;> first | rfl | omega)
    · refine n_tabIn (c := 5) (tgt := 84) hJ dX4_senses_34 c34 (by decide) (by decide) (by decide) rfl (by decide) ?_
      refine k_iload hJ dX4_senses_84 4 rfl ?_
      refine n_if_le (tgt := 98) hJ dX4_senses_86 (by decide) (by omega) (fun c86 => ?_) (fun c86 => ?_)
      · refine k_iconst (v := nI 0) hJ dX4_senses_98 (by decide) ?_
        exact hR _ _ _ () dX4_senses_99 (by refine congrArg nI ?_; unfold vSense; (try simp only [vKd, vPl, vNs, vCd, vSc]); (repeat' split) <;> first | rfl | omega)
      · exact absurd c86 (by decide)
set_option maxHeartbeats 4000000 in
set_option maxRecDepth 100000 in
theorem ct_X4_smell (l : Launch) (g : KG) (b : Nat → Nat) (e : Nat → Int32) (m : Nat → Nat) (p o d : Nat)  {B : Nat} (hB : B < 2 ^ 30) (hm : vOk B m) (hp : p < 8) (ho : o < 8) (hd : d < 6) : CI l yX4_smell cX4_smell 5 (some .int) (rmK 3) g [.ref (b 0), .int (nI p), .int (nI o), .int (nI d)] (modS g b e m) (nI (vSmell m p o d)) (modS g b e m) := by
  refine k_bodyI (by decide) (Nat.le_of_ble_eq_true rfl) (fun _ _ _ => rfl) (fun J hJ hR => ?_)
  have hg0 := vGives_le hm ho hd
  have ha0 := vApart_le (hm.pl hp) (hm.pl ho)
  have hs0 : vSense m p (vGives m o d) (vApart (m (4 + 10 * p + 1)) (m (4 + 10 * o + 1))) ≤ 2667 := vSense_le hm hp hg0
  show J (modS g b e m) [(0, .ref (b 0)), (1, .int (nI p)), (2, .int (nI o)), (3, .int (nI d))] 0 []
  refine k_aload_n hJ dX4_smell_0 0 rfl ?_
  refine k_iload_n hJ dX4_smell_1 1 rfl ?_
  refine k_aload_n hJ dX4_smell_2 0 rfl ?_
  refine k_iload_n hJ dX4_smell_3 2 rfl ?_
  refine k_iload_n hJ dX4_smell_4 3 rfl ?_
  refine c_VI (As := [.int (nI o), .int (nI d)]) (st := [.int (nI p), .ref (b 0)]) hJ (ct_X4_givesOff l g b e m o d hB hm (by omega) (by omega)) (Fr.all rfl) mv_X4_givesOff ml_X4_85 0 rfl rfl rfl (kRm_ok (by decide) (by decide)) rfl rfl (Nat.le_of_ble_eq_true rfl) dX4_smell_5 ?_
  refine k_aload_n hJ dX4_smell_8 0 rfl ?_
  refine k_iload_n hJ dX4_smell_9 1 rfl ?_
  refine k_iload_n hJ dX4_smell_10 2 rfl ?_
  refine c_VI (As := [.int (nI p), .int (nI o)]) (st := [.int (nI (vGives m o d)), .int (nI p), .ref (b 0)]) hJ (ct_X4_apart l g b e m p o hB hm (by omega) (by omega)) (Fr.all rfl) mv_X4_apart ml_X4_116 0 rfl rfl rfl (kRm_ok (by decide) (by decide)) rfl rfl (Nat.le_of_ble_eq_true rfl) dX4_smell_11 ?_
  refine c_VI (As := [.int (nI p), .int (nI (vGives m o d)), .int (nI (vApart (m (4 + 10 * p + 1)) (m (4 + 10 * o + 1))))]) (st := []) hJ (ct_X4_senses l g b e m p (vGives m o d) (vApart (m (4 + 10 * p + 1)) (m (4 + 10 * o + 1))) hB hm (by omega) hg0 ha0) (Fr.all rfl) mv_X4_senses ml_X4_119 0 rfl rfl rfl (kRm_ok (by decide) (by decide)) rfl rfl (Nat.le_of_ble_eq_true rfl) dX4_smell_14 ?_
  refine k_istore (lv1 := [(0, .ref (b 0)), (1, .int (nI p)), (2, .int (nI o)), (3, .int (nI d)), (4, .int (nI (vSense m p (vGives m o d) (vApart (m (4 + 10 * p + 1)) (m (4 + 10 * o + 1))))))]) hJ dX4_smell_17 (by decide) [1, 2, 3, 4, 0] rfl ?_
  refine k_aload_n hJ dX4_smell_19 0 rfl ?_
  refine k_iload_n hJ dX4_smell_20 1 rfl ?_
  refine k_iload_n hJ dX4_smell_21 2 rfl ?_
  refine c_VI (As := [.int (nI p), .int (nI o)]) (st := []) hJ (ct_X4_isDownwind l g b e m p o hB hm (by omega) (by omega)) (Fr.all rfl) mv_X4_isDownwind ml_X4_123 0 rfl rfl rfl (kRm_ok (by decide) (by decide)) rfl rfl (Nat.le_of_ble_eq_true rfl) dX4_smell_22 ?_
  refine b_if_eq (tgt := 35) hJ dX4_smell_25 (by decide) (fun c25 => ?_) (fun c25 => ?_)
  · refine k_aload_n hJ dX4_smell_35 0 rfl ?_
    refine k_iload_n hJ dX4_smell_36 2 rfl ?_
    refine k_iload_n hJ dX4_smell_37 1 rfl ?_
    refine c_VI (As := [.int (nI o), .int (nI p)]) (st := []) hJ (ct_X4_isDownwind l g b e m o p hB hm (by omega) (by omega)) (Fr.all rfl) mv_X4_isDownwind ml_X4_123 0 rfl rfl rfl (kRm_ok (by decide) (by decide)) rfl rfl (Nat.le_of_ble_eq_true rfl) dX4_smell_38 ?_
    refine b_if_eq (tgt := 51) hJ dX4_smell_41 (by decide) (fun c41 => ?_) (fun c41 => ?_)
    · refine k_iload hJ dX4_smell_51 4 rfl ?_
      exact hR _ _ _ () dX4_smell_53 (by refine congrArg nI ?_; unfold vSmell; simp only [vPl, c25, c41]; rfl)
    · refine k_iload hJ dX4_smell_44 4 rfl ?_
      refine k_iconst (v := nI 2) hJ dX4_smell_46 (by decide) ?_
      refine n_idiv hJ dX4_smell_47 (by omega) (by omega) (by omega) ?_
      refine k_goto (tgt := 53) hJ dX4_smell_48 (by decide) ?_
      exact hR _ _ _ () dX4_smell_53 (by refine congrArg nI ?_; unfold vSmell; simp only [vPl, c25, c41]; rfl)
  · refine k_iconst (v := nI 2) hJ dX4_smell_28 (by decide) ?_
    refine k_iload hJ dX4_smell_29 4 rfl ?_
    refine n_imul hJ dX4_smell_31 ?_
    refine k_goto (tgt := 53) hJ dX4_smell_32 (by decide) ?_
    exact hR _ _ _ () dX4_smell_53 (by refine congrArg nI ?_; unfold vSmell; simp only [vPl, c25]; rfl)
set_option maxHeartbeats 4000000 in
set_option maxRecDepth 100000 in
theorem ct_X4_isFound (l : Launch) (g : KG) (b : Nat → Nat) (e : Nat → Int32) (m : Nat → Nat) (p o : Nat)  {B : Nat} (hB : B < 2 ^ 30) (hm : vOk B m) (hp : p < 8) (ho : o < 8) : CI l yX4_isFound cX4_isFound 6 (some .boolean) (rmK 4) g [.ref (b 0), .int (nI p), .int (nI o)] (modS g b e m) (kb (vFound m p o)) (modS g b e m) := by
  refine k_bodyI (by decide) (Nat.le_of_ble_eq_true rfl) (fun _ _ h => by rw [h]; exact kb_nar _) (fun J hJ hR => ?_)
  have ha0 : vApart (m (4 + 10 * p + 1)) (m (4 + 10 * o + 1)) ≤ 12 := vApart_le (hm.pl hp) (hm.pl ho)
  show J (modS g b e m) [(0, .ref (b 0)), (1, .int (nI p)), (2, .int (nI o))] 0 []
  have L40 : (p ≠ o) → (((m (4 + 10 * p + 0) == 2 || m (4 + 10 * p + 0) == 4) && decide (vApart (m (4 + 10 * p + 1)) (m (4 + 10 * o + 1)) ≤ 1)) = false) → ∀ (k : Nat) (d : Nat) (x : Bool), (d ≤ 6) → (7 ≤ d + k) → (x = vAnyTo m p o d) → J (modS g b e m) [(0, .ref (b 0)), (1, .int (nI p)), (2, .int (nI o)), (3, .int (nI (m (4 + 10 * p + 0)))), (4, .int (kb x)), (5, .int (nI d))] 40 [] := by
    intro hne hk
    intro k
    induction k with
    | zero => intro d x hd6 hf hx; exfalso; omega
    | succ k ih =>
      intro d x hd6 hf hx
      have h3 := hm.2.2.2.2.1
      refine k_iload hJ dX4_isFound_40 5 rfl ?_
      refine k_bipush (v := nI 6) hJ dX4_isFound_42 (by decide) ?_
      refine n_icmp_ge (tgt := 82) hJ dX4_isFound_44 (by decide) (by omega) (by omega) (fun c44 => ?_) (fun c44 => ?_)
      · refine k_iload hJ dX4_isFound_82 4 rfl ?_
        exact hR _ _ _ () dX4_isFound_84 (by refine congrArg kb ?_; unfold vFound vFinds; simp only [vKd, vPl, hk]; rw [beq_false_of_ne hne]; unfold vAny; rw [hx, show d = 6 by omega]; rfl)
      · refine k_iload hJ dX4_isFound_47 4 rfl ?_
        refine b_if_ne (tgt := 82) hJ dX4_isFound_49 (by decide) (fun c49 => ?_) (fun c49 => ?_)
        · refine k_iload hJ dX4_isFound_82 4 rfl ?_
          exact hR _ _ _ () dX4_isFound_84 (by refine congrArg kb ?_; unfold vFound vFinds; simp only [vKd, vPl, hk]; rw [beq_false_of_ne hne]; unfold vAny; rw [show 6 = d + (6 - d) by omega, vAnyTo_mono (hx ▸ c49) (6 - d), c49]; rfl)
        · refine k_aload_n hJ dX4_isFound_52 0 rfl ?_
          refine k_iload_n hJ dX4_isFound_53 1 rfl ?_
          refine k_iload_n hJ dX4_isFound_54 2 rfl ?_
          refine k_iload hJ dX4_isFound_55 5 rfl ?_
          refine c_VI (As := [.int (nI p), .int (nI o), .int (nI d)]) (st := []) hJ (ct_X4_smell l g b e m p o d hB hm (by omega) (by omega) (by omega)) (Fr.all rfl) mv_X4_smell ml_X4_126 0 rfl rfl rfl (kRm_ok (by decide) (by decide)) rfl rfl (Nat.le_of_ble_eq_true rfl) dX4_isFound_57 ?_
          refine k_aload_n hJ dX4_isFound_60 0 rfl ?_
          refine gf_X4_7 hJ 0 rfl rfl dX4_isFound_61 ?_
          refine k_iconst (v := nI 3) hJ dX4_isFound_64 (by decide) ?_
          refine k_iald hJ 1 rfl 3 (by omega) (by decide) rfl dX4_isFound_65 ?_
          refine n_icmp_lt (tgt := 73) hJ dX4_isFound_66 (by decide) (by have := vSmell_le hm hp ho (show d < 6 by omega); omega) (by omega) (fun c66 => ?_) (fun c66 => ?_)
          · refine k_iconst (v := nI 0) hJ dX4_isFound_73 (by decide) ?_
            refine k_istore (lv1 := [(0, .ref (b 0)), (1, .int (nI p)), (2, .int (nI o)), (3, .int (nI (m (4 + 10 * p + 0)))), (4, .int (nI 0)), (5, .int (nI d))]) hJ dX4_isFound_74 (by decide) [1, 2, 3, 4, 0, 5] rfl ?_
            refine n_iinc (b := 1) (lv1 := [(0, .ref (b 0)), (1, .int (nI p)), (2, .int (nI o)), (3, .int (nI (m (4 + 10 * p + 0)))), (4, .int (nI 0)), (5, .int (nI (d + 1)))]) hJ dX4_isFound_76 5 rfl (by decide) (by decide) [1, 2, 3, 4, 5, 0] rfl ?_
            refine k_goto (tgt := 40) hJ dX4_isFound_79 (by decide) ?_
            exact ih (d + 1) false (by omega) (by omega) (by rw [vAnyTo, ← hx, c49, Bool.false_or]; exact (decide_eq_false (by omega)).symm)
          · refine k_iconst (v := nI 1) hJ dX4_isFound_69 (by decide) ?_
            refine k_goto (tgt := 74) hJ dX4_isFound_70 (by decide) ?_
            refine k_istore (lv1 := [(0, .ref (b 0)), (1, .int (nI p)), (2, .int (nI o)), (3, .int (nI (m (4 + 10 * p + 0)))), (4, .int (nI 1)), (5, .int (nI d))]) hJ dX4_isFound_74 (by decide) [1, 2, 3, 4, 0, 5] rfl ?_
            refine n_iinc (b := 1) (lv1 := [(0, .ref (b 0)), (1, .int (nI p)), (2, .int (nI o)), (3, .int (nI (m (4 + 10 * p + 0)))), (4, .int (nI 1)), (5, .int (nI (d + 1)))]) hJ dX4_isFound_76 5 rfl (by decide) (by decide) [1, 2, 3, 4, 5, 0] rfl ?_
            refine k_goto (tgt := 40) hJ dX4_isFound_79 (by decide) ?_
            exact ih (d + 1) true (by omega) (by omega) (by rw [vAnyTo, ← hx, c49, Bool.false_or]; exact (decide_eq_true (by omega)).symm)
  refine k_aload_n hJ dX4_isFound_0 0 rfl ?_
  refine k_iload_n hJ dX4_isFound_1 1 rfl ?_
  refine k_iconst (v := nI 0) hJ dX4_isFound_2 (by decide) ?_
  refine c_VI (As := [.int (nI p), .int (nI 0)]) (st := []) hJ (ct_X4_its l g b e m p 0 (by omega) (by omega)) (Fr.all rfl) mv_X4_its ml_X4_82 0 rfl rfl rfl (kRm_ok (by decide) (by decide)) rfl rfl (Nat.le_of_ble_eq_true rfl) dX4_isFound_3 ?_
  have hb3 : m (4 + 10 * p + 0) ≤ 5 := hm.kd (show p < 8 by omega)
  refine k_istore_n (lv1 := [(0, .ref (b 0)), (1, .int (nI p)), (2, .int (nI o)), (3, .int (nI (m (4 + 10 * p + 0))))]) hJ dX4_isFound_6 (by decide) [1, 2, 3, 0] rfl ?_
  refine k_iload_n hJ dX4_isFound_7 1 rfl ?_
  refine k_iload_n hJ dX4_isFound_8 2 rfl ?_
  refine n_icmp_eq (tgt := 32) hJ dX4_isFound_9 (by decide) (by omega) (by omega) (fun c9 => ?_) (fun c9 => ?_)
  · refine k_iconst (v := nI 0) hJ dX4_isFound_32 (by decide) ?_
    exact hR _ _ _ () dX4_isFound_33 (by show kb false = _; refine congrArg kb ?_; unfold vFound; rw [c9, beq_self_eq_true]; rfl)
  · refine k_iload_n hJ dX4_isFound_12 3 rfl ?_
    refine k_iconst (v := nI 2) hJ dX4_isFound_13 (by decide) ?_
    refine n_icmp_eq (tgt := 22) hJ dX4_isFound_14 (by decide) (by omega) (by omega) (fun c14 => ?_) (fun c14 => ?_)
    · refine k_aload_n hJ dX4_isFound_22 0 rfl ?_
      refine k_iload_n hJ dX4_isFound_23 1 rfl ?_
      refine k_iload_n hJ dX4_isFound_24 2 rfl ?_
      refine c_VI (As := [.int (nI p), .int (nI o)]) (st := []) hJ (ct_X4_apart l g b e m p o hB hm (by omega) (by omega)) (Fr.all rfl) mv_X4_apart ml_X4_116 0 rfl rfl rfl (kRm_ok (by decide) (by decide)) rfl rfl (Nat.le_of_ble_eq_true rfl) dX4_isFound_25 ?_
      refine k_iconst (v := nI 1) hJ dX4_isFound_28 (by decide) ?_
      refine n_icmp_gt (tgt := 34) hJ dX4_isFound_29 (by decide) (by omega) (by omega) (fun c29 => ?_) (fun c29 => ?_)
      · refine k_iconst (v := nI 0) hJ dX4_isFound_34 (by decide) ?_
        refine k_istore (lv1 := [(0, .ref (b 0)), (1, .int (nI p)), (2, .int (nI o)), (3, .int (nI (m (4 + 10 * p + 0)))), (4, .int (nI 0))]) hJ dX4_isFound_35 (by decide) [1, 2, 3, 4, 0] rfl ?_
        refine k_iconst (v := nI 0) hJ dX4_isFound_37 (by decide) ?_
        refine k_istore (lv1 := [(0, .ref (b 0)), (1, .int (nI p)), (2, .int (nI o)), (3, .int (nI (m (4 + 10 * p + 0)))), (4, .int (nI 0)), (5, .int (nI 0))]) hJ dX4_isFound_38 (by decide) [1, 2, 3, 4, 5, 0] rfl ?_
        exact L40 c9 (by rw [decide_eq_false (show ¬ vApart (m (4 + 10 * p + 1)) (m (4 + 10 * o + 1)) ≤ 1 by omega), Bool.and_false]) 7 0 false (by omega) (by omega) rfl
      · refine k_iconst (v := nI 0) hJ dX4_isFound_32 (by decide) ?_
        exact hR _ _ _ () dX4_isFound_33 (by show kb false = _; refine congrArg kb ?_; unfold vFound; unfold vFinds; rw [show (vKd m p == 2 || vKd m p == 4) = true by show (m (4 + 10 * p + 0) == 2 || m (4 + 10 * p + 0) == 4) = true; rw [c14]; rfl, decide_eq_true (show vApart (vPl m p) (vPl m o) ≤ 1 from c29)]; simp)
    · refine k_iload_n hJ dX4_isFound_17 3 rfl ?_
      refine k_iconst (v := nI 4) hJ dX4_isFound_18 (by decide) ?_
      refine n_icmp_ne (tgt := 34) hJ dX4_isFound_19 (by decide) (by omega) (by omega) (fun c19 => ?_) (fun c19 => ?_)
      · refine k_iconst (v := nI 0) hJ dX4_isFound_34 (by decide) ?_
        refine k_istore (lv1 := [(0, .ref (b 0)), (1, .int (nI p)), (2, .int (nI o)), (3, .int (nI (m (4 + 10 * p + 0)))), (4, .int (nI 0))]) hJ dX4_isFound_35 (by decide) [1, 2, 3, 4, 0] rfl ?_
        refine k_iconst (v := nI 0) hJ dX4_isFound_37 (by decide) ?_
        refine k_istore (lv1 := [(0, .ref (b 0)), (1, .int (nI p)), (2, .int (nI o)), (3, .int (nI (m (4 + 10 * p + 0)))), (4, .int (nI 0)), (5, .int (nI 0))]) hJ dX4_isFound_38 (by decide) [1, 2, 3, 4, 5, 0] rfl ?_
        exact L40 c9 (by rw [beq_false_of_ne c14, beq_false_of_ne c19]; rfl) 7 0 false (by omega) (by omega) rfl
      · refine k_aload_n hJ dX4_isFound_22 0 rfl ?_
        refine k_iload_n hJ dX4_isFound_23 1 rfl ?_
        refine k_iload_n hJ dX4_isFound_24 2 rfl ?_
        refine c_VI (As := [.int (nI p), .int (nI o)]) (st := []) hJ (ct_X4_apart l g b e m p o hB hm (by omega) (by omega)) (Fr.all rfl) mv_X4_apart ml_X4_116 0 rfl rfl rfl (kRm_ok (by decide) (by decide)) rfl rfl (Nat.le_of_ble_eq_true rfl) dX4_isFound_25 ?_
        refine k_iconst (v := nI 1) hJ dX4_isFound_28 (by decide) ?_
        refine n_icmp_gt (tgt := 34) hJ dX4_isFound_29 (by decide) (by omega) (by omega) (fun c29 => ?_) (fun c29 => ?_)
        · refine k_iconst (v := nI 0) hJ dX4_isFound_34 (by decide) ?_
          refine k_istore (lv1 := [(0, .ref (b 0)), (1, .int (nI p)), (2, .int (nI o)), (3, .int (nI (m (4 + 10 * p + 0)))), (4, .int (nI 0))]) hJ dX4_isFound_35 (by decide) [1, 2, 3, 4, 0] rfl ?_
          refine k_iconst (v := nI 0) hJ dX4_isFound_37 (by decide) ?_
          refine k_istore (lv1 := [(0, .ref (b 0)), (1, .int (nI p)), (2, .int (nI o)), (3, .int (nI (m (4 + 10 * p + 0)))), (4, .int (nI 0)), (5, .int (nI 0))]) hJ dX4_isFound_38 (by decide) [1, 2, 3, 4, 5, 0] rfl ?_
          exact L40 c9 (by rw [decide_eq_false (show ¬ vApart (m (4 + 10 * p + 1)) (m (4 + 10 * o + 1)) ≤ 1 by omega), Bool.and_false]) 7 0 false (by omega) (by omega) rfl
        · refine k_iconst (v := nI 0) hJ dX4_isFound_32 (by decide) ?_
          exact hR _ _ _ () dX4_isFound_33 (by show kb false = _; refine congrArg kb ?_; unfold vFound; unfold vFinds; rw [show (vKd m p == 2 || vKd m p == 4) = true by show (m (4 + 10 * p + 0) == 2 || m (4 + 10 * p + 0) == 4) = true; rw [c19]; rfl, decide_eq_true (show vApart (vPl m p) (vPl m o) ≤ 1 from c29)]; simp)
set_option maxHeartbeats 4000000 in
set_option maxRecDepth 100000 in
theorem ct_X4_finders (l : Launch) (g : KG) (b : Nat → Nat) (e : Nat → Int32) (m : Nat → Nat) (o : Nat)  {B : Nat} (hB : B < 2 ^ 30) (hm : vOk B m) (ho : o < 8) : CI l yX4_finders cX4_finders 4 (some .int) (rmK 5) g [.ref (b 0), .int (nI o)] (modS g b e m) (nI (vFinders m o)) (modS g b e m) := by
  refine k_bodyI (by decide) (Nat.le_of_ble_eq_true rfl) (fun _ _ _ => rfl) (fun J hJ hR => ?_)
  have h0 := hm.1
  show J (modS g b e m) [(0, .ref (b 0)), (1, .int (nI o))] 0 []
  have L4 : ∀ (k : Nat) (i : Nat) (S : Nat), (i ≤ m 0) → (m 0 + 1 ≤ i + k) → (S = vBits (fun q => vFound m q o) i) → J (modS g b e m) [(0, .ref (b 0)), (1, .int (nI o)), (2, .int (nI S)), (3, .int (nI i))] 4 [] := by
    intro k
    induction k with
    | zero => intro i S hi hf hS; exfalso; omega
    | succ k ih =>
      intro i S hi hf hS
      refine k_iload_n hJ dX4_finders_4 3 rfl ?_
      refine k_aload_n hJ dX4_finders_5 0 rfl ?_
      refine gf_X4_7 hJ 0 rfl rfl dX4_finders_6 ?_
      refine k_iconst (v := nI 0) hJ dX4_finders_9 (by decide) ?_
      refine k_iald hJ 1 rfl 0 (by omega) (by decide) rfl dX4_finders_10 ?_
      refine n_icmp_ge (tgt := 39) hJ dX4_finders_11 (by decide) (by omega) (by omega) (fun c11 => ?_) (fun c11 => ?_)
      · refine k_iload_n hJ dX4_finders_39 2 rfl ?_
        exact hR _ _ _ () dX4_finders_40 (by rw [hS, show i = m 0 by omega]; rfl)
      · refine k_iload_n hJ dX4_finders_14 2 rfl ?_
        refine k_aload_n hJ dX4_finders_15 0 rfl ?_
        refine k_iload_n hJ dX4_finders_16 3 rfl ?_
        refine k_iload_n hJ dX4_finders_17 1 rfl ?_
        refine c_VI (As := [.int (nI i), .int (nI o)]) (st := [.int (nI S)]) hJ (ct_X4_isFound l g b e m i o hB hm (by omega) (by omega)) (Fr.all rfl) mv_X4_isFound ml_X4_130 0 rfl rfl rfl (kRm_ok (by decide) (by decide)) rfl rfl (Nat.le_of_ble_eq_true rfl) dX4_finders_18 ?_
        refine b_if_eq (tgt := 30) hJ dX4_finders_21 (by decide) (fun c21 => ?_) (fun c21 => ?_)
        · refine k_iconst (v := nI 0) hJ dX4_finders_30 (by decide) ?_
          refine n_ior (c := S) hJ dX4_finders_31 (Nat.or_zero S) ?_
          refine k_istore_n (lv1 := [(0, .ref (b 0)), (1, .int (nI o)), (2, .int (nI S)), (3, .int (nI i))]) hJ dX4_finders_32 (by decide) [1, 2, 0, 3] rfl ?_
          refine n_iinc (b := 1) (lv1 := [(0, .ref (b 0)), (1, .int (nI o)), (2, .int (nI S)), (3, .int (nI (i + 1)))]) hJ dX4_finders_33 3 rfl (by decide) (by decide) [1, 2, 3, 0] rfl ?_
          refine k_goto (tgt := 4) hJ dX4_finders_36 (by decide) ?_
          exact ih (i + 1) S (by omega) (by omega) (by rw [vBits, c21, hS]; rfl)
        · refine k_iconst (v := nI 1) hJ dX4_finders_24 (by decide) ?_
          refine k_iload_n hJ dX4_finders_25 3 rfl ?_
          refine n_ibit hJ dX4_finders_26 (by omega) ?_
          refine k_goto (tgt := 31) hJ dX4_finders_27 (by decide) ?_
          refine n_ior (c := S + 2 ^ i) hJ dX4_finders_31 (by rw [hS]; exact vBits_or _ _) ?_
          refine k_istore_n (lv1 := [(0, .ref (b 0)), (1, .int (nI o)), (2, .int (nI (S + 2 ^ i))), (3, .int (nI i))]) hJ dX4_finders_32 (by decide) [1, 2, 0, 3] rfl ?_
          refine n_iinc (b := 1) (lv1 := [(0, .ref (b 0)), (1, .int (nI o)), (2, .int (nI (S + 2 ^ i))), (3, .int (nI (i + 1)))]) hJ dX4_finders_33 3 rfl (by decide) (by decide) [1, 2, 3, 0] rfl ?_
          refine k_goto (tgt := 4) hJ dX4_finders_36 (by decide) ?_
          exact ih (i + 1) (S + 2 ^ i) (by omega) (by omega) (by rw [vBits, c21, if_pos rfl, hS])
  refine k_iconst (v := nI 0) hJ dX4_finders_0 (by decide) ?_
  refine k_istore_n (lv1 := [(0, .ref (b 0)), (1, .int (nI o)), (2, .int (nI 0))]) hJ dX4_finders_1 (by decide) [1, 2, 0] rfl ?_
  refine k_iconst (v := nI 0) hJ dX4_finders_2 (by decide) ?_
  refine k_istore_n (lv1 := [(0, .ref (b 0)), (1, .int (nI o)), (2, .int (nI 0)), (3, .int (nI 0))]) hJ dX4_finders_3 (by decide) [1, 2, 3, 0] rfl ?_
  exact L4 (m 0 + 1) 0 0 (by omega) (by omega) rfl
