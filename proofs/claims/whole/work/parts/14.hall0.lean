/-- x is one of 0 .. n - 1 -/
def vIn (x : Int32) (n : Nat) : Bool := if x < 0 then false else if nI n ≤ x then false else true
def vTwo (x y : Int32) (n : Nat) : Bool := vIn x n && vIn y n && !(decide (x = y))
theorem vIn_of {x : Int32} {n : Nat} (hn : n < 2 ^ 31) (h : vIn x n = true) : ∃ p, p < n ∧ x = nI p := by
  unfold vIn at h
  by_cases h0 : x < 0
  · rw [if_pos h0] at h; cases h
  · rw [if_neg h0] at h
    by_cases h1 : nI n ≤ x
    · rw [if_pos h1] at h; cases h
    · exact ((pk_ix x hn).resolve_left h0).resolve_left h1
theorem vIn_nI {p n : Nat} (h : p < n) (hn : n < 2 ^ 31) : vIn (nI p) n = true := by
  unfold vIn
  rw [if_neg (nI_pos (by omega)), if_neg (nI_ge h hn)]
theorem nI_abs {a b : Nat} (ha : a < 2 ^ 30) (hb : b < 2 ^ 30) : (if 0 ≤ nI a - nI b then nI a - nI b else 0 - (nI a - nI b)) = nI ((a - b) + (b - a)) := by
  by_cases h : b ≤ a
  · rw [pk_sub h, if_pos (nI_pos' (by omega))]
    congr 1
    omega
  · have h1 := pk_sneg hb (Nat.not_le.mp h)
    rw [if_neg (Int32.not_le.mpr h1)]
    rw [show (0 : Int32) - (nI a - nI b) = nI b - nI a by rw [Int32.zero_sub, Int32.neg_sub], pk_sub (by omega)]
    congr 1
    omega
theorem nI_max0 {v c : Nat} (hv : v < 2 ^ 30) (hc : c < 2 ^ 30) : (if nI v - nI c < nI 0 then nI 0 else nI v - nI c) = nI (v - c) := by
  by_cases h : c ≤ v
  · rw [pk_sub h, if_neg (by rw [nI_0]; exact nI_pos (by omega))]
  · rw [if_pos (by rw [nI_0]; exact pk_sneg hc (Nat.not_le.mp h))]
    congr 1
    omega
set_option maxHeartbeats 4000000 in
set_option maxRecDepth 100000 in
theorem ct_X0_has (l : Launch) (g : KG) (a m : Nat → Nat) (lt : Nat → Int32) (x : Int32) : CI l yX0_has cX0_has 2 (some .boolean) (rmK 0) g [.ref (a 0), .int x] (hallW g a m lt) (kb (vIn x (m 0))) (hallW g a m lt) := by
  refine k_bodyI (by decide) (Nat.le_of_ble_eq_true rfl) (fun _ _ h => by rw [h]; exact kb_nar _) (fun J hJ hR => ?_)
  show J (hallW g a m lt) [(0, .ref (a 0)), (1, .int x)] 0 []
  refine k_iload_n hJ dX0_has_0 1 rfl ?_
  refine k_if_lt (tgt := 16) hJ dX0_has_1 (by decide) (fun c1 => ?_) (fun c1 => ?_)
  · refine k_iconst (v := nI 0) hJ dX0_has_16 (by decide) ?_
    exact hR _ _ _ () dX0_has_17 (by unfold vIn; simp only [c1, if_true, if_false]; rfl)
  · refine k_iload_n hJ dX0_has_4 1 rfl ?_
    refine k_aload_n hJ dX0_has_5 0 rfl ?_
    refine gf_X0_21 hJ 0 rfl rfl dX0_has_6 ?_
    refine k_icmp_ge (tgt := 16) hJ dX0_has_9 (by decide) (fun c9 => ?_) (fun c9 => ?_)
    · refine k_iconst (v := nI 0) hJ dX0_has_16 (by decide) ?_
      exact hR _ _ _ () dX0_has_17 (by unfold vIn; simp only [c1, c9, if_true, if_false]; rfl)
    · refine k_iconst (v := nI 1) hJ dX0_has_12 (by decide) ?_
      refine k_goto (tgt := 17) hJ dX0_has_13 (by decide) ?_
      exact hR _ _ _ () dX0_has_17 (by unfold vIn; simp only [c1, c9, if_true, if_false]; rfl)
set_option maxHeartbeats 4000000 in
set_option maxRecDepth 100000 in
theorem ct_X0_hasTwo (l : Launch) (g : KG) (a m : Nat → Nat) (lt : Nat → Int32) (x y : Int32) : CI l yX0_hasTwo cX0_hasTwo 3 (some .boolean) (rmK 1) g [.ref (a 0), .int x, .int y] (hallW g a m lt) (kb (vTwo x y (m 0))) (hallW g a m lt) := by
  refine k_bodyI (by decide) (Nat.le_of_ble_eq_true rfl) (fun _ _ h => by rw [h]; exact kb_nar _) (fun J hJ hR => ?_)
  show J (hallW g a m lt) [(0, .ref (a 0)), (1, .int x), (2, .int y)] 0 []
  refine k_aload_n hJ dX0_hasTwo_0 0 rfl ?_
  refine k_iload_n hJ dX0_hasTwo_1 1 rfl ?_
  refine c_VI (As := [.int x]) (st := []) hJ (ct_X0_has l g a m lt x ) (Fr.all rfl) mv_X0_has ml_X0_51 0 rfl rfl rfl (kRm_ok (by decide) (by decide)) rfl rfl (Nat.le_of_ble_eq_true rfl) dX0_hasTwo_2 ?_
  refine b_if_eq (tgt := 25) hJ dX0_hasTwo_5 (by decide) (fun c5 => ?_) (fun c5 => ?_)
  · refine k_iconst (v := nI 0) hJ dX0_hasTwo_25 (by decide) ?_
    exact hR _ _ _ () dX0_hasTwo_26 (by unfold vTwo; simp only [c5]; rfl)
  · refine k_aload_n hJ dX0_hasTwo_8 0 rfl ?_
    refine k_iload_n hJ dX0_hasTwo_9 2 rfl ?_
    refine c_VI (As := [.int y]) (st := []) hJ (ct_X0_has l g a m lt y ) (Fr.all rfl) mv_X0_has ml_X0_51 0 rfl rfl rfl (kRm_ok (by decide) (by decide)) rfl rfl (Nat.le_of_ble_eq_true rfl) dX0_hasTwo_10 ?_
    refine b_if_eq (tgt := 25) hJ dX0_hasTwo_13 (by decide) (fun c13 => ?_) (fun c13 => ?_)
    · refine k_iconst (v := nI 0) hJ dX0_hasTwo_25 (by decide) ?_
      exact hR _ _ _ () dX0_hasTwo_26 (by unfold vTwo; simp only [c5, c13]; rfl)
    · refine k_iload_n hJ dX0_hasTwo_16 1 rfl ?_
      refine k_iload_n hJ dX0_hasTwo_17 2 rfl ?_
      refine k_icmp_eq (tgt := 25) hJ dX0_hasTwo_18 (by decide) (fun c18 => ?_) (fun c18 => ?_)
      · refine k_iconst (v := nI 0) hJ dX0_hasTwo_25 (by decide) ?_
        exact hR _ _ _ () dX0_hasTwo_26 (by unfold vTwo; simp only [c5, c13, c18]; rfl)
      · refine k_iconst (v := nI 1) hJ dX0_hasTwo_21 (by decide) ?_
        refine k_goto (tgt := 26) hJ dX0_hasTwo_22 (by decide) ?_
        exact hR _ _ _ () dX0_hasTwo_26 (by unfold vTwo; simp only [c5, c13, c18]; rfl)
set_option maxHeartbeats 4000000 in
set_option maxRecDepth 100000 in
theorem ct_X0_everybody (l : Launch) (g : KG) (a m : Nat → Nat) (lt : Nat → Int32)  {B : Nat} (hB : B < 2 ^ 30) (hm : vOk B m) : CI l yX0_everybody cX0_everybody 1 (some .int) (rmK 0) g [.ref (a 0)] (hallW g a m lt) (nI (2 ^ m 0 - 1)) (hallW g a m lt) := by
  refine k_bodyI (by decide) (Nat.le_of_ble_eq_true rfl) (fun _ _ _ => rfl) (fun J hJ hR => ?_)
  have h0 := hm.1
  show J (hallW g a m lt) [(0, .ref (a 0))] 0 []
  refine k_iconst (v := nI 1) hJ dX0_everybody_0 (by decide) ?_
  refine k_aload_n hJ dX0_everybody_1 0 rfl ?_
  refine gf_X0_21 hJ 0 rfl rfl dX0_everybody_2 ?_
  refine n_ibit hJ dX0_everybody_5 (by omega) ?_
  refine k_iconst (v := nI 1) hJ dX0_everybody_6 (by decide) ?_
  refine n_isub hJ dX0_everybody_7 Nat.one_le_two_pow ?_
  exact hR _ _ _ () dX0_everybody_8 rfl
set_option maxHeartbeats 4000000 in
set_option maxRecDepth 100000 in
theorem ct_X0_apart (l : Launch) (g : KG) (a b : Nat) (ha : a ≤ 47) (hb : b ≤ 47) : CI l yX0_apart cX0_apart 2 (some .int) (rmK 1) g [.int (nI a), .int (nI b)] ([]) (nI (vApart a b)) ([]) := by
  refine k_bodyI (by decide) (Nat.le_of_ble_eq_true rfl) (fun _ _ _ => rfl) (fun J hJ hR => ?_)
  show J ([]) [(0, .int (nI a)), (1, .int (nI b))] 0 []
  refine k_iload_n hJ dX0_apart_0 0 rfl ?_
  refine k_bipush (v := nI 8) hJ dX0_apart_1 (by decide) ?_
  refine n_idiv hJ dX0_apart_3 (by omega) (by omega) (by omega) ?_
  refine k_iload_n hJ dX0_apart_4 1 rfl ?_
  refine k_bipush (v := nI 8) hJ dX0_apart_5 (by decide) ?_
  refine n_idiv hJ dX0_apart_7 (by omega) (by omega) (by omega) ?_
  refine k_isub hJ dX0_apart_8 ?_
  refine k_mabs hJ ml_X0_102 (Nat.le_of_ble_eq_true rfl) dX0_apart_9 ?_
  refine k_eqs (st2 := [.int (nI ((a / 8 - b / 8) + (b / 8 - a / 8)))]) (by rw [nI_abs (by omega) (by omega)]) ?_
  refine k_iload_n hJ dX0_apart_12 0 rfl ?_
  refine k_bipush (v := nI 8) hJ dX0_apart_13 (by decide) ?_
  refine n_irem hJ dX0_apart_15 (by omega) (by omega) (by omega) ?_
  refine k_iload_n hJ dX0_apart_16 1 rfl ?_
  refine k_bipush (v := nI 8) hJ dX0_apart_17 (by decide) ?_
  refine n_irem hJ dX0_apart_19 (by omega) (by omega) (by omega) ?_
  refine k_isub hJ dX0_apart_20 ?_
  refine k_mabs hJ ml_X0_102 (Nat.le_of_ble_eq_true rfl) dX0_apart_21 ?_
  refine k_eqs (st2 := [.int (nI ((a % 8 - b % 8) + (b % 8 - a % 8))), .int (nI ((a / 8 - b / 8) + (b / 8 - a / 8)))]) (by rw [nI_abs (by omega) (by omega)]) ?_
  refine n_iadd hJ dX0_apart_24 ?_
  exact hR _ _ _ () dX0_apart_25 rfl
set_option maxHeartbeats 4000000 in
set_option maxRecDepth 100000 in
theorem ct_X0_isDownwind (l : Launch) (g : KG) (a m : Nat → Nat) (lt : Nat → Int32) (x y : Nat)  {B : Nat} (hB : B < 2 ^ 30) (hm : vOk B m) (hx : x ≤ 47) (hy : y ≤ 47) : CI l yX0_isDownwind cX0_isDownwind 3 (some .boolean) (rmK 0) g [.ref (a 0), .int (nI x), .int (nI y)] (hallW g a m lt) (kb (vDown (m 2) x y)) (hallW g a m lt) := by
  refine k_bodyI (by decide) (Nat.le_of_ble_eq_true rfl) (fun _ _ h => by rw [h]; exact kb_nar _) (fun J hJ hR => ?_)
  have h2 := hm.2.2.1
  show J (hallW g a m lt) [(0, .ref (a 0)), (1, .int (nI x)), (2, .int (nI y))] 0 []
  refine k_aload_n hJ dX0_isDownwind_0 0 rfl ?_
  refine gf_X0_9 hJ 0 rfl rfl dX0_isDownwind_1 ?_
  rcases (show (m 2) = 0 ∨ (m 2) = 1 ∨ (m 2) = 2 ∨ (m 2) = 3 ∨ (m 2) = 4 from by omega) with c4 | c4 | c4 | c4 | c4
  · refine n_tabOut (tgt := 104) hJ dX0_isDownwind_4 (by omega) (by omega) (by decide) ?_
    refine k_iconst (v := nI 0) hJ dX0_isDownwind_104 (by decide) ?_
    exact hR _ _ _ () dX0_isDownwind_105 (by show kb false = _; refine congrArg kb ?_; unfold vDown; (try simp only [vKd, vPl, vNs, vCd, vSc]); (repeat' split) <;> first | rfl | omega | (symm; exact decide_eq_true (by omega)) | (symm; exact decide_eq_false (by omega)))
  · refine n_tabIn (c := 1) (tgt := 36) hJ dX0_isDownwind_4 c4 (by decide) (by decide) (by decide) rfl (by decide) ?_
    refine k_iload_n hJ dX0_isDownwind_36 1 rfl ?_
    refine k_bipush (v := nI 8) hJ dX0_isDownwind_37 (by decide) ?_
    refine n_idiv hJ dX0_isDownwind_39 (by omega) (by omega) (by omega) ?_
    refine k_iload_n hJ dX0_isDownwind_40 2 rfl ?_
    refine k_bipush (v := nI 8) hJ dX0_isDownwind_41 (by decide) ?_
    refine n_idiv hJ dX0_isDownwind_43 (by omega) (by omega) (by omega) ?_
    refine n_icmp_ge (tgt := 51) hJ dX0_isDownwind_44 (by decide) (by omega) (by omega) (fun c44 => ?_) (fun c44 => ?_)
    · refine k_iconst (v := nI 0) hJ dX0_isDownwind_51 (by decide) ?_
      exact hR _ _ _ () dX0_isDownwind_52 (by show kb false = _; refine congrArg kb ?_; unfold vDown; (try simp only [vKd, vPl, vNs, vCd, vSc]); (repeat' split) <;> first | rfl | omega | (symm; exact decide_eq_true (by omega)) | (symm; exact decide_eq_false (by omega)))
    · refine k_iconst (v := nI 1) hJ dX0_isDownwind_47 (by decide) ?_
      refine k_goto (tgt := 52) hJ dX0_isDownwind_48 (by decide) ?_
      exact hR _ _ _ () dX0_isDownwind_52 (by show kb true = _; refine congrArg kb ?_; unfold vDown; (try simp only [vKd, vPl, vNs, vCd, vSc]); (repeat' split) <;> first | rfl | omega | (symm; exact decide_eq_true (by omega)) | (symm; exact decide_eq_false (by omega)))
  · refine n_tabIn (c := 2) (tgt := 53) hJ dX0_isDownwind_4 c4 (by decide) (by decide) (by decide) rfl (by decide) ?_
    refine k_iload_n hJ dX0_isDownwind_53 1 rfl ?_
    refine k_bipush (v := nI 8) hJ dX0_isDownwind_54 (by decide) ?_
    refine n_irem hJ dX0_isDownwind_56 (by omega) (by omega) (by omega) ?_
    refine k_iload_n hJ dX0_isDownwind_57 2 rfl ?_
    refine k_bipush (v := nI 8) hJ dX0_isDownwind_58 (by decide) ?_
    refine n_irem hJ dX0_isDownwind_60 (by omega) (by omega) (by omega) ?_
    refine n_icmp_le (tgt := 68) hJ dX0_isDownwind_61 (by decide) (by omega) (by omega) (fun c61 => ?_) (fun c61 => ?_)
    · refine k_iconst (v := nI 0) hJ dX0_isDownwind_68 (by decide) ?_
      exact hR _ _ _ () dX0_isDownwind_69 (by show kb false = _; refine congrArg kb ?_; unfold vDown; (try simp only [vKd, vPl, vNs, vCd, vSc]); (repeat' split) <;> first | rfl | omega | (symm; exact decide_eq_true (by omega)) | (symm; exact decide_eq_false (by omega)))
    · refine k_iconst (v := nI 1) hJ dX0_isDownwind_64 (by decide) ?_
      refine k_goto (tgt := 69) hJ dX0_isDownwind_65 (by decide) ?_
      exact hR _ _ _ () dX0_isDownwind_69 (by show kb true = _; refine congrArg kb ?_; unfold vDown; (try simp only [vKd, vPl, vNs, vCd, vSc]); (repeat' split) <;> first | rfl | omega | (symm; exact decide_eq_true (by omega)) | (symm; exact decide_eq_false (by omega)))
  · refine n_tabIn (c := 3) (tgt := 70) hJ dX0_isDownwind_4 c4 (by decide) (by decide) (by decide) rfl (by decide) ?_
    refine k_iload_n hJ dX0_isDownwind_70 1 rfl ?_
    refine k_bipush (v := nI 8) hJ dX0_isDownwind_71 (by decide) ?_
    refine n_idiv hJ dX0_isDownwind_73 (by omega) (by omega) (by omega) ?_
    refine k_iload_n hJ dX0_isDownwind_74 2 rfl ?_
    refine k_bipush (v := nI 8) hJ dX0_isDownwind_75 (by decide) ?_
    refine n_idiv hJ dX0_isDownwind_77 (by omega) (by omega) (by omega) ?_
    refine n_icmp_le (tgt := 85) hJ dX0_isDownwind_78 (by decide) (by omega) (by omega) (fun c78 => ?_) (fun c78 => ?_)
    · refine k_iconst (v := nI 0) hJ dX0_isDownwind_85 (by decide) ?_
      exact hR _ _ _ () dX0_isDownwind_86 (by show kb false = _; refine congrArg kb ?_; unfold vDown; (try simp only [vKd, vPl, vNs, vCd, vSc]); (repeat' split) <;> first | rfl | omega | (symm; exact decide_eq_true (by omega)) | (symm; exact decide_eq_false (by omega)))
    · refine k_iconst (v := nI 1) hJ dX0_isDownwind_81 (by decide) ?_
      refine k_goto (tgt := 86) hJ dX0_isDownwind_82 (by decide) ?_
      exact hR _ _ _ () dX0_isDownwind_86 (by show kb true = _; refine congrArg kb ?_; unfold vDown; (try simp only [vKd, vPl, vNs, vCd, vSc]); (repeat' split) <;> first | rfl | omega | (symm; exact decide_eq_true (by omega)) | (symm; exact decide_eq_false (by omega)))
  · refine n_tabIn (c := 4) (tgt := 87) hJ dX0_isDownwind_4 c4 (by decide) (by decide) (by decide) rfl (by decide) ?_
    refine k_iload_n hJ dX0_isDownwind_87 1 rfl ?_
    refine k_bipush (v := nI 8) hJ dX0_isDownwind_88 (by decide) ?_
    refine n_irem hJ dX0_isDownwind_90 (by omega) (by omega) (by omega) ?_
    refine k_iload_n hJ dX0_isDownwind_91 2 rfl ?_
    refine k_bipush (v := nI 8) hJ dX0_isDownwind_92 (by decide) ?_
    refine n_irem hJ dX0_isDownwind_94 (by omega) (by omega) (by omega) ?_
    refine n_icmp_ge (tgt := 102) hJ dX0_isDownwind_95 (by decide) (by omega) (by omega) (fun c95 => ?_) (fun c95 => ?_)
    · refine k_iconst (v := nI 0) hJ dX0_isDownwind_102 (by decide) ?_
      exact hR _ _ _ () dX0_isDownwind_103 (by show kb false = _; refine congrArg kb ?_; unfold vDown; (try simp only [vKd, vPl, vNs, vCd, vSc]); (repeat' split) <;> first | rfl | omega | (symm; exact decide_eq_true (by omega)) | (symm; exact decide_eq_false (by omega)))
    · refine k_iconst (v := nI 1) hJ dX0_isDownwind_98 (by decide) ?_
      refine k_goto (tgt := 103) hJ dX0_isDownwind_99 (by decide) ?_
      exact hR _ _ _ () dX0_isDownwind_103 (by show kb true = _; refine congrArg kb ?_; unfold vDown; (try simp only [vKd, vPl, vNs, vCd, vSc]); (repeat' split) <;> first | rfl | omega | (symm; exact decide_eq_true (by omega)) | (symm; exact decide_eq_false (by omega)))
set_option maxHeartbeats 4000000 in
set_option maxRecDepth 100000 in
theorem ct_X0_givesOff (l : Launch) (g : KG) (a m : Nat → Nat) (lt : Nat → Int32) (p d : Nat)  {B : Nat} (hB : B < 2 ^ 30) (hm : vOk B m) (hp : p < 8) (hd : d < 6) : CI l yX0_givesOff cX0_givesOff 4 (some .int) (rmK 1) g [.ref (a 0), .int (nI p), .int (nI d)] (hallW g a m lt) (nI (vGives m p d)) (hallW g a m lt) := by
  refine k_bodyI (by decide) (Nat.le_of_ble_eq_true rfl) (fun _ _ _ => rfl) (fun J hJ hR => ?_)
  have h1 := hm.2.1
  show J (hallW g a m lt) [(0, .ref (a 0)), (1, .int (nI p)), (2, .int (nI d))] 0 []
  refine k_aload_n hJ dX0_givesOff_0 0 rfl ?_
  refine gf_X0_39 hJ 0 rfl rfl dX0_givesOff_1 ?_
  refine k_iload_n hJ dX0_givesOff_4 2 rfl ?_
  refine k_aald (f := fun i => some (a (7 + i))) (b := a (7 + d)) hJ 5 rfl d (by omega) (by decide) rfl dX0_givesOff_5 ?_
  refine k_iload_n hJ dX0_givesOff_6 1 rfl ?_
  refine k_iald hJ (7 + d) (hallW_row g a m lt (by omega)) p (by omega) (by decide) rfl dX0_givesOff_7 ?_
  have hb7 : m (4 + 10 * p + (4 + d)) ≤ 99 := hm.sc (show p < 8 by omega) (show d < 6 by omega)
  refine k_istore_n (lv1 := [(0, .ref (a 0)), (1, .int (nI p)), (2, .int (nI d)), (3, .int (nI (m (4 + 10 * p + (4 + d)))))]) hJ dX0_givesOff_8 (by decide) [1, 2, 3, 0] rfl ?_
  refine k_aload_n hJ dX0_givesOff_9 0 rfl ?_
  refine gf_X0_24 hJ 0 rfl rfl dX0_givesOff_10 ?_
  refine k_iload_n hJ dX0_givesOff_13 1 rfl ?_
  refine k_iald hJ 1 rfl p (by omega) (by decide) rfl dX0_givesOff_14 ?_
  have hb14 : m (4 + 10 * p + 0) ≤ 5 := hm.kd (show p < 8 by omega)
  rcases (show (m (4 + 10 * p + 0)) = 0 ∨ (m (4 + 10 * p + 0)) = 1 ∨ (m (4 + 10 * p + 0)) = 2 ∨ (m (4 + 10 * p + 0)) = 3 ∨ (m (4 + 10 * p + 0)) = 4 ∨ (m (4 + 10 * p + 0)) = 5 from by omega) with c15 | c15 | c15 | c15 | c15 | c15
  · refine n_tabOut (tgt := 116) hJ dX0_givesOff_15 (by omega) (by omega) (by decide) ?_
    refine k_iload_n hJ dX0_givesOff_116 3 rfl ?_
    exact hR _ _ _ () dX0_givesOff_117 (by refine congrArg nI ?_; unfold vGives; (try simp only [vKd, vPl, vNs, vCd, vSc]); (repeat' split) <;> first | rfl | omega)
  · refine n_tabIn (c := 1) (tgt := 48) hJ dX0_givesOff_15 c15 (by decide) (by decide) (by decide) rfl (by decide) ?_
    refine k_iload_n hJ dX0_givesOff_48 2 rfl ?_
    refine n_if_ne (tgt := 56) hJ dX0_givesOff_49 (by decide) (by omega) (fun c49 => ?_) (fun c49 => ?_)
    · refine k_iload_n hJ dX0_givesOff_56 3 rfl ?_
      exact hR _ _ _ () dX0_givesOff_57 (by refine congrArg nI ?_; unfold vGives; (try simp only [vKd, vPl, vNs, vCd, vSc]); (repeat' split) <;> first | rfl | omega)
    · refine k_iconst (v := nI 0) hJ dX0_givesOff_52 (by decide) ?_
      refine k_goto (tgt := 57) hJ dX0_givesOff_53 (by decide) ?_
      exact hR _ _ _ () dX0_givesOff_57 (by refine congrArg nI ?_; unfold vGives; (try simp only [vKd, vPl, vNs, vCd, vSc]); (repeat' split) <;> first | rfl | omega)
  · refine n_tabIn (c := 2) (tgt := 58) hJ dX0_givesOff_15 c15 (by decide) (by decide) (by decide) rfl (by decide) ?_
    refine k_iload_n hJ dX0_givesOff_58 3 rfl ?_
    refine k_bipush (v := nI 10) hJ dX0_givesOff_59 (by decide) ?_
    refine k_isub hJ dX0_givesOff_61 ?_
    refine k_iconst (v := nI 0) hJ dX0_givesOff_62 (by decide) ?_
    refine k_mmax hJ ml_X0_59 (Nat.le_of_ble_eq_true rfl) dX0_givesOff_63 ?_
    refine k_eqs (st2 := [.int (nI (m (4 + 10 * p + (4 + d)) - 10))]) (by rw [nI_max0 (by omega) (by omega)]) ?_
    exact hR _ _ _ () dX0_givesOff_66 (by refine congrArg nI ?_; unfold vGives; (try simp only [vKd, vPl, vNs, vCd, vSc]); (repeat' split) <;> first | rfl | omega)
  · refine n_tabIn (c := 3) (tgt := 98) hJ dX0_givesOff_15 c15 (by decide) (by decide) (by decide) rfl (by decide) ?_
    refine k_iload_n hJ dX0_givesOff_98 3 rfl ?_
    refine k_iload_n hJ dX0_givesOff_99 3 rfl ?_
    refine k_iconst (v := nI 2) hJ dX0_givesOff_100 (by decide) ?_
    refine n_idiv hJ dX0_givesOff_101 (by omega) (by omega) (by omega) ?_
    refine n_iadd hJ dX0_givesOff_102 ?_
    exact hR _ _ _ () dX0_givesOff_103 (by refine congrArg nI ?_; unfold vGives; (try simp only [vKd, vPl, vNs, vCd, vSc]); (repeat' split) <;> first | rfl | omega)
  · refine n_tabIn (c := 4) (tgt := 67) hJ dX0_givesOff_15 c15 (by decide) (by decide) (by decide) rfl (by decide) ?_
    refine k_aload_n hJ dX0_givesOff_67 0 rfl ?_
    refine gf_X0_18 hJ 0 rfl rfl dX0_givesOff_68 ?_
    refine k_iconst (v := nI 2) hJ dX0_givesOff_71 (by decide) ?_
    refine n_irem hJ dX0_givesOff_72 (by omega) (by omega) (by omega) ?_
    refine n_if_ne (tgt := 89) hJ dX0_givesOff_73 (by decide) (by omega) (fun c73 => ?_) (fun c73 => ?_)
    · refine k_iload_n hJ dX0_givesOff_89 3 rfl ?_
      refine k_bipush (v := nI 10) hJ dX0_givesOff_90 (by decide) ?_
      refine k_isub hJ dX0_givesOff_92 ?_
      refine k_iconst (v := nI 0) hJ dX0_givesOff_93 (by decide) ?_
      refine k_mmax hJ ml_X0_59 (Nat.le_of_ble_eq_true rfl) dX0_givesOff_94 ?_
      refine k_eqs (st2 := [.int (nI (m (4 + 10 * p + (4 + d)) - 10))]) (by rw [nI_max0 (by omega) (by omega)]) ?_
      exact hR _ _ _ () dX0_givesOff_97 (by refine congrArg nI ?_; unfold vGives; (try simp only [vKd, vPl, vNs, vCd, vSc]); (repeat' split) <;> first | rfl | omega)
    · refine k_iload_n hJ dX0_givesOff_76 3 rfl ?_
      refine k_bipush (v := nI 10) hJ dX0_givesOff_77 (by decide) ?_
      refine k_isub hJ dX0_givesOff_79 ?_
      refine k_iconst (v := nI 0) hJ dX0_givesOff_80 (by decide) ?_
      refine k_mmax hJ ml_X0_59 (Nat.le_of_ble_eq_true rfl) dX0_givesOff_81 ?_
      refine k_eqs (st2 := [.int (nI (m (4 + 10 * p + (4 + d)) - 10))]) (by rw [nI_max0 (by omega) (by omega)]) ?_
      refine k_iconst (v := nI 2) hJ dX0_givesOff_84 (by decide) ?_
      refine n_idiv hJ dX0_givesOff_85 (by omega) (by omega) (by omega) ?_
      refine k_goto (tgt := 97) hJ dX0_givesOff_86 (by decide) ?_
      exact hR _ _ _ () dX0_givesOff_97 (by refine congrArg nI ?_; unfold vGives; (try simp only [vKd, vPl, vNs, vCd, vSc]); (repeat' split) <;> first | rfl | omega)
  · refine n_tabIn (c := 5) (tgt := 104) hJ dX0_givesOff_15 c15 (by decide) (by decide) (by decide) rfl (by decide) ?_
    refine k_iload_n hJ dX0_givesOff_104 3 rfl ?_
    refine k_iload_n hJ dX0_givesOff_105 3 rfl ?_
    refine k_iconst (v := nI 2) hJ dX0_givesOff_106 (by decide) ?_
    refine n_idiv hJ dX0_givesOff_107 (by omega) (by omega) (by omega) ?_
    refine n_iadd hJ dX0_givesOff_108 ?_
    refine k_iconst (v := nI 5) hJ dX0_givesOff_109 (by decide) ?_
    refine k_isub hJ dX0_givesOff_110 ?_
    refine k_iconst (v := nI 0) hJ dX0_givesOff_111 (by decide) ?_
    refine k_mmax hJ ml_X0_59 (Nat.le_of_ble_eq_true rfl) dX0_givesOff_112 ?_
    refine k_eqs (st2 := [.int (nI (m (4 + 10 * p + (4 + d)) + m (4 + 10 * p + (4 + d)) / 2 - 5))]) (by rw [nI_max0 (by omega) (by omega)]) ?_
    exact hR _ _ _ () dX0_givesOff_115 (by refine congrArg nI ?_; unfold vGives; (try simp only [vKd, vPl, vNs, vCd, vSc]); (repeat' split) <;> first | rfl | omega)
set_option maxHeartbeats 4000000 in
set_option maxRecDepth 100000 in
theorem ct_X0_senses (l : Launch) (g : KG) (a m : Nat → Nat) (lt : Nat → Int32) (p gv far : Nat)  {B : Nat} (hB : B < 2 ^ 30) (hm : vOk B m) (hp : p < 8) (hg : gv ≤ 148) (hf : far ≤ 12) : CI l yX0_senses cX0_senses 5 (some .int) (rmK 0) g [.ref (a 0), .int (nI p), .int (nI gv), .int (nI far)] (hallW g a m lt) (nI (vSense m p gv far)) (hallW g a m lt) := by
  refine k_bodyI (by decide) (Nat.le_of_ble_eq_true rfl) (fun _ _ _ => rfl) (fun J hJ hR => ?_)
  have hq : gv * m (4 + 10 * p + 2) / (far + 5) ≤ 1332 := vPlain_le hg (hm.ns hp)
  have hq0 : gv * m (4 + 10 * p + 2) ≤ 148 * 9 := Nat.mul_le_mul hg (hm.ns hp)
  show J (hallW g a m lt) [(0, .ref (a 0)), (1, .int (nI p)), (2, .int (nI gv)), (3, .int (nI far))] 0 []
  refine k_aload_n hJ dX0_senses_0 0 rfl ?_
  refine gf_X0_34 hJ 0 rfl rfl dX0_senses_1 ?_
  refine k_iload_n hJ dX0_senses_4 1 rfl ?_
  refine k_iald hJ 4 rfl p (by omega) (by decide) rfl dX0_senses_5 ?_
  have hb5 : m (4 + 10 * p + 3) ≤ 1 := hm.cd (show p < 8 by omega)
  refine n_if_eq (tgt := 11) hJ dX0_senses_6 (by decide) (by omega) (fun c6 => ?_) (fun c6 => ?_)
  · refine k_iload_n hJ dX0_senses_11 2 rfl ?_
    refine k_aload_n hJ dX0_senses_12 0 rfl ?_
    refine gf_X0_31 hJ 0 rfl rfl dX0_senses_13 ?_
    refine k_iload_n hJ dX0_senses_16 1 rfl ?_
    refine k_iald hJ 3 rfl p (by omega) (by decide) rfl dX0_senses_17 ?_
    have hb17 : m (4 + 10 * p + 2) ≤ 9 := hm.ns (show p < 8 by omega)
    refine n_imul hJ dX0_senses_18 ?_
    refine k_iload_n hJ dX0_senses_19 3 rfl ?_
    refine k_iconst (v := nI 5) hJ dX0_senses_20 (by decide) ?_
    refine n_iadd hJ dX0_senses_21 ?_
    refine n_idiv hJ dX0_senses_22 (by omega) (by omega) (by omega) ?_
    refine k_istore (lv1 := [(0, .ref (a 0)), (1, .int (nI p)), (2, .int (nI gv)), (3, .int (nI far)), (4, .int (nI ((gv * (m (4 + 10 * p + 2))) / (far + 5))))]) hJ dX0_senses_23 (by decide) [1, 2, 3, 4, 0] rfl ?_
    refine k_aload_n hJ dX0_senses_25 0 rfl ?_
    refine gf_X0_24 hJ 0 rfl rfl dX0_senses_26 ?_
    refine k_iload_n hJ dX0_senses_29 1 rfl ?_
    refine k_iald hJ 1 rfl p (by omega) (by decide) rfl dX0_senses_30 ?_
    have hb30 : m (4 + 10 * p + 0) ≤ 5 := hm.kd (show p < 8 by omega)
    rcases (show (m (4 + 10 * p + 0)) = 0 ∨ (m (4 + 10 * p + 0)) = 1 ∨ (m (4 + 10 * p + 0)) = 2 ∨ (m (4 + 10 * p + 0)) = 3 ∨ (m (4 + 10 * p + 0)) = 4 ∨ (m (4 + 10 * p + 0)) = 5 from by omega) with c31 | c31 | c31 | c31 | c31 | c31
    · refine n_tabOut (tgt := 96) hJ dX0_senses_31 (by omega) (by omega) (by decide) ?_
      refine k_iload hJ dX0_senses_96 4 rfl ?_
      exact hR _ _ _ () dX0_senses_98 (by refine congrArg nI ?_; unfold vSense; (try simp only [vKd, vPl, vNs, vCd, vSc]); (repeat' split) <;> first | rfl | omega)
    · refine n_tabIn (c := 1) (tgt := 64) hJ dX0_senses_31 c31 (by decide) (by decide) (by decide) rfl (by decide) ?_
      refine k_iload_n hJ dX0_senses_64 3 rfl ?_
      refine n_if_ne (tgt := 72) hJ dX0_senses_65 (by decide) (by omega) (fun c65 => ?_) (fun c65 => ?_)
      · refine k_iload hJ dX0_senses_72 4 rfl ?_
        exact hR _ _ _ () dX0_senses_74 (by refine congrArg nI ?_; unfold vSense; (try simp only [vKd, vPl, vNs, vCd, vSc]); (repeat' split) <;> first | rfl | omega)
      · refine k_iconst (v := nI 0) hJ dX0_senses_68 (by decide) ?_
        refine k_goto (tgt := 74) hJ dX0_senses_69 (by decide) ?_
        exact hR _ _ _ () dX0_senses_74 (by refine congrArg nI ?_; unfold vSense; (try simp only [vKd, vPl, vNs, vCd, vSc]); (repeat' split) <;> first | rfl | omega)
    · refine n_tabIn (c := 2) (tgt := 96) hJ dX0_senses_31 c31 (by decide) (by decide) (by decide) rfl (by decide) ?_
      refine k_iload hJ dX0_senses_96 4 rfl ?_
      exact hR _ _ _ () dX0_senses_98 (by refine congrArg nI ?_; unfold vSense; (try simp only [vKd, vPl, vNs, vCd, vSc]); (repeat' split) <;> first | rfl | omega)
    · refine n_tabIn (c := 3) (tgt := 75) hJ dX0_senses_31 c31 (by decide) (by decide) (by decide) rfl (by decide) ?_
      refine k_iconst (v := nI 2) hJ dX0_senses_75 (by decide) ?_
      refine k_iload hJ dX0_senses_76 4 rfl ?_
      refine n_imul hJ dX0_senses_78 ?_
      exact hR _ _ _ () dX0_senses_79 (by refine congrArg nI ?_; unfold vSense; (try simp only [vKd, vPl, vNs, vCd, vSc]); (repeat' split) <;> first | rfl | omega)
    · refine n_tabIn (c := 4) (tgt := 96) hJ dX0_senses_31 c31 (by decide) (by decide) (by decide) rfl (by decide) ?_
      refine k_iload hJ dX0_senses_96 4 rfl ?_
      exact hR _ _ _ () dX0_senses_98 (by refine congrArg nI ?_; unfold vSense; (try simp only [vKd, vPl, vNs, vCd, vSc]); (repeat' split) <;> first | rfl | omega)
    · refine n_tabIn (c := 5) (tgt := 80) hJ dX0_senses_31 c31 (by decide) (by decide) (by decide) rfl (by decide) ?_
      refine k_iload hJ dX0_senses_80 4 rfl ?_
      refine n_if_le (tgt := 94) hJ dX0_senses_82 (by decide) (by omega) (fun c82 => ?_) (fun c82 => ?_)
      · refine k_iconst (v := nI 0) hJ dX0_senses_94 (by decide) ?_
        exact hR _ _ _ () dX0_senses_95 (by refine congrArg nI ?_; unfold vSense; (try simp only [vKd, vPl, vNs, vCd, vSc]); (repeat' split) <;> first | rfl | omega)
      · refine k_iconst (v := nI 2) hJ dX0_senses_85 (by decide) ?_
        refine k_iload hJ dX0_senses_86 4 rfl ?_
        refine n_imul hJ dX0_senses_88 ?_
        refine k_iconst (v := nI 3) hJ dX0_senses_89 (by decide) ?_
        refine n_iadd hJ dX0_senses_90 ?_
        refine k_goto (tgt := 95) hJ dX0_senses_91 (by decide) ?_
        exact hR _ _ _ () dX0_senses_95 (by refine congrArg nI ?_; unfold vSense; (try simp only [vKd, vPl, vNs, vCd, vSc]); (repeat' split) <;> first | rfl | omega)
  · refine k_iconst (v := nI 0) hJ dX0_senses_9 (by decide) ?_
    exact hR _ _ _ () dX0_senses_10 (by refine congrArg nI ?_; unfold vSense; (try simp only [vKd, vPl, vNs, vCd, vSc]); (repeat' split) <;> first | rfl | omega)
