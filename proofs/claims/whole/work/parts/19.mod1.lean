/-- the rest of the reference's cells: then, aside, statuses, keptS, other, tape, bitsOf, sizeOf, numbers, moved -/
def modR (g : KG) (b : Nat → Nat) (th ai ct ks ot : Nat → Int32) (tp sb sz : Nat → Nat) (nu : Nat → Nat → Int64) (mo : Nat → Int64) : va_W := [(b 6, .inl (kI g, 48, .inl th)), (b 4, .inl (kI g, 84, .inl ai)), (b 5, .inl (kI g, 7, .inl ct)), (b 2, .inl (kI g, 84, .inl ks)), (b 3, .inl (kI g, 84, .inl ot)), (b 7, .inl (kI g, 120, .inl (fun i => nI (tp i)))), (b 8, .inl (kI g, 4, .inl (fun i => nI (sb i)))), (b 9, .inl (kI g, 4, .inl (fun i => nI (sz i)))), (b 10, .inl (kL g, 160, .inr (.inl (fun i => nu (i / 40) (i % 40))))), (b 11, .inl (kL g, 40, .inr (.inl mo)))]
def modW (g : KG) (b : Nat → Nat) (e : Nat → Int32) (m : Nat → Nat) (th ai ct ks ot : Nat → Int32) (tp sb sz : Nat → Nat) (nu : Nat → Nat → Int64) (mo : Nat → Int64) : va_W := modS g b e m ++ modR g b th ai ct ks ot tp sb sz nu mo
theorem nI_upd (m : Nat → Nat) (i v : Nat) : upd (fun i => nI (m i)) i (nI v) = fun j => nI (vUp m i v j) := by
  funext j
  by_cases e : j = i
  · rw [e, pk_us, vUp_s]
  · rw [pk_un e, vUp_ne e]
section MW
variable {g : KG} {b : Nat → Nat} {e : Nat → Int32} {m m2 : Nat → Nat} {th ai ct ks ot : Nat → Int32} {tp sb sz : Nat → Nat} {nu : Nat → Nat → Int64} {mo : Nat → Int64} {i v : Nat}
theorem frS {e2 : Nat → Int32} (h : (modS g b e2 m2).map Prod.fst = (modS g b e m).map Prod.fst) : Fr (modW g b e m th ai ct ks ot tp sb sz nu mo) (modS g b e m) (modS g b e2 m2) (modW g b e2 m2 th ai ct ks ot tp sb sz nu mo) := ⟨[], modR g b th ai ct ks ot tp sb sz nu mo, rfl, rfl, h⟩
theorem mw_s : (modW g b e m th ai ct ks ot tp sb sz nu mo).set 1 (b 1, .inl (kI g, 84, .inl (upd (fun i => nI (m i)) i (nI v)))) = modW g b e (vUp m i v) th ai ct ks ot tp sb sz nu mo := by rw [nI_upd]; rfl
theorem mw_tp : (modW g b e m th ai ct ks ot tp sb sz nu mo).set 7 (b 7, .inl (kI g, 120, .inl (upd (fun i => nI (tp i)) i (nI v)))) = modW g b e m th ai ct ks ot (vUp tp i v) sb sz nu mo := by rw [nI_upd]; rfl
theorem mw_sb : (modW g b e m th ai ct ks ot tp sb sz nu mo).set 8 (b 8, .inl (kI g, 4, .inl (upd (fun i => nI (sb i)) i (nI v)))) = modW g b e m th ai ct ks ot tp (vUp sb i v) sz nu mo := by rw [nI_upd]; rfl
theorem mw_sz : (modW g b e m th ai ct ks ot tp sb sz nu mo).set 9 (b 9, .inl (kI g, 4, .inl (upd (fun i => nI (sz i)) i (nI v)))) = modW g b e m th ai ct ks ot tp sb (vUp sz i v) nu mo := by rw [nI_upd]; rfl
end MW
def vConv (jury f : Nat) : Bool := decide (vPop jury < 2 * vPop (jury &&& f))
theorem vPop_step : ∀ v, v < 256 → v ≠ 0 → (v &&& (v - 1)) < v ∧ vPop (v &&& (v - 1)) + 1 = vPop v := by decide +kernel
theorem vPop_le {s : Nat} : vPop s ≤ 8 := by unfold vPop; omega
theorem and_lt256 {a b : Nat} (h : a < 256) : a &&& b < 256 := Nat.lt_of_le_of_lt Nat.and_le_left h
/-- how many hours: one by one -/
theorem vOk_iter {B : Nat} {m : Nat → Nat} (h : vOk B m) : ∀ n, vOk (B + n) (vIter vHour n m)
  | 0 => h
  | n + 1 => vOk_hour (vOk_iter h n)
/-- the least of the values below n of one number by which fewest find one guilty, and how many -/
def vLst (m : Nat → Nat) (w p : Nat) : Nat → Nat × Nat
  | 0 => (0, 9)
  | v + 1 => if vPop (vFinders (vUp m w v) p) < (vLst m w p v).2 then (v, vPop (vFinders (vUp m w v) p)) else vLst m w p v
theorem vLst_le (m : Nat → Nat) (w p : Nat) : ∀ n, (vLst m w p n).2 ≤ 9 ∧ (vLst m w p n).1 ≤ n
  | 0 => ⟨Nat.le_refl 9, Nat.le_refl 0⟩
  | v + 1 => by
    have h := vLst_le m w p v
    have h2 := vPop_le (s := vFinders (vUp m w v) p)
    unfold vLst
    split
    · exact ⟨by show vPop _ ≤ 9; omega, by show v ≤ v + 1; omega⟩
    · exact ⟨h.1, by omega⟩
theorem vUp_id (m : Nat → Nat) (w : Nat) : vUp m w (m w) = m := by
  funext j
  by_cases e : j = w
  · rw [vUp_eq e, e]
  · rw [vUp_ne e]
theorem vUp_up (m : Nat → Nat) (w x y : Nat) : vUp (vUp m w x) w y = vUp m w y := by
  funext j
  by_cases e : j = w
  · rw [vUp_eq e, vUp_eq e]
  · rw [vUp_ne e, vUp_ne e, vUp_ne e]
def vJu (f p n s : Nat) : Bool := s / 2 ^ p % 2 == 0 && vPop s == n && vConv s f
/-- of the sets 1 .. s - 1: the first jury that convicts, and how many do -/
def vJ1 (f p n : Nat) : Nat → Option Nat
  | 0 => none
  | s + 1 => match vJ1 f p n s with
    | some x => some x
    | none => if 1 ≤ s ∧ vJu f p n s = true then some s else none
def vJn (f p n : Nat) : Nat → Nat
  | 0 => 0
  | s + 1 => vJn f p n s + (if 1 ≤ s ∧ vJu f p n s = true then 1 else 0)
theorem vJ_0 (f p n : Nat) : ∀ s, vJn f p n s = 0 ↔ vJ1 f p n s = none
  | 0 => by simp [vJn, vJ1]
  | s + 1 => by
    have ih := vJ_0 f p n s
    unfold vJn vJ1
    cases h : vJ1 f p n s with
    | none =>
      rw [ih.mpr h]
      by_cases c : 1 ≤ s ∧ vJu f p n s = true
      · rw [if_pos c, if_pos c]; simp
      · rw [if_neg c, if_neg c]; simp
    | some x =>
      have h2 : vJn f p n s ≠ 0 := fun q => by rw [ih.mp q] at h; cases h
      constructor
      · intro q; exfalso; omega
      · intro q; cases q
theorem vJn_le (f p n : Nat) : ∀ s, vJn f p n s ≤ s
  | 0 => Nat.le_refl 0
  | s + 1 => by
    have := vJn_le f p n s
    unfold vJn
    split <;> omega
theorem vJ1_lt {f p n : Nat} : ∀ {s x : Nat}, vJ1 f p n s = some x → x < s
  | 0, x, h => by cases h
  | s + 1, x, h => by
    unfold vJ1 at h
    cases h1 : vJ1 f p n s with
    | none =>
      rw [h1] at h
      simp only at h
      by_cases c : 1 ≤ s ∧ vJu f p n s = true
      · rw [if_pos c] at h; cases h; omega
      · rw [if_neg c] at h; cases h
    | some y =>
      rw [h1] at h
      cases h
      have := vJ1_lt h1
      omega
theorem bit_r : ∀ p, p < 8 → ∀ s, s < 256 → (nI s >>> (nI p &&& 31)) &&& nI 1 = nI (s / 2 ^ p % 2) := by decide +kernel
set_option maxHeartbeats 4000000 in
set_option maxRecDepth 100000 in
theorem ct_X4_ones (l : Launch) (g : KG) (s : Nat)  (hs : s < 256) : CI l yX4_ones cX4_ones 3 (some .int) (rmK 0) g [.int (nI s)] ([]) (nI (vPop s)) ([]) := by
  refine k_bodyI (by decide) (Nat.le_of_ble_eq_true rfl) (fun _ _ _ => rfl) (fun J hJ hR => ?_)
  show J ([]) [(0, .int (nI s))] 0 []
  have L4 : ∀ (k : Nat) (c : Nat) (v : Nat), (v < 256) → (v < k) → (c + vPop v = vPop s) → J ([]) [(0, .int (nI s)), (1, .int (nI c)), (2, .int (nI v))] 4 [] := by
    intro k
    induction k with
    | zero => intro c v hv hf hc; exfalso; omega
    | succ k ih =>
      intro c v hv hf hc
      refine k_iload_n hJ dX4_ones_4 2 rfl ?_
      refine n_if_eq (tgt := 20) hJ dX4_ones_5 (by decide) (by omega) (fun c5 => ?_) (fun c5 => ?_)
      · refine k_iload_n hJ dX4_ones_20 1 rfl ?_
        exact hR _ _ _ () dX4_ones_21 (by refine congrArg nI ?_; have h0 : vPop 0 = 0 := rfl; rw [c5, h0] at hc; exact hc)
      · have hq := vPop_step v hv c5
        refine n_iinc (b := 1) (lv1 := [(0, .int (nI s)), (1, .int (nI (c + 1))), (2, .int (nI v))]) hJ dX4_ones_8 1 rfl (by decide) (by decide) [1, 0, 2] rfl ?_
        refine k_iload_n hJ dX4_ones_11 2 rfl ?_
        refine k_iload_n hJ dX4_ones_12 2 rfl ?_
        refine k_iconst (v := nI 1) hJ dX4_ones_13 (by decide) ?_
        refine n_isub hJ dX4_ones_14 (by omega) ?_
        refine n_iand hJ dX4_ones_15 ?_
        refine k_istore_n (lv1 := [(0, .int (nI s)), (1, .int (nI (c + 1))), (2, .int (nI (v &&& (v - 1))))]) hJ dX4_ones_16 (by decide) [1, 2, 0] rfl ?_
        refine k_goto (tgt := 4) hJ dX4_ones_17 (by decide) ?_
        exact ih (c + 1) (v &&& (v - 1)) (by omega) (by omega) (by omega)
  refine k_iconst (v := nI 0) hJ dX4_ones_0 (by decide) ?_
  refine k_istore_n (lv1 := [(0, .int (nI s)), (1, .int (nI 0))]) hJ dX4_ones_1 (by decide) [1, 0] rfl ?_
  refine k_iload_n hJ dX4_ones_2 0 rfl ?_
  refine k_istore_n (lv1 := [(0, .int (nI s)), (1, .int (nI 0)), (2, .int (nI s))]) hJ dX4_ones_3 (by decide) [1, 2, 0] rfl ?_
  exact L4 (s + 1) 0 s (by omega) (by omega) (by omega)
set_option maxHeartbeats 4000000 in
set_option maxRecDepth 100000 in
theorem ct_X4_isConvicted (l : Launch) (g : KG) (j f : Nat)  (hj : j < 256) (hf : f < 256) : CI l yX4_isConvicted cX4_isConvicted 2 (some .boolean) (rmK 1) g [.int (nI j), .int (nI f)] ([]) (kb (vConv j f)) ([]) := by
  refine k_bodyI (by decide) (Nat.le_of_ble_eq_true rfl) (fun _ _ h => by rw [h]; exact kb_nar _) (fun J hJ hR => ?_)
  have h1 := vPop_le (s := j)
  have h2 := vPop_le (s := j &&& f)
  show J ([]) [(0, .int (nI j)), (1, .int (nI f))] 0 []
  refine k_iconst (v := nI 2) hJ dX4_isConvicted_0 (by decide) ?_
  refine k_iload_n hJ dX4_isConvicted_1 0 rfl ?_
  refine k_iload_n hJ dX4_isConvicted_2 1 rfl ?_
  refine n_iand hJ dX4_isConvicted_3 ?_
  refine c_SI (As := [.int (nI (j &&& f))]) (st := [.int (nI 2)]) hJ (ct_X4_ones l g (j &&& f) (by first | omega | exact and_lt256 (by omega))) Fr.none ms_X4_ones ml_X4_136 (kRm_ok (by decide) (by decide)) rfl rfl (Nat.le_of_ble_eq_true rfl) dX4_isConvicted_4 ?_
  refine n_imul hJ dX4_isConvicted_7 ?_
  refine k_iload_n hJ dX4_isConvicted_8 0 rfl ?_
  refine c_SI (As := [.int (nI j)]) (st := [.int (nI (2 * (vPop (j &&& f))))]) hJ (ct_X4_ones l g j (by first | omega | exact and_lt256 (by omega))) Fr.none ms_X4_ones ml_X4_136 (kRm_ok (by decide) (by decide)) rfl rfl (Nat.le_of_ble_eq_true rfl) dX4_isConvicted_9 ?_
  refine n_icmp_le (tgt := 19) hJ dX4_isConvicted_12 (by decide) (by omega) (by omega) (fun c12 => ?_) (fun c12 => ?_)
  · refine k_iconst (v := nI 0) hJ dX4_isConvicted_19 (by decide) ?_
    exact hR _ _ _ () dX4_isConvicted_20 (by show kb false = _; refine congrArg kb ?_; unfold vConv; (try simp only [vKd, vPl, vNs, vCd, vSc]); (repeat' split) <;> first | rfl | omega | (symm; exact decide_eq_true (by omega)) | (symm; exact decide_eq_false (by omega)))
  · refine k_iconst (v := nI 1) hJ dX4_isConvicted_15 (by decide) ?_
    refine k_goto (tgt := 20) hJ dX4_isConvicted_16 (by decide) ?_
    exact hR _ _ _ () dX4_isConvicted_20 (by show kb true = _; refine congrArg kb ?_; unfold vConv; (try simp only [vKd, vPl, vNs, vCd, vSc]); (repeat' split) <;> first | rfl | omega | (symm; exact decide_eq_true (by omega)) | (symm; exact decide_eq_false (by omega)))
set_option maxHeartbeats 4000000 in
set_option maxRecDepth 100000 in
theorem ct_X4_findersMany (l : Launch) (g : KG) (b : Nat → Nat) (e : Nat → Int32) (m : Nat → Nat) (o : Nat)  {B : Nat} (hB : B < 2 ^ 30) (hm : vOk B m) (ho : o < 8) : CI l yX4_findersMany cX4_findersMany 2 (some .int) (rmK 6) g [.ref (b 0), .int (nI o)] (modS g b e m) (nI (vPop (vFinders m o))) (modS g b e m) := by
  refine k_bodyI (by decide) (Nat.le_of_ble_eq_true rfl) (fun _ _ _ => rfl) (fun J hJ hR => ?_)
  have h0 : vFinders m o < 256 := vBits_le8 _ hm.1
  show J (modS g b e m) [(0, .ref (b 0)), (1, .int (nI o))] 0 []
  refine k_aload_n hJ dX4_findersMany_0 0 rfl ?_
  refine k_iload_n hJ dX4_findersMany_1 1 rfl ?_
  refine c_VI (As := [.int (nI o)]) (st := []) hJ (ct_X4_finders l g b e m o hB hm (by omega)) (Fr.all rfl) mv_X4_finders ml_X4_133 0 rfl rfl rfl (kRm_ok (by decide) (by decide)) rfl rfl (Nat.le_of_ble_eq_true rfl) dX4_findersMany_2 ?_
  refine c_SI (As := [.int (nI (vFinders m o))]) (st := []) hJ (ct_X4_ones l g (vFinders m o) (by first | omega | exact and_lt256 (by omega))) Fr.none ms_X4_ones ml_X4_136 (kRm_ok (by decide) (by decide)) rfl rfl (Nat.le_of_ble_eq_true rfl) dX4_findersMany_5 ?_
  exact hR _ _ _ () dX4_findersMany_8 rfl
set_option maxHeartbeats 4000000 in
set_option maxRecDepth 100000 in
theorem ct_J6_bitCount_0f7a4 (l : Launch) (g : KG) (s : Nat)  (hs : s < 256) : CI l yJ6_bitCount_0f7a4 cJ6_bitCount_0f7a4 1 (some .int) (rmK 0) g [.int (nI s)] ([]) (nI (vPop s)) ([]) := by
  refine k_bodyI (by decide) (Nat.le_of_ble_eq_true rfl) (fun _ _ _ => rfl) (fun J hJ hR => ?_)
  show J ([]) [(0, .int (nI s))] 0 []
  refine k_iload_n hJ dJ6_bitCount_0f7a4_0 0 rfl ?_
  refine k_iload_n hJ dJ6_bitCount_0f7a4_1 0 rfl ?_
  refine k_iconst (v := nI 1) hJ dJ6_bitCount_0f7a4_2 (by decide) ?_
  refine k_iushr hJ dJ6_bitCount_0f7a4_3 rfl ?_
  refine k_ldcw hJ dJ6_bitCount_0f7a4_4 cw_J6_265 ?_
  refine k_iand hJ dJ6_bitCount_0f7a4_7 ?_
  refine k_isub hJ dJ6_bitCount_0f7a4_8 ?_
  refine k_istore_n (lv1 := [(0, .int ((nI s) - ((((nI s).toUInt32 >>> ((nI 1).toUInt32 &&& Int32.toUInt32 31)).toInt32) &&& (1431655765))))]) hJ dJ6_bitCount_0f7a4_9 (by decide) [0] rfl ?_
  refine k_iload_n hJ dJ6_bitCount_0f7a4_10 0 rfl ?_
  refine k_ldcw hJ dJ6_bitCount_0f7a4_11 cw_J6_266 ?_
  refine k_iand hJ dJ6_bitCount_0f7a4_14 ?_
  refine k_iload_n hJ dJ6_bitCount_0f7a4_15 0 rfl ?_
  refine k_iconst (v := nI 2) hJ dJ6_bitCount_0f7a4_16 (by decide) ?_
  refine k_iushr hJ dJ6_bitCount_0f7a4_17 rfl ?_
  refine k_ldcw hJ dJ6_bitCount_0f7a4_18 cw_J6_266 ?_
  refine k_iand hJ dJ6_bitCount_0f7a4_21 ?_
  refine k_iadd hJ dJ6_bitCount_0f7a4_22 ?_
  refine k_istore_n (lv1 := [(0, .int ((((nI s) - ((((nI s).toUInt32 >>> ((nI 1).toUInt32 &&& Int32.toUInt32 31)).toInt32) &&& (1431655765))) &&& (858993459)) + (((((nI s) - ((((nI s).toUInt32 >>> ((nI 1).toUInt32 &&& Int32.toUInt32 31)).toInt32) &&& (1431655765))).toUInt32 >>> ((nI 2).toUInt32 &&& Int32.toUInt32 31)).toInt32) &&& (858993459))))]) hJ dJ6_bitCount_0f7a4_23 (by decide) [0] rfl ?_
  refine k_iload_n hJ dJ6_bitCount_0f7a4_24 0 rfl ?_
  refine k_iload_n hJ dJ6_bitCount_0f7a4_25 0 rfl ?_
  refine k_iconst (v := nI 4) hJ dJ6_bitCount_0f7a4_26 (by decide) ?_
  refine k_iushr hJ dJ6_bitCount_0f7a4_27 rfl ?_
  refine k_iadd hJ dJ6_bitCount_0f7a4_28 ?_
  refine k_ldcw hJ dJ6_bitCount_0f7a4_29 cw_J6_267 ?_
  refine k_iand hJ dJ6_bitCount_0f7a4_32 ?_
  refine k_istore_n (lv1 := [(0, .int ((((((nI s) - ((((nI s).toUInt32 >>> ((nI 1).toUInt32 &&& Int32.toUInt32 31)).toInt32) &&& (1431655765))) &&& (858993459)) + (((((nI s) - ((((nI s).toUInt32 >>> ((nI 1).toUInt32 &&& Int32.toUInt32 31)).toInt32) &&& (1431655765))).toUInt32 >>> ((nI 2).toUInt32 &&& Int32.toUInt32 31)).toInt32) &&& (858993459))) + ((((((nI s) - ((((nI s).toUInt32 >>> ((nI 1).toUInt32 &&& Int32.toUInt32 31)).toInt32) &&& (1431655765))) &&& (858993459)) + (((((nI s) - ((((nI s).toUInt32 >>> ((nI 1).toUInt32 &&& Int32.toUInt32 31)).toInt32) &&& (1431655765))).toUInt32 >>> ((nI 2).toUInt32 &&& Int32.toUInt32 31)).toInt32) &&& (858993459))).toUInt32 >>> ((nI 4).toUInt32 &&& Int32.toUInt32 31)).toInt32)) &&& (252645135)))]) hJ dJ6_bitCount_0f7a4_33 (by decide) [0] rfl ?_
  refine k_iload_n hJ dJ6_bitCount_0f7a4_34 0 rfl ?_
  refine k_iload_n hJ dJ6_bitCount_0f7a4_35 0 rfl ?_
  refine k_bipush (v := nI 8) hJ dJ6_bitCount_0f7a4_36 (by decide) ?_
  refine k_iushr hJ dJ6_bitCount_0f7a4_38 rfl ?_
  refine k_iadd hJ dJ6_bitCount_0f7a4_39 ?_
  refine k_istore_n (lv1 := [(0, .int (((((((nI s) - ((((nI s).toUInt32 >>> ((nI 1).toUInt32 &&& Int32.toUInt32 31)).toInt32) &&& (1431655765))) &&& (858993459)) + (((((nI s) - ((((nI s).toUInt32 >>> ((nI 1).toUInt32 &&& Int32.toUInt32 31)).toInt32) &&& (1431655765))).toUInt32 >>> ((nI 2).toUInt32 &&& Int32.toUInt32 31)).toInt32) &&& (858993459))) + ((((((nI s) - ((((nI s).toUInt32 >>> ((nI 1).toUInt32 &&& Int32.toUInt32 31)).toInt32) &&& (1431655765))) &&& (858993459)) + (((((nI s) - ((((nI s).toUInt32 >>> ((nI 1).toUInt32 &&& Int32.toUInt32 31)).toInt32) &&& (1431655765))).toUInt32 >>> ((nI 2).toUInt32 &&& Int32.toUInt32 31)).toInt32) &&& (858993459))).toUInt32 >>> ((nI 4).toUInt32 &&& Int32.toUInt32 31)).toInt32)) &&& (252645135)) + ((((((((nI s) - ((((nI s).toUInt32 >>> ((nI 1).toUInt32 &&& Int32.toUInt32 31)).toInt32) &&& (1431655765))) &&& (858993459)) + (((((nI s) - ((((nI s).toUInt32 >>> ((nI 1).toUInt32 &&& Int32.toUInt32 31)).toInt32) &&& (1431655765))).toUInt32 >>> ((nI 2).toUInt32 &&& Int32.toUInt32 31)).toInt32) &&& (858993459))) + ((((((nI s) - ((((nI s).toUInt32 >>> ((nI 1).toUInt32 &&& Int32.toUInt32 31)).toInt32) &&& (1431655765))) &&& (858993459)) + (((((nI s) - ((((nI s).toUInt32 >>> ((nI 1).toUInt32 &&& Int32.toUInt32 31)).toInt32) &&& (1431655765))).toUInt32 >>> ((nI 2).toUInt32 &&& Int32.toUInt32 31)).toInt32) &&& (858993459))).toUInt32 >>> ((nI 4).toUInt32 &&& Int32.toUInt32 31)).toInt32)) &&& (252645135)).toUInt32 >>> ((nI 8).toUInt32 &&& Int32.toUInt32 31)).toInt32)))]) hJ dJ6_bitCount_0f7a4_40 (by decide) [0] rfl ?_
  refine k_iload_n hJ dJ6_bitCount_0f7a4_41 0 rfl ?_
  refine k_iload_n hJ dJ6_bitCount_0f7a4_42 0 rfl ?_
  refine k_bipush (v := nI 16) hJ dJ6_bitCount_0f7a4_43 (by decide) ?_
  refine k_iushr hJ dJ6_bitCount_0f7a4_45 rfl ?_
  refine k_iadd hJ dJ6_bitCount_0f7a4_46 ?_
  refine k_istore_n (lv1 := [(0, .int ((((((((nI s) - ((((nI s).toUInt32 >>> ((nI 1).toUInt32 &&& Int32.toUInt32 31)).toInt32) &&& (1431655765))) &&& (858993459)) + (((((nI s) - ((((nI s).toUInt32 >>> ((nI 1).toUInt32 &&& Int32.toUInt32 31)).toInt32) &&& (1431655765))).toUInt32 >>> ((nI 2).toUInt32 &&& Int32.toUInt32 31)).toInt32) &&& (858993459))) + ((((((nI s) - ((((nI s).toUInt32 >>> ((nI 1).toUInt32 &&& Int32.toUInt32 31)).toInt32) &&& (1431655765))) &&& (858993459)) + (((((nI s) - ((((nI s).toUInt32 >>> ((nI 1).toUInt32 &&& Int32.toUInt32 31)).toInt32) &&& (1431655765))).toUInt32 >>> ((nI 2).toUInt32 &&& Int32.toUInt32 31)).toInt32) &&& (858993459))).toUInt32 >>> ((nI 4).toUInt32 &&& Int32.toUInt32 31)).toInt32)) &&& (252645135)) + ((((((((nI s) - ((((nI s).toUInt32 >>> ((nI 1).toUInt32 &&& Int32.toUInt32 31)).toInt32) &&& (1431655765))) &&& (858993459)) + (((((nI s) - ((((nI s).toUInt32 >>> ((nI 1).toUInt32 &&& Int32.toUInt32 31)).toInt32) &&& (1431655765))).toUInt32 >>> ((nI 2).toUInt32 &&& Int32.toUInt32 31)).toInt32) &&& (858993459))) + ((((((nI s) - ((((nI s).toUInt32 >>> ((nI 1).toUInt32 &&& Int32.toUInt32 31)).toInt32) &&& (1431655765))) &&& (858993459)) + (((((nI s) - ((((nI s).toUInt32 >>> ((nI 1).toUInt32 &&& Int32.toUInt32 31)).toInt32) &&& (1431655765))).toUInt32 >>> ((nI 2).toUInt32 &&& Int32.toUInt32 31)).toInt32) &&& (858993459))).toUInt32 >>> ((nI 4).toUInt32 &&& Int32.toUInt32 31)).toInt32)) &&& (252645135)).toUInt32 >>> ((nI 8).toUInt32 &&& Int32.toUInt32 31)).toInt32)) + (((((((((nI s) - ((((nI s).toUInt32 >>> ((nI 1).toUInt32 &&& Int32.toUInt32 31)).toInt32) &&& (1431655765))) &&& (858993459)) + (((((nI s) - ((((nI s).toUInt32 >>> ((nI 1).toUInt32 &&& Int32.toUInt32 31)).toInt32) &&& (1431655765))).toUInt32 >>> ((nI 2).toUInt32 &&& Int32.toUInt32 31)).toInt32) &&& (858993459))) + ((((((nI s) - ((((nI s).toUInt32 >>> ((nI 1).toUInt32 &&& Int32.toUInt32 31)).toInt32) &&& (1431655765))) &&& (858993459)) + (((((nI s) - ((((nI s).toUInt32 >>> ((nI 1).toUInt32 &&& Int32.toUInt32 31)).toInt32) &&& (1431655765))).toUInt32 >>> ((nI 2).toUInt32 &&& Int32.toUInt32 31)).toInt32) &&& (858993459))).toUInt32 >>> ((nI 4).toUInt32 &&& Int32.toUInt32 31)).toInt32)) &&& (252645135)) + ((((((((nI s) - ((((nI s).toUInt32 >>> ((nI 1).toUInt32 &&& Int32.toUInt32 31)).toInt32) &&& (1431655765))) &&& (858993459)) + (((((nI s) - ((((nI s).toUInt32 >>> ((nI 1).toUInt32 &&& Int32.toUInt32 31)).toInt32) &&& (1431655765))).toUInt32 >>> ((nI 2).toUInt32 &&& Int32.toUInt32 31)).toInt32) &&& (858993459))) + ((((((nI s) - ((((nI s).toUInt32 >>> ((nI 1).toUInt32 &&& Int32.toUInt32 31)).toInt32) &&& (1431655765))) &&& (858993459)) + (((((nI s) - ((((nI s).toUInt32 >>> ((nI 1).toUInt32 &&& Int32.toUInt32 31)).toInt32) &&& (1431655765))).toUInt32 >>> ((nI 2).toUInt32 &&& Int32.toUInt32 31)).toInt32) &&& (858993459))).toUInt32 >>> ((nI 4).toUInt32 &&& Int32.toUInt32 31)).toInt32)) &&& (252645135)).toUInt32 >>> ((nI 8).toUInt32 &&& Int32.toUInt32 31)).toInt32)).toUInt32 >>> ((nI 16).toUInt32 &&& Int32.toUInt32 31)).toInt32)))]) hJ dJ6_bitCount_0f7a4_47 (by decide) [0] rfl ?_
  refine k_iload_n hJ dJ6_bitCount_0f7a4_48 0 rfl ?_
  refine k_bipush (v := nI 63) hJ dJ6_bitCount_0f7a4_49 (by decide) ?_
  refine k_iand hJ dJ6_bitCount_0f7a4_51 ?_
  exact hR _ _ _ () dJ6_bitCount_0f7a4_52 ((by decide +kernel : ∀ s, s < 256 → ((((((((nI s) - ((((nI s).toUInt32 >>> ((nI 1).toUInt32 &&& Int32.toUInt32 31)).toInt32) &&& (1431655765))) &&& (858993459)) + (((((nI s) - ((((nI s).toUInt32 >>> ((nI 1).toUInt32 &&& Int32.toUInt32 31)).toInt32) &&& (1431655765))).toUInt32 >>> ((nI 2).toUInt32 &&& Int32.toUInt32 31)).toInt32) &&& (858993459))) + ((((((nI s) - ((((nI s).toUInt32 >>> ((nI 1).toUInt32 &&& Int32.toUInt32 31)).toInt32) &&& (1431655765))) &&& (858993459)) + (((((nI s) - ((((nI s).toUInt32 >>> ((nI 1).toUInt32 &&& Int32.toUInt32 31)).toInt32) &&& (1431655765))).toUInt32 >>> ((nI 2).toUInt32 &&& Int32.toUInt32 31)).toInt32) &&& (858993459))).toUInt32 >>> ((nI 4).toUInt32 &&& Int32.toUInt32 31)).toInt32)) &&& (252645135)) + ((((((((nI s) - ((((nI s).toUInt32 >>> ((nI 1).toUInt32 &&& Int32.toUInt32 31)).toInt32) &&& (1431655765))) &&& (858993459)) + (((((nI s) - ((((nI s).toUInt32 >>> ((nI 1).toUInt32 &&& Int32.toUInt32 31)).toInt32) &&& (1431655765))).toUInt32 >>> ((nI 2).toUInt32 &&& Int32.toUInt32 31)).toInt32) &&& (858993459))) + ((((((nI s) - ((((nI s).toUInt32 >>> ((nI 1).toUInt32 &&& Int32.toUInt32 31)).toInt32) &&& (1431655765))) &&& (858993459)) + (((((nI s) - ((((nI s).toUInt32 >>> ((nI 1).toUInt32 &&& Int32.toUInt32 31)).toInt32) &&& (1431655765))).toUInt32 >>> ((nI 2).toUInt32 &&& Int32.toUInt32 31)).toInt32) &&& (858993459))).toUInt32 >>> ((nI 4).toUInt32 &&& Int32.toUInt32 31)).toInt32)) &&& (252645135)).toUInt32 >>> ((nI 8).toUInt32 &&& Int32.toUInt32 31)).toInt32)) + (((((((((nI s) - ((((nI s).toUInt32 >>> ((nI 1).toUInt32 &&& Int32.toUInt32 31)).toInt32) &&& (1431655765))) &&& (858993459)) + (((((nI s) - ((((nI s).toUInt32 >>> ((nI 1).toUInt32 &&& Int32.toUInt32 31)).toInt32) &&& (1431655765))).toUInt32 >>> ((nI 2).toUInt32 &&& Int32.toUInt32 31)).toInt32) &&& (858993459))) + ((((((nI s) - ((((nI s).toUInt32 >>> ((nI 1).toUInt32 &&& Int32.toUInt32 31)).toInt32) &&& (1431655765))) &&& (858993459)) + (((((nI s) - ((((nI s).toUInt32 >>> ((nI 1).toUInt32 &&& Int32.toUInt32 31)).toInt32) &&& (1431655765))).toUInt32 >>> ((nI 2).toUInt32 &&& Int32.toUInt32 31)).toInt32) &&& (858993459))).toUInt32 >>> ((nI 4).toUInt32 &&& Int32.toUInt32 31)).toInt32)) &&& (252645135)) + ((((((((nI s) - ((((nI s).toUInt32 >>> ((nI 1).toUInt32 &&& Int32.toUInt32 31)).toInt32) &&& (1431655765))) &&& (858993459)) + (((((nI s) - ((((nI s).toUInt32 >>> ((nI 1).toUInt32 &&& Int32.toUInt32 31)).toInt32) &&& (1431655765))).toUInt32 >>> ((nI 2).toUInt32 &&& Int32.toUInt32 31)).toInt32) &&& (858993459))) + ((((((nI s) - ((((nI s).toUInt32 >>> ((nI 1).toUInt32 &&& Int32.toUInt32 31)).toInt32) &&& (1431655765))) &&& (858993459)) + (((((nI s) - ((((nI s).toUInt32 >>> ((nI 1).toUInt32 &&& Int32.toUInt32 31)).toInt32) &&& (1431655765))).toUInt32 >>> ((nI 2).toUInt32 &&& Int32.toUInt32 31)).toInt32) &&& (858993459))).toUInt32 >>> ((nI 4).toUInt32 &&& Int32.toUInt32 31)).toInt32)) &&& (252645135)).toUInt32 >>> ((nI 8).toUInt32 &&& Int32.toUInt32 31)).toInt32)).toUInt32 >>> ((nI 16).toUInt32 &&& Int32.toUInt32 31)).toInt32)) &&& (nI 63) = nI (vPop s)) s hs)
set_option maxHeartbeats 4000000 in
set_option maxRecDepth 100000 in
theorem ct_X4_greatestBy (l : Launch) (g : KG) (b : Nat → Nat) (e : Nat → Int32) (m : Nat → Nat) (p d : Nat)  {B : Nat} (hB : B < 2 ^ 30) (hm : vOk B m) (hp : p < 8) (hd : d < 6) : CI l yX4_greatestBy cX4_greatestBy 6 (some .int) (rmK 2) g [.ref (b 0), .int (nI p), .int (nI d)] (modS g b e m) (nI (vMax m p d (m 0))) (modS g b e m) := by
  refine k_bodyI (by decide) (Nat.le_of_ble_eq_true rfl) (fun _ _ _ => rfl) (fun J hJ hR => ?_)
  have h0 := hm.1
  show J (modS g b e m) [(0, .ref (b 0)), (1, .int (nI p)), (2, .int (nI d))] 0 []
  have L5 : ∀ (k : Nat) (i : Nat) (S : Nat), (i ≤ m 0) → (m 0 + 1 ≤ i + k) → (S = vMax m p d i) → (S ≤ 99) → J (modS g b e m) [(0, .ref (b 0)), (1, .int (nI p)), (2, .int (nI d)), (3, .int (nI S)), (4, .int (nI i))] 5 [] := by
    intro k
    induction k with
    | zero => intro i S hi hf hS hS9; exfalso; omega
    | succ k ih =>
      intro i S hi hf hS hS9
      refine k_iload hJ dX4_greatestBy_5 4 rfl ?_
      refine k_aload_n hJ dX4_greatestBy_7 0 rfl ?_
      refine gf_X4_7 hJ 0 rfl rfl dX4_greatestBy_8 ?_
      refine k_iconst (v := nI 0) hJ dX4_greatestBy_11 (by decide) ?_
      refine k_iald hJ 1 rfl 0 (by omega) (by decide) rfl dX4_greatestBy_12 ?_
      refine n_icmp_ge (tgt := 83) hJ dX4_greatestBy_13 (by decide) (by omega) (by omega) (fun c13 => ?_) (fun c13 => ?_)
      · refine k_iload_n hJ dX4_greatestBy_83 3 rfl ?_
        exact hR _ _ _ () dX4_greatestBy_84 (by rw [hS, show i = m 0 by omega])
      · refine k_iload hJ dX4_greatestBy_16 4 rfl ?_
        refine k_iload_n hJ dX4_greatestBy_18 1 rfl ?_
        refine n_icmp_eq (tgt := 55) hJ dX4_greatestBy_19 (by decide) (by omega) (by omega) (fun c19 => ?_) (fun c19 => ?_)
        · refine k_iconst (v := nI 0) hJ dX4_greatestBy_55 (by decide) ?_
          refine k_istore (lv1 := [(0, .ref (b 0)), (1, .int (nI p)), (2, .int (nI d)), (3, .int (nI S)), (4, .int (nI i)), (5, .int (nI 0))]) hJ dX4_greatestBy_56 (by decide) [1, 2, 3, 4, 5, 0] rfl ?_
          refine k_iload hJ dX4_greatestBy_58 5 rfl ?_
          refine n_if_eq (tgt := 75) hJ dX4_greatestBy_60 (by decide) (by omega) (fun c60 => ?_) (fun c60 => ?_)
          · refine k_iload_n hJ dX4_greatestBy_75 3 rfl ?_
            refine k_istore_n (lv1 := [(0, .ref (b 0)), (1, .int (nI p)), (2, .int (nI d)), (3, .int (nI S)), (4, .int (nI i)), (5, .int (nI 0))]) hJ dX4_greatestBy_76 (by decide) [1, 2, 3, 0, 4, 5] rfl ?_
            refine n_iinc (b := 1) (lv1 := [(0, .ref (b 0)), (1, .int (nI p)), (2, .int (nI d)), (3, .int (nI S)), (4, .int (nI (i + 1))), (5, .int (nI 0))]) hJ dX4_greatestBy_77 4 rfl (by decide) (by decide) [1, 2, 3, 4, 0, 5] rfl ?_
            refine k_goto (tgt := 5) hJ dX4_greatestBy_80 (by decide) ?_
            refine k_lv (lv1 := [(0, .ref (b 0)), (1, .int (nI p)), (2, .int (nI d)), (3, .int (nI S)), (4, .int (nI (i + 1)))]) hJ [0, 1, 2, 3, 4] rfl ?_
            exact ih (i + 1) S (by omega) (by omega) (by rw [vMax, if_neg (fun q => q.1 c19), hS]) (by omega)
          · exact absurd c60 (by decide)
        · refine k_aload_n hJ dX4_greatestBy_22 0 rfl ?_
          refine k_iload hJ dX4_greatestBy_23 4 rfl ?_
          refine k_iconst (v := nI 1) hJ dX4_greatestBy_25 (by decide) ?_
          refine c_VI (As := [.int (nI i), .int (nI 1)]) (st := []) hJ (ct_X4_its l g b e m i 1 (by omega) (by omega)) (Fr.all rfl) mv_X4_its ml_X4_82 0 rfl rfl rfl (kRm_ok (by decide) (by decide)) rfl rfl (Nat.le_of_ble_eq_true rfl) dX4_greatestBy_26 ?_
          have hb26 : m (4 + 10 * i + 1) ≤ 47 := hm.pl (show i < 8 by omega)
          refine k_aload_n hJ dX4_greatestBy_29 0 rfl ?_
          refine k_iload_n hJ dX4_greatestBy_30 1 rfl ?_
          refine k_iconst (v := nI 1) hJ dX4_greatestBy_31 (by decide) ?_
          refine c_VI (As := [.int (nI p), .int (nI 1)]) (st := [.int (nI (m (4 + 10 * i + 1)))]) hJ (ct_X4_its l g b e m p 1 (by omega) (by omega)) (Fr.all rfl) mv_X4_its ml_X4_82 0 rfl rfl rfl (kRm_ok (by decide) (by decide)) rfl rfl (Nat.le_of_ble_eq_true rfl) dX4_greatestBy_32 ?_
          have hb32 : m (4 + 10 * p + 1) ≤ 47 := hm.pl (show p < 8 by omega)
          refine n_icmp_ne (tgt := 55) hJ dX4_greatestBy_35 (by decide) (by omega) (by omega) (fun c35 => ?_) (fun c35 => ?_)
          · refine k_iconst (v := nI 0) hJ dX4_greatestBy_55 (by decide) ?_
            refine k_istore (lv1 := [(0, .ref (b 0)), (1, .int (nI p)), (2, .int (nI d)), (3, .int (nI S)), (4, .int (nI i)), (5, .int (nI 0))]) hJ dX4_greatestBy_56 (by decide) [1, 2, 3, 4, 5, 0] rfl ?_
            refine k_iload hJ dX4_greatestBy_58 5 rfl ?_
            refine n_if_eq (tgt := 75) hJ dX4_greatestBy_60 (by decide) (by omega) (fun c60 => ?_) (fun c60 => ?_)
            · refine k_iload_n hJ dX4_greatestBy_75 3 rfl ?_
              refine k_istore_n (lv1 := [(0, .ref (b 0)), (1, .int (nI p)), (2, .int (nI d)), (3, .int (nI S)), (4, .int (nI i)), (5, .int (nI 0))]) hJ dX4_greatestBy_76 (by decide) [1, 2, 3, 0, 4, 5] rfl ?_
              refine n_iinc (b := 1) (lv1 := [(0, .ref (b 0)), (1, .int (nI p)), (2, .int (nI d)), (3, .int (nI S)), (4, .int (nI (i + 1))), (5, .int (nI 0))]) hJ dX4_greatestBy_77 4 rfl (by decide) (by decide) [1, 2, 3, 4, 0, 5] rfl ?_
              refine k_goto (tgt := 5) hJ dX4_greatestBy_80 (by decide) ?_
              refine k_lv (lv1 := [(0, .ref (b 0)), (1, .int (nI p)), (2, .int (nI d)), (3, .int (nI S)), (4, .int (nI (i + 1)))]) hJ [0, 1, 2, 3, 4] rfl ?_
              exact ih (i + 1) S (by omega) (by omega) (by rw [vMax, if_neg (fun q => c35 q.2.1), hS]) (by omega)
            · exact absurd c60 (by decide)
          · refine k_aload_n hJ dX4_greatestBy_38 0 rfl ?_
            refine k_iload hJ dX4_greatestBy_39 4 rfl ?_
            refine k_iconst (v := nI 4) hJ dX4_greatestBy_41 (by decide) ?_
            refine k_iload_n hJ dX4_greatestBy_42 2 rfl ?_
            refine n_iadd hJ dX4_greatestBy_43 ?_
            refine c_VI (As := [.int (nI i), .int (nI (4 + d))]) (st := []) hJ (ct_X4_its l g b e m i (4 + d) (by omega) (by omega)) (Fr.all rfl) mv_X4_its ml_X4_82 0 rfl rfl rfl (kRm_ok (by decide) (by decide)) rfl rfl (Nat.le_of_ble_eq_true rfl) dX4_greatestBy_44 ?_
            have hb44 : m (4 + 10 * i + (4 + d)) ≤ 99 := hm.sc (show i < 8 by omega) (show d < 6 by omega)
            refine k_iload_n hJ dX4_greatestBy_47 3 rfl ?_
            refine n_icmp_le (tgt := 55) hJ dX4_greatestBy_48 (by decide) (by omega) (by omega) (fun c48 => ?_) (fun c48 => ?_)
            · refine k_iconst (v := nI 0) hJ dX4_greatestBy_55 (by decide) ?_
              refine k_istore (lv1 := [(0, .ref (b 0)), (1, .int (nI p)), (2, .int (nI d)), (3, .int (nI S)), (4, .int (nI i)), (5, .int (nI 0))]) hJ dX4_greatestBy_56 (by decide) [1, 2, 3, 4, 5, 0] rfl ?_
              refine k_iload hJ dX4_greatestBy_58 5 rfl ?_
              refine n_if_eq (tgt := 75) hJ dX4_greatestBy_60 (by decide) (by omega) (fun c60 => ?_) (fun c60 => ?_)
              · refine k_iload_n hJ dX4_greatestBy_75 3 rfl ?_
                refine k_istore_n (lv1 := [(0, .ref (b 0)), (1, .int (nI p)), (2, .int (nI d)), (3, .int (nI S)), (4, .int (nI i)), (5, .int (nI 0))]) hJ dX4_greatestBy_76 (by decide) [1, 2, 3, 0, 4, 5] rfl ?_
                refine n_iinc (b := 1) (lv1 := [(0, .ref (b 0)), (1, .int (nI p)), (2, .int (nI d)), (3, .int (nI S)), (4, .int (nI (i + 1))), (5, .int (nI 0))]) hJ dX4_greatestBy_77 4 rfl (by decide) (by decide) [1, 2, 3, 4, 0, 5] rfl ?_
                refine k_goto (tgt := 5) hJ dX4_greatestBy_80 (by decide) ?_
                refine k_lv (lv1 := [(0, .ref (b 0)), (1, .int (nI p)), (2, .int (nI d)), (3, .int (nI S)), (4, .int (nI (i + 1)))]) hJ [0, 1, 2, 3, 4] rfl ?_
                exact ih (i + 1) S (by omega) (by omega) (by rw [vMax, if_neg (fun q => by have := q.2.2; rw [← hS] at this; exact absurd this (Nat.not_lt.mpr c48)), hS]) (by omega)
              · exact absurd c60 (by decide)
            · refine k_iconst (v := nI 1) hJ dX4_greatestBy_51 (by decide) ?_
              refine k_goto (tgt := 56) hJ dX4_greatestBy_52 (by decide) ?_
              refine k_istore (lv1 := [(0, .ref (b 0)), (1, .int (nI p)), (2, .int (nI d)), (3, .int (nI S)), (4, .int (nI i)), (5, .int (nI 1))]) hJ dX4_greatestBy_56 (by decide) [1, 2, 3, 4, 5, 0] rfl ?_
              refine k_iload hJ dX4_greatestBy_58 5 rfl ?_
              refine n_if_eq (tgt := 75) hJ dX4_greatestBy_60 (by decide) (by omega) (fun c60 => ?_) (fun c60 => ?_)
              · exact absurd c60 (by decide)
              · refine k_aload_n hJ dX4_greatestBy_63 0 rfl ?_
                refine k_iload hJ dX4_greatestBy_64 4 rfl ?_
                refine k_iconst (v := nI 4) hJ dX4_greatestBy_66 (by decide) ?_
                refine k_iload_n hJ dX4_greatestBy_67 2 rfl ?_
                refine n_iadd hJ dX4_greatestBy_68 ?_
                refine c_VI (As := [.int (nI i), .int (nI (4 + d))]) (st := []) hJ (ct_X4_its l g b e m i (4 + d) (by omega) (by omega)) (Fr.all rfl) mv_X4_its ml_X4_82 0 rfl rfl rfl (kRm_ok (by decide) (by decide)) rfl rfl (Nat.le_of_ble_eq_true rfl) dX4_greatestBy_69 ?_
                have hb69 : m (4 + 10 * i + (4 + d)) ≤ 99 := hm.sc (show i < 8 by omega) (show d < 6 by omega)
                refine k_goto (tgt := 76) hJ dX4_greatestBy_72 (by decide) ?_
                refine k_istore_n (lv1 := [(0, .ref (b 0)), (1, .int (nI p)), (2, .int (nI d)), (3, .int (nI (m (4 + 10 * i + (4 + d))))), (4, .int (nI i)), (5, .int (nI 1))]) hJ dX4_greatestBy_76 (by decide) [1, 2, 3, 0, 4, 5] rfl ?_
                refine n_iinc (b := 1) (lv1 := [(0, .ref (b 0)), (1, .int (nI p)), (2, .int (nI d)), (3, .int (nI (m (4 + 10 * i + (4 + d))))), (4, .int (nI (i + 1))), (5, .int (nI 1))]) hJ dX4_greatestBy_77 4 rfl (by decide) (by decide) [1, 2, 3, 4, 0, 5] rfl ?_
                refine k_goto (tgt := 5) hJ dX4_greatestBy_80 (by decide) ?_
                refine k_lv (lv1 := [(0, .ref (b 0)), (1, .int (nI p)), (2, .int (nI d)), (3, .int (nI (m (4 + 10 * i + (4 + d))))), (4, .int (nI (i + 1)))]) hJ [0, 1, 2, 3, 4] rfl ?_
                exact ih (i + 1) (m (4 + 10 * i + (4 + d))) (by omega) (by omega) (by rw [vMax, if_pos ⟨c19, c35, by rw [← hS]; exact c48⟩]) (by omega)
  refine k_iconst (v := nI 0) hJ dX4_greatestBy_0 (by decide) ?_
  refine k_istore_n (lv1 := [(0, .ref (b 0)), (1, .int (nI p)), (2, .int (nI d)), (3, .int (nI 0))]) hJ dX4_greatestBy_1 (by decide) [1, 2, 3, 0] rfl ?_
  refine k_iconst (v := nI 0) hJ dX4_greatestBy_2 (by decide) ?_
  refine k_istore (lv1 := [(0, .ref (b 0)), (1, .int (nI p)), (2, .int (nI d)), (3, .int (nI 0)), (4, .int (nI 0))]) hJ dX4_greatestBy_3 (by decide) [1, 2, 3, 4, 0] rfl ?_
  exact L5 (m 0 + 1) 0 0 (by omega) (by omega) rfl (by omega)
set_option maxHeartbeats 4000000 in
set_option maxRecDepth 100000 in
theorem ct_X4_leftOf (l : Launch) (g : KG) (b : Nat → Nat) (e : Nat → Int32) (m : Nat → Nat) (p d : Nat)  {B : Nat} (hB : B < 2 ^ 30) (hm : vOk B m) (hp : p < 8) (hd : d < 6) : CI l yX4_leftOf cX4_leftOf 5 (some .int) (rmK 2) g [.ref (b 0), .int (nI p), .int (nI d)] (modS g b e m) (nI (vFade d (m (4 + 10 * p + (4 + d))))) (modS g b e m) := by
  refine k_bodyI (by decide) (Nat.le_of_ble_eq_true rfl) (fun _ _ _ => rfl) (fun J hJ hR => ?_)
  show J (modS g b e m) [(0, .ref (b 0)), (1, .int (nI p)), (2, .int (nI d))] 0 []
  refine k_aload_n hJ dX4_leftOf_0 0 rfl ?_
  refine k_iload_n hJ dX4_leftOf_1 1 rfl ?_
  refine k_iconst (v := nI 4) hJ dX4_leftOf_2 (by decide) ?_
  refine k_iload_n hJ dX4_leftOf_3 2 rfl ?_
  refine n_iadd hJ dX4_leftOf_4 ?_
  refine c_VI (As := [.int (nI p), .int (nI (4 + d))]) (st := []) hJ (ct_X4_its l g b e m p (4 + d) (by omega) (by omega)) (Fr.all rfl) mv_X4_its ml_X4_82 0 rfl rfl rfl (kRm_ok (by decide) (by decide)) rfl rfl (Nat.le_of_ble_eq_true rfl) dX4_leftOf_5 ?_
  have hb5 : m (4 + 10 * p + (4 + d)) ≤ 99 := hm.sc (show p < 8 by omega) (show d < 6 by omega)
  refine k_istore_n (lv1 := [(0, .ref (b 0)), (1, .int (nI p)), (2, .int (nI d)), (3, .int (nI (m (4 + 10 * p + (4 + d)))))]) hJ dX4_leftOf_8 (by decide) [1, 2, 3, 0] rfl ?_
  refine k_iload_n hJ dX4_leftOf_9 2 rfl ?_
  refine k_iconst (v := nI 5) hJ dX4_leftOf_10 (by decide) ?_
  refine n_icmp_ne (tgt := 22) hJ dX4_leftOf_11 (by decide) (by omega) (by omega) (fun c11 => ?_) (fun c11 => ?_)
  · refine k_iload_n hJ dX4_leftOf_22 3 rfl ?_
    refine k_iload_n hJ dX4_leftOf_23 3 rfl ?_
    refine k_bipush (v := nI 10) hJ dX4_leftOf_24 (by decide) ?_
    refine n_idiv hJ dX4_leftOf_26 (by omega) (by omega) (by omega) ?_
    refine n_isub hJ dX4_leftOf_27 (by omega) ?_
    refine k_iconst (v := nI 1) hJ dX4_leftOf_28 (by decide) ?_
    refine k_isub hJ dX4_leftOf_29 ?_
    refine k_istore (lv1 := [(0, .ref (b 0)), (1, .int (nI p)), (2, .int (nI d)), (3, .int (nI (m (4 + 10 * p + (4 + d))))), (4, .int ((nI ((m (4 + 10 * p + (4 + d))) - ((m (4 + 10 * p + (4 + d))) / 10))) - (nI 1)))]) hJ dX4_leftOf_30 (by decide) [1, 2, 3, 4, 0] rfl ?_
    refine k_iload hJ dX4_leftOf_32 4 rfl ?_
    refine k_if_ge (tgt := 41) hJ dX4_leftOf_34 (by decide) (fun c34 => ?_) (fun c34 => ?_)
    · rw [nI_sub_nn (by omega) (by omega)] at c34
      refine k_iload hJ dX4_leftOf_41 4 rfl ?_
      exact hR _ _ _ () dX4_leftOf_43 (by rw [pk_sub (by omega)]; refine congrArg nI ?_; unfold vFade; rw [if_neg c11])
    · rw [nI_sub_nn (by omega) (by omega)] at c34
      refine k_iconst (v := nI 0) hJ dX4_leftOf_37 (by decide) ?_
      refine k_goto (tgt := 43) hJ dX4_leftOf_38 (by decide) ?_
      exact hR _ _ _ () dX4_leftOf_43 (by refine congrArg nI ?_; unfold vFade; rw [if_neg c11]; omega)
  · refine k_iload_n hJ dX4_leftOf_14 3 rfl ?_
    refine k_iload_n hJ dX4_leftOf_15 3 rfl ?_
    refine k_iconst (v := nI 2) hJ dX4_leftOf_16 (by decide) ?_
    refine n_idiv hJ dX4_leftOf_17 (by omega) (by omega) (by omega) ?_
    refine n_isub hJ dX4_leftOf_18 (by omega) ?_
    refine k_goto (tgt := 30) hJ dX4_leftOf_19 (by decide) ?_
    refine k_istore (lv1 := [(0, .ref (b 0)), (1, .int (nI p)), (2, .int (nI d)), (3, .int (nI (m (4 + 10 * p + (4 + d))))), (4, .int (nI ((m (4 + 10 * p + (4 + d))) - ((m (4 + 10 * p + (4 + d))) / 2))))]) hJ dX4_leftOf_30 (by decide) [1, 2, 3, 4, 0] rfl ?_
    refine k_iload hJ dX4_leftOf_32 4 rfl ?_
    refine n_if_ge (tgt := 41) hJ dX4_leftOf_34 (by decide) (by omega) (fun c34 => ?_) (fun c34 => ?_)
    · refine k_iload hJ dX4_leftOf_41 4 rfl ?_
      exact hR _ _ _ () dX4_leftOf_43 (by refine congrArg nI ?_; unfold vFade; rw [if_pos c11])
    · exact absurd c34 (by omega)
set_option maxHeartbeats 4000000 in
set_option maxRecDepth 100000 in
theorem ct_X4_allGuilty (l : Launch) (g : KG) (b : Nat → Nat) (e : Nat → Int32) (m : Nat → Nat)  {B : Nat} (hB : B < 2 ^ 30) (hm : vOk B m) : CI l yX4_allGuilty cX4_allGuilty 3 (some .int) (rmK 6) g [.ref (b 0)] (modS g b e m) (nI (vGuiltyAll m)) (modS g b e m) := by
  refine k_bodyI (by decide) (Nat.le_of_ble_eq_true rfl) (fun _ _ _ => rfl) (fun J hJ hR => ?_)
  have h0 := hm.1
  show J (modS g b e m) [(0, .ref (b 0))] 0 []
  have L4 : ∀ (k : Nat) (i : Nat) (S : Nat), (i ≤ m 0) → (m 0 + 1 ≤ i + k) → (S = vBits (fun q => decide (vFinders m q ≠ 0)) i) → J (modS g b e m) [(0, .ref (b 0)), (1, .int (nI S)), (2, .int (nI i))] 4 [] := by
    intro k
    induction k with
    | zero => intro i S hi hf hS; exfalso; omega
    | succ k ih =>
      intro i S hi hf hS
      refine k_iload_n hJ dX4_allGuilty_4 2 rfl ?_
      refine k_aload_n hJ dX4_allGuilty_5 0 rfl ?_
      refine gf_X4_7 hJ 0 rfl rfl dX4_allGuilty_6 ?_
      refine k_iconst (v := nI 0) hJ dX4_allGuilty_9 (by decide) ?_
      refine k_iald hJ 1 rfl 0 (by omega) (by decide) rfl dX4_allGuilty_10 ?_
      refine n_icmp_ge (tgt := 38) hJ dX4_allGuilty_11 (by decide) (by omega) (by omega) (fun c11 => ?_) (fun c11 => ?_)
      · refine k_iload_n hJ dX4_allGuilty_38 1 rfl ?_
        exact hR _ _ _ () dX4_allGuilty_39 (by rw [hS, show i = m 0 by omega]; rfl)
      · refine k_iload_n hJ dX4_allGuilty_14 1 rfl ?_
        refine k_aload_n hJ dX4_allGuilty_15 0 rfl ?_
        refine k_iload_n hJ dX4_allGuilty_16 2 rfl ?_
        refine c_VI (As := [.int (nI i)]) (st := [.int (nI S)]) hJ (ct_X4_finders l g b e m i hB hm (by omega)) (Fr.all rfl) mv_X4_finders ml_X4_133 0 rfl rfl rfl (kRm_ok (by decide) (by decide)) rfl rfl (Nat.le_of_ble_eq_true rfl) dX4_allGuilty_17 ?_
        refine n_if_eq (tgt := 29) hJ dX4_allGuilty_20 (by decide) (by have := vBits_le8 (fun q => vFound m q i) h0; unfold vFinders; omega) (fun c20 => ?_) (fun c20 => ?_)
        · refine k_iconst (v := nI 0) hJ dX4_allGuilty_29 (by decide) ?_
          refine n_ior (c := S) hJ dX4_allGuilty_30 (Nat.or_zero S) ?_
          refine k_istore_n (lv1 := [(0, .ref (b 0)), (1, .int (nI S)), (2, .int (nI i))]) hJ dX4_allGuilty_31 (by decide) [1, 0, 2] rfl ?_
          refine n_iinc (b := 1) (lv1 := [(0, .ref (b 0)), (1, .int (nI S)), (2, .int (nI (i + 1)))]) hJ dX4_allGuilty_32 2 rfl (by decide) (by decide) [1, 2, 0] rfl ?_
          refine k_goto (tgt := 4) hJ dX4_allGuilty_35 (by decide) ?_
          exact ih (i + 1) S (by omega) (by omega) (by rw [vBits, decide_eq_false (show ¬ vFinders m i ≠ 0 by omega), hS]; rfl)
        · refine k_iconst (v := nI 1) hJ dX4_allGuilty_23 (by decide) ?_
          refine k_iload_n hJ dX4_allGuilty_24 2 rfl ?_
          refine n_ibit hJ dX4_allGuilty_25 (by omega) ?_
          refine k_goto (tgt := 30) hJ dX4_allGuilty_26 (by decide) ?_
          refine n_ior (c := S + 2 ^ i) hJ dX4_allGuilty_30 (by rw [hS]; exact vBits_or _ _) ?_
          refine k_istore_n (lv1 := [(0, .ref (b 0)), (1, .int (nI (S + 2 ^ i))), (2, .int (nI i))]) hJ dX4_allGuilty_31 (by decide) [1, 0, 2] rfl ?_
          refine n_iinc (b := 1) (lv1 := [(0, .ref (b 0)), (1, .int (nI (S + 2 ^ i))), (2, .int (nI (i + 1)))]) hJ dX4_allGuilty_32 2 rfl (by decide) (by decide) [1, 2, 0] rfl ?_
          refine k_goto (tgt := 4) hJ dX4_allGuilty_35 (by decide) ?_
          exact ih (i + 1) (S + 2 ^ i) (by omega) (by omega) (by rw [vBits, decide_eq_true (show vFinders m i ≠ 0 by omega), if_pos rfl, hS])
  refine k_iconst (v := nI 0) hJ dX4_allGuilty_0 (by decide) ?_
  refine k_istore_n (lv1 := [(0, .ref (b 0)), (1, .int (nI 0))]) hJ dX4_allGuilty_1 (by decide) [1, 0] rfl ?_
  refine k_iconst (v := nI 0) hJ dX4_allGuilty_2 (by decide) ?_
  refine k_istore_n (lv1 := [(0, .ref (b 0)), (1, .int (nI 0)), (2, .int (nI 0))]) hJ dX4_allGuilty_3 (by decide) [1, 2, 0] rfl ?_
  exact L4 (m 0 + 1) 0 0 (by omega) (by omega) rfl
set_option maxHeartbeats 4000000 in
set_option maxRecDepth 100000 in
theorem ct_X4_leastBy (l : Launch) (g : KG) (b : Nat → Nat) (e : Nat → Int32) (m : Nat → Nat) (w n p : Nat)  {B : Nat} (hB : B < 2 ^ 30) (hv : ∀ v, v < n → vOk B (vUp m w v)) (hw : w < 84) (hn : n ≤ 48) (hp : p < 8) : CI l yX4_leastBy cX4_leastBy 9 (some .int) (rmK 7) g [.ref (b 0), .int (nI w), .int (nI n), .int (nI p)] (modS g b e m) (nI ((vLst m w p n).1)) (modS g b e m) := by
  refine k_bodyI (by decide) (Nat.le_of_ble_eq_true rfl) (fun _ _ _ => rfl) (fun J hJ hR => ?_)
  show J (modS g b e m) [(0, .ref (b 0)), (1, .int (nI w)), (2, .int (nI n)), (3, .int (nI p))] 0 []
  have L18 : ∀ (k : Nat) (v : Nat) (x : Nat) (f : Nat) (M : Nat → Nat), (v ≤ n) → (n + 1 ≤ v + k) → ((x, f) = vLst m w p v) → (∀ y, vUp M w y = vUp m w y) → (f ≤ 9) → J (modS g b e M) [(0, .ref (b 0)), (1, .int (nI w)), (2, .int (nI n)), (3, .int (nI p)), (4, .int (nI (m w))), (5, .int (nI x)), (6, .int (nI f)), (7, .int (nI v))] 18 [] := by
    intro k
    induction k with
    | zero => intro v x f M hvn hf hx hM hf9; exfalso; omega
    | succ k ih =>
      intro v x f M hvn hf hx hM hf9
      refine k_iload hJ dX4_leastBy_18 7 rfl ?_
      refine k_iload_n hJ dX4_leastBy_20 2 rfl ?_
      refine n_icmp_ge (tgt := 77) hJ dX4_leastBy_21 (by decide) (by omega) (by omega) (fun c21 => ?_) (fun c21 => ?_)
      · refine k_aload_n hJ dX4_leastBy_77 0 rfl ?_
        refine gf_X4_7 hJ 0 rfl rfl dX4_leastBy_78 ?_
        refine k_iload_n hJ dX4_leastBy_81 1 rfl ?_
        refine k_iload hJ dX4_leastBy_82 4 rfl ?_
        refine k_iast hJ 1 rfl w (by omega) (by decide) (ms_set g b e M w (m w)) dX4_leastBy_84 ?_
        refine k_iload hJ dX4_leastBy_85 5 rfl ?_
        exact k_eqw (ws2 := modS g b e m) (by rw [hM, vUp_id]) (hR _ _ _ () dX4_leastBy_87 (by rw [show n = v by omega, ← hx]))
      · refine k_aload_n hJ dX4_leastBy_24 0 rfl ?_
        refine gf_X4_7 hJ 0 rfl rfl dX4_leastBy_25 ?_
        refine k_iload_n hJ dX4_leastBy_28 1 rfl ?_
        refine k_iload hJ dX4_leastBy_29 7 rfl ?_
        refine k_iast hJ 1 rfl w (by omega) (by decide) (ms_set g b e M w v) dX4_leastBy_31 ?_
        refine k_aload_n hJ dX4_leastBy_32 0 rfl ?_
        refine k_iload_n hJ dX4_leastBy_33 3 rfl ?_
        have hk := hv v (by omega)
        rw [← hM] at hk
        refine c_VI (As := [.int (nI p)]) (st := []) hJ (ct_X4_findersMany l g b e (vUp M w v) p hB hk hp) (Fr.all rfl) mv_X4_findersMany ml_X4_171 0 rfl rfl rfl (kRm_ok (by decide) (by decide)) rfl rfl (Nat.le_of_ble_eq_true rfl) dX4_leastBy_34 ?_
        have hb := vPop_le (s := vFinders (vUp M w v) p)
        refine k_istore (lv1 := [(0, .ref (b 0)), (1, .int (nI w)), (2, .int (nI n)), (3, .int (nI p)), (4, .int (nI (m w))), (5, .int (nI x)), (6, .int (nI f)), (7, .int (nI v)), (8, .int (nI (vPop (vFinders (vUp M w v) p))))]) hJ dX4_leastBy_37 (by decide) [1, 2, 3, 4, 5, 6, 7, 8, 0] rfl ?_
        refine k_iload hJ dX4_leastBy_39 8 rfl ?_
        refine k_iload hJ dX4_leastBy_41 6 rfl ?_
        refine n_icmp_ge (tgt := 51) hJ dX4_leastBy_43 (by decide) (by omega) (by omega) (fun c43 => ?_) (fun c43 => ?_)
        · refine k_iload hJ dX4_leastBy_51 5 rfl ?_
          refine k_istore (lv1 := [(0, .ref (b 0)), (1, .int (nI w)), (2, .int (nI n)), (3, .int (nI p)), (4, .int (nI (m w))), (5, .int (nI x)), (6, .int (nI f)), (7, .int (nI v)), (8, .int (nI (vPop (vFinders (vUp M w v) p))))]) hJ dX4_leastBy_53 (by decide) [1, 2, 3, 4, 5, 0, 6, 7, 8] rfl ?_
          refine k_iload hJ dX4_leastBy_55 8 rfl ?_
          refine k_iload hJ dX4_leastBy_57 6 rfl ?_
          refine n_icmp_ge (tgt := 67) hJ dX4_leastBy_59 (by decide) (by omega) (by omega) (fun c59 => ?_) (fun c59 => ?_)
          · refine k_iload hJ dX4_leastBy_67 6 rfl ?_
            refine k_istore (lv1 := [(0, .ref (b 0)), (1, .int (nI w)), (2, .int (nI n)), (3, .int (nI p)), (4, .int (nI (m w))), (5, .int (nI x)), (6, .int (nI f)), (7, .int (nI v)), (8, .int (nI (vPop (vFinders (vUp M w v) p))))]) hJ dX4_leastBy_69 (by decide) [1, 2, 3, 4, 5, 6, 0, 7, 8] rfl ?_
            refine n_iinc (b := 1) (lv1 := [(0, .ref (b 0)), (1, .int (nI w)), (2, .int (nI n)), (3, .int (nI p)), (4, .int (nI (m w))), (5, .int (nI x)), (6, .int (nI f)), (7, .int (nI (v + 1))), (8, .int (nI (vPop (vFinders (vUp M w v) p))))]) hJ dX4_leastBy_71 7 rfl (by decide) (by decide) [1, 2, 3, 4, 5, 6, 7, 0, 8] rfl ?_
            refine k_goto (tgt := 18) hJ dX4_leastBy_74 (by decide) ?_
            refine k_lv (lv1 := [(0, .ref (b 0)), (1, .int (nI w)), (2, .int (nI n)), (3, .int (nI p)), (4, .int (nI (m w))), (5, .int (nI x)), (6, .int (nI f)), (7, .int (nI (v + 1)))]) hJ [0, 1, 2, 3, 4, 5, 6, 7] rfl ?_
            exact ih (v + 1) x f _ (by omega) (by omega) (by rw [vLst, if_neg (by rw [← hx]; show ¬ _ < f; rw [← hM]; omega)]; exact hx) (fun y => by rw [vUp_up]; exact hM y) (by omega)
          · refine k_iload hJ dX4_leastBy_62 8 rfl ?_
            refine k_goto (tgt := 69) hJ dX4_leastBy_64 (by decide) ?_
            refine k_istore (lv1 := [(0, .ref (b 0)), (1, .int (nI w)), (2, .int (nI n)), (3, .int (nI p)), (4, .int (nI (m w))), (5, .int (nI x)), (6, .int (nI (vPop (vFinders (vUp M w v) p)))), (7, .int (nI v)), (8, .int (nI (vPop (vFinders (vUp M w v) p))))]) hJ dX4_leastBy_69 (by decide) [1, 2, 3, 4, 5, 6, 0, 7, 8] rfl ?_
            refine n_iinc (b := 1) (lv1 := [(0, .ref (b 0)), (1, .int (nI w)), (2, .int (nI n)), (3, .int (nI p)), (4, .int (nI (m w))), (5, .int (nI x)), (6, .int (nI (vPop (vFinders (vUp M w v) p)))), (7, .int (nI (v + 1))), (8, .int (nI (vPop (vFinders (vUp M w v) p))))]) hJ dX4_leastBy_71 7 rfl (by decide) (by decide) [1, 2, 3, 4, 5, 6, 7, 0, 8] rfl ?_
            refine k_goto (tgt := 18) hJ dX4_leastBy_74 (by decide) ?_
            refine k_lv (lv1 := [(0, .ref (b 0)), (1, .int (nI w)), (2, .int (nI n)), (3, .int (nI p)), (4, .int (nI (m w))), (5, .int (nI x)), (6, .int (nI (vPop (vFinders (vUp M w v) p)))), (7, .int (nI (v + 1)))]) hJ [0, 1, 2, 3, 4, 5, 6, 7] rfl ?_
            exfalso; omega
        · refine k_iload hJ dX4_leastBy_46 7 rfl ?_
          refine k_goto (tgt := 53) hJ dX4_leastBy_48 (by decide) ?_
          refine k_istore (lv1 := [(0, .ref (b 0)), (1, .int (nI w)), (2, .int (nI n)), (3, .int (nI p)), (4, .int (nI (m w))), (5, .int (nI v)), (6, .int (nI f)), (7, .int (nI v)), (8, .int (nI (vPop (vFinders (vUp M w v) p))))]) hJ dX4_leastBy_53 (by decide) [1, 2, 3, 4, 5, 0, 6, 7, 8] rfl ?_
          refine k_iload hJ dX4_leastBy_55 8 rfl ?_
          refine k_iload hJ dX4_leastBy_57 6 rfl ?_
          refine n_icmp_ge (tgt := 67) hJ dX4_leastBy_59 (by decide) (by omega) (by omega) (fun c59 => ?_) (fun c59 => ?_)
          · refine k_iload hJ dX4_leastBy_67 6 rfl ?_
            refine k_istore (lv1 := [(0, .ref (b 0)), (1, .int (nI w)), (2, .int (nI n)), (3, .int (nI p)), (4, .int (nI (m w))), (5, .int (nI v)), (6, .int (nI f)), (7, .int (nI v)), (8, .int (nI (vPop (vFinders (vUp M w v) p))))]) hJ dX4_leastBy_69 (by decide) [1, 2, 3, 4, 5, 6, 0, 7, 8] rfl ?_
            refine n_iinc (b := 1) (lv1 := [(0, .ref (b 0)), (1, .int (nI w)), (2, .int (nI n)), (3, .int (nI p)), (4, .int (nI (m w))), (5, .int (nI v)), (6, .int (nI f)), (7, .int (nI (v + 1))), (8, .int (nI (vPop (vFinders (vUp M w v) p))))]) hJ dX4_leastBy_71 7 rfl (by decide) (by decide) [1, 2, 3, 4, 5, 6, 7, 0, 8] rfl ?_
            refine k_goto (tgt := 18) hJ dX4_leastBy_74 (by decide) ?_
            refine k_lv (lv1 := [(0, .ref (b 0)), (1, .int (nI w)), (2, .int (nI n)), (3, .int (nI p)), (4, .int (nI (m w))), (5, .int (nI v)), (6, .int (nI f)), (7, .int (nI (v + 1)))]) hJ [0, 1, 2, 3, 4, 5, 6, 7] rfl ?_
            exfalso; omega
          · refine k_iload hJ dX4_leastBy_62 8 rfl ?_
            refine k_goto (tgt := 69) hJ dX4_leastBy_64 (by decide) ?_
            refine k_istore (lv1 := [(0, .ref (b 0)), (1, .int (nI w)), (2, .int (nI n)), (3, .int (nI p)), (4, .int (nI (m w))), (5, .int (nI v)), (6, .int (nI (vPop (vFinders (vUp M w v) p)))), (7, .int (nI v)), (8, .int (nI (vPop (vFinders (vUp M w v) p))))]) hJ dX4_leastBy_69 (by decide) [1, 2, 3, 4, 5, 6, 0, 7, 8] rfl ?_
            refine n_iinc (b := 1) (lv1 := [(0, .ref (b 0)), (1, .int (nI w)), (2, .int (nI n)), (3, .int (nI p)), (4, .int (nI (m w))), (5, .int (nI v)), (6, .int (nI (vPop (vFinders (vUp M w v) p)))), (7, .int (nI (v + 1))), (8, .int (nI (vPop (vFinders (vUp M w v) p))))]) hJ dX4_leastBy_71 7 rfl (by decide) (by decide) [1, 2, 3, 4, 5, 6, 7, 0, 8] rfl ?_
            refine k_goto (tgt := 18) hJ dX4_leastBy_74 (by decide) ?_
            refine k_lv (lv1 := [(0, .ref (b 0)), (1, .int (nI w)), (2, .int (nI n)), (3, .int (nI p)), (4, .int (nI (m w))), (5, .int (nI v)), (6, .int (nI (vPop (vFinders (vUp M w v) p)))), (7, .int (nI (v + 1)))]) hJ [0, 1, 2, 3, 4, 5, 6, 7] rfl ?_
            exact ih (v + 1) v _ _ (by omega) (by omega) (by rw [vLst, if_pos (by rw [← hx]; show _ < f; rw [← hM]; omega), hM]) (fun y => by rw [vUp_up]; exact hM y) (by omega)
  refine k_aload_n hJ dX4_leastBy_0 0 rfl ?_
  refine gf_X4_7 hJ 0 rfl rfl dX4_leastBy_1 ?_
  refine k_iload_n hJ dX4_leastBy_4 1 rfl ?_
  refine k_iald hJ 1 rfl w (by omega) (by decide) rfl dX4_leastBy_5 ?_
  refine k_istore (lv1 := [(0, .ref (b 0)), (1, .int (nI w)), (2, .int (nI n)), (3, .int (nI p)), (4, .int (nI (m w)))]) hJ dX4_leastBy_6 (by decide) [1, 2, 3, 4, 0] rfl ?_
  refine k_iconst (v := nI 0) hJ dX4_leastBy_8 (by decide) ?_
  refine k_istore (lv1 := [(0, .ref (b 0)), (1, .int (nI w)), (2, .int (nI n)), (3, .int (nI p)), (4, .int (nI (m w))), (5, .int (nI 0))]) hJ dX4_leastBy_9 (by decide) [1, 2, 3, 4, 5, 0] rfl ?_
  refine k_bipush (v := nI 9) hJ dX4_leastBy_11 (by decide) ?_
  refine k_istore (lv1 := [(0, .ref (b 0)), (1, .int (nI w)), (2, .int (nI n)), (3, .int (nI p)), (4, .int (nI (m w))), (5, .int (nI 0)), (6, .int (nI 9))]) hJ dX4_leastBy_13 (by decide) [1, 2, 3, 4, 5, 6, 0] rfl ?_
  refine k_iconst (v := nI 0) hJ dX4_leastBy_15 (by decide) ?_
  refine k_istore (lv1 := [(0, .ref (b 0)), (1, .int (nI w)), (2, .int (nI n)), (3, .int (nI p)), (4, .int (nI (m w))), (5, .int (nI 0)), (6, .int (nI 9)), (7, .int (nI 0))]) hJ dX4_leastBy_16 (by decide) [1, 2, 3, 4, 5, 6, 7, 0] rfl ?_
  exact L18 (n + 1) 0 0 9 m (by omega) (by omega) rfl (fun _ => rfl) (by omega)
