def kBy (tp : Nat → Nat) (tl i : Nat) : Int32 := if i < tl then nI (tp i) else -1
def bL (tp : Nat → Nat) (tl i : Nat) : Bool := decide (i < tl ∧ vLt (tp i) = true)
def bD (tp : Nat → Nat) (tl i : Nat) : Bool := decide (i < tl ∧ vDg (tp i) = true)
theorem vBt_n {v lo hi : Nat} (hv : v < 2 ^ 31) (hl : lo < 2 ^ 31) (hh : hi < 2 ^ 31) : vBt (nI v) lo hi = decide (lo ≤ v ∧ v ≤ hi) := by
  unfold vBt
  by_cases h : v < lo
  · rw [if_pos (nI_lt h hl), decide_eq_false (by omega)]
  · rw [if_neg (nI_nlt (by omega) hv)]
    by_cases h2 : hi < v
    · rw [if_pos (nI_lt h2 hv), decide_eq_false (by omega)]
    · rw [if_neg (nI_nlt (by omega) hh), decide_eq_true (by omega)]
theorem bL_e {tp : Nat → Nat} {tl i : Nat} (h : tp i < 256) : vInL (kBy tp tl i).toInt64 97 122 = bL tp tl i := by
  unfold kBy bL
  by_cases c : i < tl
  · rw [if_pos c]
    have e : vInL (nI (tp i)).toInt64 97 122 = vBt (nI (tp i)) 97 122 := vInL_bt (nI (tp i)) 97 122 97 122 rfl rfl
    rw [e, vBt_n (by omega) (by decide) (by decide)]
    simp only [vLt_iff]
    by_cases d : 97 ≤ tp i ∧ tp i ≤ 122
    · rw [decide_eq_true d, decide_eq_true ⟨c, d⟩]
    · rw [decide_eq_false d, decide_eq_false (fun q => d q.2)]
  · rw [if_neg c, decide_eq_false (fun q => c q.1)]
    decide
theorem bD_e {tp : Nat → Nat} {tl i : Nat} (h : tp i < 256) : vInL (kBy tp tl i).toInt64 48 57 = bD tp tl i := by
  unfold kBy bD
  by_cases c : i < tl
  · rw [if_pos c]
    have e : vInL (nI (tp i)).toInt64 48 57 = vBt (nI (tp i)) 48 57 := vInL_bt (nI (tp i)) 48 57 48 57 rfl rfl
    rw [e, vBt_n (by omega) (by decide) (by decide)]
    simp only [vDg_iff]
    by_cases d : 48 ≤ tp i ∧ tp i ≤ 57
    · rw [decide_eq_true d, decide_eq_true ⟨c, d⟩]
    · rw [decide_eq_false d, decide_eq_false (fun q => d q.2)]
  · rw [if_neg c, decide_eq_false (fun q => c q.1)]
    decide
theorem kBy_c {tp : Nat → Nat} {tl i c : Nat} (h : tp i < 256) (hc : c < 256) : kBy tp tl i = nI c ↔ i < tl ∧ tp i = c := by
  unfold kBy
  by_cases q : i < tl
  · rw [if_pos q]
    constructor
    · intro e
      have := congrArg Int32.toInt e
      rw [nI_toInt (by omega), nI_toInt (by omega)] at this
      exact ⟨q, by omega⟩
    · intro e; rw [e.2]
  · rw [if_neg q]
    constructor
    · intro e
      have := congrArg Int32.toInt e
      rw [nI_toInt (by omega)] at this
      have e1 : (-1 : Int32).toInt = -1 := rfl
      rw [e1] at this
      omega
    · intro e; exact absurd e.1 q
theorem bL_D {tp : Nat → Nat} {tl q : Nat} (h : bL tp tl q = true) : bD tp tl q = false := by
  have x := of_decide_eq_true h
  have y := vLt_iff.mp x.2
  refine decide_eq_false (fun z => ?_)
  have w := vDg_iff.mp z.2
  omega
theorem tk_end {tp : Nat → Nat} {tl q x : Nat} (hx : q ≤ x) (h1 : bL tp tl q = true → ∀ i, q ≤ i → i < x → bL tp tl i = true) (h2 : bD tp tl q = true → ∀ i, q ≤ i → i < x → bD tp tl i = true) (h3 : bL tp tl q = false → bD tp tl q = false → x = if q < tl then q + 1 else q) (e1 : bL tp tl q = true → bL tp tl x = false) (e2 : bD tp tl q = true → bD tp tl x = false) : tkE tp tl q = x := by
  cases c1 : bL tp tl q with
  | true =>
    have z := of_decide_eq_true c1
    rw [tkE_lt z.1 z.2]
    refine vRt_end hx (fun i a b => of_decide_eq_true (h1 c1 i a b)) ?_
    have y := of_decide_eq_false (e1 c1)
    by_cases c : x < tl
    · right; exact Bool.eq_false_iff.mpr (fun w => y ⟨c, w⟩)
    · left; exact c
  | false =>
    cases c2 : bD tp tl q with
    | true =>
      have z := of_decide_eq_true c2
      rw [tkE_dg z.1 z.2]
      refine vRt_end hx (fun i a b => of_decide_eq_true (h2 c2 i a b)) ?_
      have y := of_decide_eq_false (e2 c2)
      by_cases c : x < tl
      · right; exact Bool.eq_false_iff.mpr (fun w => y ⟨c, w⟩)
      · left; exact c
    | false =>
      rw [h3 c1 c2]
      have y1 := of_decide_eq_false c1
      have y2 := of_decide_eq_false c2
      by_cases c : q < tl
      · rw [if_pos c]; exact tkE_ot c (Bool.eq_false_iff.mpr (fun w => y1 ⟨c, w⟩)) (Bool.eq_false_iff.mpr (fun w => y2 ⟨c, w⟩))
      · rw [if_neg c]; exact tkE_en c
theorem tkS_end {tp : Nat → Nat} {tl p q : Nat} (hp : p ≤ q) (h : ∀ i, p ≤ i → i < q → i < tl ∧ tp i = 32) (he : ¬ (q < tl ∧ tp q = 32)) : tkS tp tl p = q := by
  refine vRt_end hp (fun i a b => ⟨(h i a b).1, beq_iff_eq.mpr (h i a b).2⟩) ?_
  by_cases c : q < tl
  · right; exact beq_false_of_ne (fun w => he ⟨c, w⟩)
  · left; exact c
def kWo (tp : Nat → Nat) (tl q : Nat) : Int64 := if bL tp tl q then lN (vCo tp q (tkE tp tl q - q)) else 0
def kWd (iw : Bool) (tp : Nat → Nat) (tl q : Nat) : Int64 := if iw then 0 else kWo tp tl q
theorem kWo_w {tp : Nat → Nat} {tl q : Nat} {w : List Nat} (ht : ∀ i, tp i < 256) (hg : w.length ≤ 11 ∧ gdW w) (h0 : 0 < cdL w) (h1 : cdL w < 2 ^ 62) : kWo tp tl q = lN (cdL w) ↔ hW tp tl w q = true := by
  have hb := vCo_le ht q (tkE tp tl q - q)
  unfold kWo
  cases c : bL tp tl q with
  | true =>
    have z := of_decide_eq_true c
    rw [if_pos rfl, pk_lEQ (by omega) (by omega)]
    exact hW_co hg.1 hg.2 z.1 z.2
  | false =>
    rw [if_neg (by decide), hW_no (of_decide_eq_false c)]
    constructor
    · intro e
      have e0 : (0 : Int64) = lN 0 := rfl
      rw [e0, pk_lEQ (by decide) (by omega)] at e
      omega
    · intro e; cases e
theorem co_t {v c : Nat} (hc : 97 ≤ c ∧ c ≤ 122) : 32 * lN v + (nI c - nI 96).toInt64 = lN (32 * v + (c - 96)) := by
  have e : (nI c - nI 96).toInt64 = lN (c - 96) := by
    have q : ∀ c, 97 ≤ c ∧ c ≤ 122 → (nI c - nI 96).toInt64 = lN (c - 96) := by
      intro c hc
      have w : ∀ d, d < 26 → (nI (d + 97) - nI 96).toInt64 = lN (d + 97 - 96) := by decide
      have := w (c - 97) (by omega)
      rw [show c - 97 + 97 = c by omega] at this
      exact this
    exact q c hc
  rw [e, show (32 : Int64) = lN 32 from rfl, lN_mul, lN_add]
theorem co_le {v : Nat} (hv : v < 2 ^ 62) : lg_cmp (lN v) 36028797018963967 ≤ 0 ↔ v ≤ 36028797018963967 := by
  have h := lg_gt (x := lN v) (y := 36028797018963967)
  have e : (36028797018963967 : Int64) = lN 36028797018963967 := rfl
  have k : (0 : Int32) < lg_cmp (lN v) 36028797018963967 ↔ 36028797018963967 < v := by rw [h, e, pk_lLT (by decide) (by omega)]
  constructor
  · intro q
    exact Nat.not_lt.mp (fun r => absurd (k.mpr r) (Int32.not_lt.mpr q))
  · intro q
    exact Int32.not_lt.mp (fun r => absurd (k.mp r) (by omega))
theorem kWo_wPe {tp : Nat → Nat} {tl q : Nat} (ht : ∀ i, tp i < 256) : kWo tp tl q = 542723566 ↔ hW tp tl wPe q = true := by
  have h := kWo_w (tl := tl) (q := q) ht wPe_g (by rw [wPe_c]; decide) (by rw [wPe_c]; decide)
  rw [wPe_c] at h
  exact h
theorem kWo_wCo {tp : Nat → Nat} {tl q : Nat} (ht : ∀ i, tp i < 256) : kWo tp tl q = 114155 ↔ hW tp tl wCo q = true := by
  have h := kWo_w (tl := tl) (q := q) ht wCo_g (by rw [wCo_c]; decide) (by rw [wCo_c]; decide)
  rw [wCo_c] at h
  exact h
theorem kWo_wBa {tp : Nat → Nat} {tl q : Nat} (ht : ∀ i, tp i < 256) : kWo tp tl q = 2253324406962 ↔ hW tp tl wBa q = true := by
  have h := kWo_w (tl := tl) (q := q) ht wBa_g (by rw [wBa_c]; decide) (by rw [wBa_c]; decide)
  rw [wBa_c] at h
  exact h
theorem kWo_wDo {tp : Nat → Nat} {tl q : Nat} (ht : ∀ i, tp i < 256) : kWo tp tl q = 4583 ↔ hW tp tl wDo q = true := by
  have h := kWo_w (tl := tl) (q := q) ht wDo_g (by rw [wDo_c]; decide) (by rw [wDo_c]; decide)
  rw [wDo_c] at h
  exact h
theorem kWo_wPf {tp : Nat → Nat} {tl q : Nat} (ht : ∀ i, tp i < 256) : kWo tp tl q = 555735495858 ↔ hW tp tl wPf q = true := by
  have h := kWo_w (tl := tl) (q := q) ht wPf_g (by rw [wPf_c]; decide) (by rw [wPf_c]; decide)
  rw [wPf_c] at h
  exact h
theorem kWo_wHo {tp : Nat → Nat} {tl q : Nat} (ht : ∀ i, tp i < 256) : kWo tp tl q = 8902084 ↔ hW tp tl wHo q = true := by
  have h := kWo_w (tl := tl) (q := q) ht wHo_g (by rw [wHo_c]; decide) (by rw [wHo_c]; decide)
  rw [wHo_c] at h
  exact h
theorem kWo_wAt {tp : Nat → Nat} {tl q : Nat} (ht : ∀ i, tp i < 256) : kWo tp tl q = 52 ↔ hW tp tl wAt q = true := by
  have h := kWo_w (tl := tl) (q := q) ht wAt_g (by rw [wAt_c]; decide) (by rw [wAt_c]; decide)
  rw [wAt_c] at h
  exact h
theorem kWo_wNo {tp : Nat → Nat} {tl q : Nat} (ht : ∀ i, tp i < 256) : kWo tp tl q = 474725 ↔ hW tp tl wNo q = true := by
  have h := kWo_w (tl := tl) (q := q) ht wNo_g (by rw [wNo_c]; decide) (by rw [wNo_c]; decide)
  rw [wNo_c] at h
  exact h
theorem kWo_wCd {tp : Nat → Nat} {tl q : Nat} (ht : ∀ i, tp i < 256) : kWo tp tl q = 114052 ↔ hW tp tl wCd q = true := by
  have h := kWo_w (tl := tl) (q := q) ht wCd_g (by rw [wCd_c]; decide) (by rw [wCd_c]; decide)
  rw [wCd_c] at h
  exact h
theorem kWo_wDi {tp : Nat → Nat} {tl q : Nat} (ht : ∀ i, tp i < 256) : kWo tp tl q = 4388 ↔ hW tp tl wDi q = true := by
  have h := kWo_w (tl := tl) (q := q) ht wDi_g (by rw [wDi_c]; decide) (by rw [wDi_c]; decide)
  rw [wDi_c] at h
  exact h
theorem kWo_wWi {tp : Nat → Nat} {tl q : Nat} (ht : ∀ i, tp i < 256) : kWo tp tl q = 763332 ↔ hW tp tl wWi q = true := by
  have h := kWo_w (tl := tl) (q := q) ht wWi_g (by rw [wWi_c]; decide) (by rw [wWi_c]; decide)
  rw [wWi_c] at h
  exact h
theorem kWo_wDu {tp : Nat → Nat} {tl q : Nat} (ht : ∀ i, tp i < 256) : kWo tp tl q = 4773 ↔ hW tp tl wDu q = true := by
  have h := kWo_w (tl := tl) (q := q) ht wDu_g (by rw [wDu_c]; decide) (by rw [wDu_c]; decide)
  rw [wDu_c] at h
  exact h
set_option maxHeartbeats 4000000 in
set_option maxRecDepth 100000 in
theorem ct_X4_byteAt (l : Launch) (g : KG) (b : Nat → Nat) (kf : Bool) (fj : Int32) (mj tl fr to va : Nat) (iw : Bool) (m : Nat → Nat) (th ai ct ks ot : Nat → Int32) (tp sb sz : Nat → Nat) (nu : Nat → Nat → Int64) (mo : Nat → Int64) (i : Nat)  (ht : tl ≤ 120) (hi : i ≤ 120) : CI l yX4_byteAt cX4_byteAt 2 (some .int) (rmK 0) g [.ref (b 0), .int (nI i)] (modW g b (mE kf fj mj tl fr to va iw) m th ai ct ks ot tp sb sz nu mo) (kBy tp tl i) (modW g b (mE kf fj mj tl fr to va iw) m th ai ct ks ot tp sb sz nu mo) := by
  refine k_bodyI (by decide) (Nat.le_of_ble_eq_true rfl) (fun _ _ _ => rfl) (fun J hJ hR => ?_)
  show J (modW g b (mE kf fj mj tl fr to va iw) m th ai ct ks ot tp sb sz nu mo) [(0, .ref (b 0)), (1, .int (nI i))] 0 []
  refine k_iload_n hJ dX4_byteAt_0 1 rfl ?_
  refine k_aload_n hJ dX4_byteAt_1 0 rfl ?_
  refine gf_X4_190 (v := .int (nI tl)) hJ 0 rfl rfl dX4_byteAt_2 ?_
  refine n_icmp_ge (tgt := 17) hJ dX4_byteAt_5 (by decide) (by omega) (by omega) (fun c5 => ?_) (fun c5 => ?_)
  · refine k_iconst (v := (-1)) hJ dX4_byteAt_17 (by decide) ?_
    exact hR _ _ _ () dX4_byteAt_18 (by unfold kBy; rw [if_neg (by omega)])
  · refine k_aload_n hJ dX4_byteAt_8 0 rfl ?_
    refine gf_X4_28 (v := .ref (b 7)) hJ 0 rfl rfl dX4_byteAt_9 ?_
    refine k_iload_n hJ dX4_byteAt_12 1 rfl ?_
    refine k_iald hJ 7 rfl i (by omega) (by decide) rfl dX4_byteAt_13 ?_
    refine k_goto (tgt := 18) hJ dX4_byteAt_14 (by decide) ?_
    exact hR _ _ _ () dX4_byteAt_18 (by unfold kBy; rw [if_pos (by omega)])
set_option maxHeartbeats 4000000 in
set_option maxRecDepth 100000 in
theorem ct_X4_isLetter (l : Launch) (g : KG) (x : Int32)  : CI l yX4_isLetter cX4_isLetter 1 (some .boolean) (rmK 1) g [.int x] ([]) (kb (vInL x.toInt64 97 122)) ([]) := by
  refine k_bodyI (by decide) (Nat.le_of_ble_eq_true rfl) (fun _ _ h => by rw [h]; exact kb_nar _) (fun J hJ hR => ?_)
  show J ([]) [(0, .int x)] 0 []
  refine k_iload_n hJ dX4_isLetter_0 0 rfl ?_
  refine k_i2l hJ dX4_isLetter_1 rfl ?_
  refine k_ldc2 hJ dX4_isLetter_2 cw_X4_193 ?_
  refine k_ldc2 hJ dX4_isLetter_5 cw_X4_195 ?_
  refine c_SI (As := [.long x.toInt64, .long 97, .long 122]) (st := []) hJ (ct_X4_in l g x.toInt64 97 122 ) Fr.none ms_X4_in ml_X4_47 (kRm_ok (by decide) (by decide)) rfl rfl (Nat.le_of_ble_eq_true rfl) dX4_isLetter_8 ?_
  exact hR _ _ _ () dX4_isLetter_11 rfl
set_option maxHeartbeats 4000000 in
set_option maxRecDepth 100000 in
theorem ct_X4_isDigit (l : Launch) (g : KG) (x : Int32)  : CI l yX4_isDigit cX4_isDigit 1 (some .boolean) (rmK 1) g [.int x] ([]) (kb (vInL x.toInt64 48 57)) ([]) := by
  refine k_bodyI (by decide) (Nat.le_of_ble_eq_true rfl) (fun _ _ h => by rw [h]; exact kb_nar _) (fun J hJ hR => ?_)
  show J ([]) [(0, .int x)] 0 []
  refine k_iload_n hJ dX4_isDigit_0 0 rfl ?_
  refine k_i2l hJ dX4_isDigit_1 rfl ?_
  refine k_ldc2 hJ dX4_isDigit_2 cw_X4_197 ?_
  refine k_ldc2 hJ dX4_isDigit_5 cw_X4_199 ?_
  refine c_SI (As := [.long x.toInt64, .long 48, .long 57]) (st := []) hJ (ct_X4_in l g x.toInt64 48 57 ) Fr.none ms_X4_in ml_X4_47 (kRm_ok (by decide) (by decide)) rfl rfl (Nat.le_of_ble_eq_true rfl) dX4_isDigit_8 ?_
  exact hR _ _ _ () dX4_isDigit_11 rfl
set_option maxHeartbeats 4000000 in
set_option maxRecDepth 100000 in
theorem ct_X4_token (l : Launch) (g : KG) (b : Nat → Nat) (kf : Bool) (fj : Int32) (mj tl fr to va : Nat) (iw : Bool) (m : Nat → Nat) (th ai ct ks ot : Nat → Int32) (tp sb sz : Nat → Nat) (nu : Nat → Nat → Int64) (mo : Nat → Int64)  (ht : tl ≤ 120) (hto : to ≤ tl) (htp : ∀ i, tp i < 256) : CV l yX4_token cX4_token 3 none (rmK 2) g [.ref (b 0)] (modW g b (mE kf fj mj tl fr to va iw) m th ai ct ks ot tp sb sz nu mo) (modW g b (mE kf fj mj tl (tkS tp tl to) (tkE tp tl (tkS tp tl to)) va iw) m th ai ct ks ot tp sb sz nu mo) := by
  refine k_bodyV (by decide) (Nat.le_of_ble_eq_true rfl) (fun J hJ hR => ?_)
  show J (modW g b (mE kf fj mj tl fr to va iw) m th ai ct ks ot tp sb sz nu mo) [(0, .ref (b 0))] 0 []
  refine k_aload_n hJ dX4_token_0 0 rfl ?_
  refine k_aload_n hJ dX4_token_1 0 rfl ?_
  refine gf_X4_201 (v := .int (nI to)) hJ 0 rfl rfl dX4_token_2 ?_
  refine pf_X4_204 (ws2 := modW g b (mE kf fj mj tl to to va iw) m th ai ct ks ot tp sb sz nu mo) hJ 0 rfl rfl (Nat.le_of_ble_eq_true rfl) dX4_token_5 ?_
  have L8 : ∀ (fu : Nat) (q : Nat), (to ≤ q) → (q ≤ tl) → (tl + 1 ≤ q + fu) → (∀ i, to ≤ i → i < q → i < tl ∧ tp i = 32) → J (modW g b (mE kf fj mj tl q to va iw) m th ai ct ks ot tp sb sz nu mo) [(0, .ref (b 0))] 8 [] := by
    intro fu
    induction fu with
    | zero => intro q hp hql hf hI; exfalso; omega
    | succ fu ih =>
      intro q hp hql hf hI
      refine k_aload_n hJ dX4_token_8 0 rfl ?_
      refine k_aload_n hJ dX4_token_9 0 rfl ?_
      refine gf_X4_204 (v := .int (nI q)) hJ 0 rfl rfl dX4_token_10 ?_
      refine c_VI (As := [.int (nI q)]) (st := []) hJ (ct_X4_byteAt l g b kf fj mj tl q to va iw m th ai ct ks ot tp sb sz nu mo q ht (by omega)) (Fr.all rfl) mv_X4_byteAt ml_X4_207 0 rfl rfl rfl (kRm_ok (by decide) (by decide)) rfl rfl (Nat.le_of_ble_eq_true rfl) dX4_token_13 ?_
      refine k_bipush (v := nI 32) hJ dX4_token_16 (by decide) ?_
      refine k_icmp_ne (tgt := 34) hJ dX4_token_18 (by decide) (fun (c18 : ¬ kBy tp tl q = (32 : Int32)) => ?_) (fun (c18 : kBy tp tl q = (32 : Int32)) => ?_)
      · have hq : tkS tp tl to = q := tkS_end hp hI (fun z => c18 ((kBy_c (htp q) (by decide)).mpr z))
        refine k_aload_n hJ dX4_token_34 0 rfl ?_
        refine k_aload_n hJ dX4_token_35 0 rfl ?_
        refine gf_X4_204 (v := .int (nI q)) hJ 0 rfl rfl dX4_token_36 ?_
        refine c_VI (As := [.int (nI q)]) (st := []) hJ (ct_X4_byteAt l g b kf fj mj tl q to va iw m th ai ct ks ot tp sb sz nu mo q ht (by omega)) (Fr.all rfl) mv_X4_byteAt ml_X4_207 0 rfl rfl rfl (kRm_ok (by decide) (by decide)) rfl rfl (Nat.le_of_ble_eq_true rfl) dX4_token_39 ?_
        refine c_SI (As := [.int (kBy tp tl q)]) (st := []) hJ (ct_X4_isLetter l g (kBy tp tl q)) Fr.none ms_X4_isLetter ml_X4_210 (kRm_ok (by decide) (by decide)) rfl rfl (Nat.le_of_ble_eq_true rfl) dX4_token_42 ?_
        refine k_eqs (st2 := [.int (kb (bL tp tl q))]) (by rw [bL_e (htp _)]) ?_
        refine k_istore_n (lv1 := [(0, .ref (b 0)), (1, .int (kb (bL tp tl q)))]) hJ dX4_token_45 (by decide) [1, 0] rfl ?_
        refine k_aload_n hJ dX4_token_46 0 rfl ?_
        refine k_aload_n hJ dX4_token_47 0 rfl ?_
        refine gf_X4_204 (v := .int (nI q)) hJ 0 rfl rfl dX4_token_48 ?_
        refine c_VI (As := [.int (nI q)]) (st := []) hJ (ct_X4_byteAt l g b kf fj mj tl q to va iw m th ai ct ks ot tp sb sz nu mo q ht (by omega)) (Fr.all rfl) mv_X4_byteAt ml_X4_207 0 rfl rfl rfl (kRm_ok (by decide) (by decide)) rfl rfl (Nat.le_of_ble_eq_true rfl) dX4_token_51 ?_
        refine c_SI (As := [.int (kBy tp tl q)]) (st := []) hJ (ct_X4_isDigit l g (kBy tp tl q)) Fr.none ms_X4_isDigit ml_X4_213 (kRm_ok (by decide) (by decide)) rfl rfl (Nat.le_of_ble_eq_true rfl) dX4_token_54 ?_
        refine k_eqs (st2 := [.int (kb (bD tp tl q))]) (by rw [bD_e (htp _)]) ?_
        refine k_istore_n (lv1 := [(0, .ref (b 0)), (1, .int (kb (bL tp tl q))), (2, .int (kb (bD tp tl q)))]) hJ dX4_token_57 (by decide) [1, 2, 0] rfl ?_
        refine k_aload_n hJ dX4_token_58 0 rfl ?_
        refine k_aload_n hJ dX4_token_59 0 rfl ?_
        refine gf_X4_204 (v := .int (nI q)) hJ 0 rfl rfl dX4_token_60 ?_
        refine k_aload_n hJ dX4_token_63 0 rfl ?_
        refine gf_X4_190 (v := .int (nI tl)) hJ 0 rfl rfl dX4_token_64 ?_
        refine n_icmp_ge (tgt := 79) hJ dX4_token_67 (by decide) (by omega) (by omega) (fun c67 => ?_) (fun c67 => ?_)
        · refine k_aload_n hJ dX4_token_79 0 rfl ?_
          refine gf_X4_204 (v := .int (nI q)) hJ 0 rfl rfl dX4_token_80 ?_
          refine pf_X4_201 (ws2 := modW g b (mE kf fj mj tl q q va iw) m th ai ct ks ot tp sb sz nu mo) hJ 0 rfl rfl (Nat.le_of_ble_eq_true rfl) dX4_token_83 ?_
          have L86 : ∀ (fv : Nat) (x : Nat), (q ≤ x) → (x ≤ tl) → (tl + 1 ≤ x + fv) → (bL tp tl q = true → ∀ i, q ≤ i → i < x → bL tp tl i = true) → (bD tp tl q = true → ∀ i, q ≤ i → i < x → bD tp tl i = true) → (bL tp tl q = false → bD tp tl q = false → x = if q < tl then q + 1 else q) → J (modW g b (mE kf fj mj tl q x va iw) m th ai ct ks ot tp sb sz nu mo) [(0, .ref (b 0)), (1, .int (kb (bL tp tl q))), (2, .int (kb (bD tp tl q)))] 86 [] := by
            intro fv
            induction fv with
            | zero => intro x hqx hxl hf2 I1 I2 I3; exfalso; omega
            | succ fv ih =>
              intro x hqx hxl hf2 I1 I2 I3
              refine k_iload_n hJ dX4_token_86 1 rfl ?_
              refine b_if_eq (tgt := 104) hJ dX4_token_87 (by decide) (fun c87 => ?_) (fun c87 => ?_)
              · refine k_iload_n hJ dX4_token_104 2 rfl ?_
                refine b_if_eq (tgt := 135) hJ dX4_token_105 (by decide) (fun c105 => ?_) (fun c105 => ?_)
                · have hx : tkE tp tl q = x := tk_end hqx I1 I2 I3 (fun h => absurd (h.symm.trans c87) (by decide)) (fun h => absurd (h.symm.trans c105) (by decide))
                  exact k_eqw (ws2 := modW g b (mE kf fj mj tl (tkS tp tl to) (tkE tp tl (tkS tp tl to)) va iw) m th ai ct ks ot tp sb sz nu mo) (by rw [hq, hx]) (hR _ _ () () dX4_token_135 trivial)
                · refine k_aload_n hJ dX4_token_108 0 rfl ?_
                  refine k_aload_n hJ dX4_token_109 0 rfl ?_
                  refine gf_X4_201 (v := .int (nI x)) hJ 0 rfl rfl dX4_token_110 ?_
                  refine c_VI (As := [.int (nI x)]) (st := []) hJ (ct_X4_byteAt l g b kf fj mj tl q x va iw m th ai ct ks ot tp sb sz nu mo x ht (by omega)) (Fr.all rfl) mv_X4_byteAt ml_X4_207 0 rfl rfl rfl (kRm_ok (by decide) (by decide)) rfl rfl (Nat.le_of_ble_eq_true rfl) dX4_token_113 ?_
                  refine c_SI (As := [.int (kBy tp tl x)]) (st := []) hJ (ct_X4_isDigit l g (kBy tp tl x)) Fr.none ms_X4_isDigit ml_X4_213 (kRm_ok (by decide) (by decide)) rfl rfl (Nat.le_of_ble_eq_true rfl) dX4_token_116 ?_
                  refine k_eqs (st2 := [.int (kb (bD tp tl x))]) (by rw [bD_e (htp _)]) ?_
                  refine b_if_eq (tgt := 135) hJ dX4_token_119 (by decide) (fun c119 => ?_) (fun c119 => ?_)
                  · have hx : tkE tp tl q = x := tk_end hqx I1 I2 I3 (fun h => absurd (h.symm.trans c87) (by decide)) (fun _ => c119)
                    exact k_eqw (ws2 := modW g b (mE kf fj mj tl (tkS tp tl to) (tkE tp tl (tkS tp tl to)) va iw) m th ai ct ks ot tp sb sz nu mo) (by rw [hq, hx]) (hR _ _ () () dX4_token_135 trivial)
                  · refine k_aload_n hJ dX4_token_122 0 rfl ?_
                    refine k_dup hJ dX4_token_123 rfl ?_
                    refine gf_X4_201 (v := .int (nI x)) hJ 0 rfl rfl dX4_token_124 ?_
                    refine k_iconst (v := nI 1) hJ dX4_token_127 (by decide) ?_
                    refine n_iadd hJ dX4_token_128 ?_
                    refine pf_X4_201 (ws2 := modW g b (mE kf fj mj tl q (x + 1) va iw) m th ai ct ks ot tp sb sz nu mo) hJ 0 rfl rfl (Nat.le_of_ble_eq_true rfl) dX4_token_129 ?_
                    refine k_goto (tgt := 86) hJ dX4_token_132 (by decide) ?_
                    exact ih (x + 1) (by omega) (by have := (of_decide_eq_true c119).1; omega) (by omega) (fun h => absurd (h.symm.trans c87) (by decide)) (fun h i a b => by rcases Nat.lt_or_ge i x with r | r; exact I2 h i a r; rw [show i = x by omega]; exact c119) (fun _ h => absurd (h.symm.trans c105) (by decide))
              · refine k_aload_n hJ dX4_token_90 0 rfl ?_
                refine k_aload_n hJ dX4_token_91 0 rfl ?_
                refine gf_X4_201 (v := .int (nI x)) hJ 0 rfl rfl dX4_token_92 ?_
                refine c_VI (As := [.int (nI x)]) (st := []) hJ (ct_X4_byteAt l g b kf fj mj tl q x va iw m th ai ct ks ot tp sb sz nu mo x ht (by omega)) (Fr.all rfl) mv_X4_byteAt ml_X4_207 0 rfl rfl rfl (kRm_ok (by decide) (by decide)) rfl rfl (Nat.le_of_ble_eq_true rfl) dX4_token_95 ?_
                refine c_SI (As := [.int (kBy tp tl x)]) (st := []) hJ (ct_X4_isLetter l g (kBy tp tl x)) Fr.none ms_X4_isLetter ml_X4_210 (kRm_ok (by decide) (by decide)) rfl rfl (Nat.le_of_ble_eq_true rfl) dX4_token_98 ?_
                refine k_eqs (st2 := [.int (kb (bL tp tl x))]) (by rw [bL_e (htp _)]) ?_
                refine b_if_ne (tgt := 122) hJ dX4_token_101 (by decide) (fun c101 => ?_) (fun c101 => ?_)
                · refine k_aload_n hJ dX4_token_122 0 rfl ?_
                  refine k_dup hJ dX4_token_123 rfl ?_
                  refine gf_X4_201 (v := .int (nI x)) hJ 0 rfl rfl dX4_token_124 ?_
                  refine k_iconst (v := nI 1) hJ dX4_token_127 (by decide) ?_
                  refine n_iadd hJ dX4_token_128 ?_
                  refine pf_X4_201 (ws2 := modW g b (mE kf fj mj tl q (x + 1) va iw) m th ai ct ks ot tp sb sz nu mo) hJ 0 rfl rfl (Nat.le_of_ble_eq_true rfl) dX4_token_129 ?_
                  refine k_goto (tgt := 86) hJ dX4_token_132 (by decide) ?_
                  exact ih (x + 1) (by omega) (by have := (of_decide_eq_true c101).1; omega) (by omega) (fun h i a b => by rcases Nat.lt_or_ge i x with r | r; exact I1 h i a r; rw [show i = x by omega]; exact c101) (fun h => absurd (h.symm.trans (bL_D c87)) (by decide)) (fun h => absurd (h.symm.trans c87) (by decide))
                · refine k_iload_n hJ dX4_token_104 2 rfl ?_
                  refine b_if_eq (tgt := 135) hJ dX4_token_105 (by decide) (fun c105 => ?_) (fun c105 => ?_)
                  · have hx : tkE tp tl q = x := tk_end hqx I1 I2 I3 (fun _ => c101) (fun h => absurd (h.symm.trans c105) (by decide))
                    exact k_eqw (ws2 := modW g b (mE kf fj mj tl (tkS tp tl to) (tkE tp tl (tkS tp tl to)) va iw) m th ai ct ks ot tp sb sz nu mo) (by rw [hq, hx]) (hR _ _ () () dX4_token_135 trivial)
                  · refine k_aload_n hJ dX4_token_108 0 rfl ?_
                    refine k_aload_n hJ dX4_token_109 0 rfl ?_
                    refine gf_X4_201 (v := .int (nI x)) hJ 0 rfl rfl dX4_token_110 ?_
                    refine c_VI (As := [.int (nI x)]) (st := []) hJ (ct_X4_byteAt l g b kf fj mj tl q x va iw m th ai ct ks ot tp sb sz nu mo x ht (by omega)) (Fr.all rfl) mv_X4_byteAt ml_X4_207 0 rfl rfl rfl (kRm_ok (by decide) (by decide)) rfl rfl (Nat.le_of_ble_eq_true rfl) dX4_token_113 ?_
                    refine c_SI (As := [.int (kBy tp tl x)]) (st := []) hJ (ct_X4_isDigit l g (kBy tp tl x)) Fr.none ms_X4_isDigit ml_X4_213 (kRm_ok (by decide) (by decide)) rfl rfl (Nat.le_of_ble_eq_true rfl) dX4_token_116 ?_
                    refine k_eqs (st2 := [.int (kb (bD tp tl x))]) (by rw [bD_e (htp _)]) ?_
                    refine b_if_eq (tgt := 135) hJ dX4_token_119 (by decide) (fun c119 => ?_) (fun c119 => ?_)
                    · have hx : tkE tp tl q = x := tk_end hqx I1 I2 I3 (fun _ => c101) (fun _ => c119)
                      exact k_eqw (ws2 := modW g b (mE kf fj mj tl (tkS tp tl to) (tkE tp tl (tkS tp tl to)) va iw) m th ai ct ks ot tp sb sz nu mo) (by rw [hq, hx]) (hR _ _ () () dX4_token_135 trivial)
                    · refine k_aload_n hJ dX4_token_122 0 rfl ?_
                      refine k_dup hJ dX4_token_123 rfl ?_
                      refine gf_X4_201 (v := .int (nI x)) hJ 0 rfl rfl dX4_token_124 ?_
                      refine k_iconst (v := nI 1) hJ dX4_token_127 (by decide) ?_
                      refine n_iadd hJ dX4_token_128 ?_
                      refine pf_X4_201 (ws2 := modW g b (mE kf fj mj tl q (x + 1) va iw) m th ai ct ks ot tp sb sz nu mo) hJ 0 rfl rfl (Nat.le_of_ble_eq_true rfl) dX4_token_129 ?_
                      refine k_goto (tgt := 86) hJ dX4_token_132 (by decide) ?_
                      exact absurd (c105.symm.trans (bL_D c87)) (by decide)
          exact L86 (tl + 1) q (by omega) (by omega) (by omega) (fun _ i a b => absurd a (by omega)) (fun _ i a b => absurd a (by omega)) (fun _ _ => by rw [if_neg (by omega)])
        · refine k_aload_n hJ dX4_token_70 0 rfl ?_
          refine gf_X4_204 (v := .int (nI q)) hJ 0 rfl rfl dX4_token_71 ?_
          refine k_iconst (v := nI 1) hJ dX4_token_74 (by decide) ?_
          refine n_iadd hJ dX4_token_75 ?_
          refine k_goto (tgt := 83) hJ dX4_token_76 (by decide) ?_
          refine pf_X4_201 (ws2 := modW g b (mE kf fj mj tl q (q + 1) va iw) m th ai ct ks ot tp sb sz nu mo) hJ 0 rfl rfl (Nat.le_of_ble_eq_true rfl) dX4_token_83 ?_
          have L86 : ∀ (fv : Nat) (x : Nat), (q ≤ x) → (x ≤ tl) → (tl + 1 ≤ x + fv) → (bL tp tl q = true → ∀ i, q ≤ i → i < x → bL tp tl i = true) → (bD tp tl q = true → ∀ i, q ≤ i → i < x → bD tp tl i = true) → (bL tp tl q = false → bD tp tl q = false → x = if q < tl then q + 1 else q) → J (modW g b (mE kf fj mj tl q x va iw) m th ai ct ks ot tp sb sz nu mo) [(0, .ref (b 0)), (1, .int (kb (bL tp tl q))), (2, .int (kb (bD tp tl q)))] 86 [] := by
            intro fv
            induction fv with
            | zero => intro x hqx hxl hf2 I1 I2 I3; exfalso; omega
            | succ fv ih =>
              intro x hqx hxl hf2 I1 I2 I3
              refine k_iload_n hJ dX4_token_86 1 rfl ?_
              refine b_if_eq (tgt := 104) hJ dX4_token_87 (by decide) (fun c87 => ?_) (fun c87 => ?_)
              · refine k_iload_n hJ dX4_token_104 2 rfl ?_
                refine b_if_eq (tgt := 135) hJ dX4_token_105 (by decide) (fun c105 => ?_) (fun c105 => ?_)
                · have hx : tkE tp tl q = x := tk_end hqx I1 I2 I3 (fun h => absurd (h.symm.trans c87) (by decide)) (fun h => absurd (h.symm.trans c105) (by decide))
                  exact k_eqw (ws2 := modW g b (mE kf fj mj tl (tkS tp tl to) (tkE tp tl (tkS tp tl to)) va iw) m th ai ct ks ot tp sb sz nu mo) (by rw [hq, hx]) (hR _ _ () () dX4_token_135 trivial)
                · refine k_aload_n hJ dX4_token_108 0 rfl ?_
                  refine k_aload_n hJ dX4_token_109 0 rfl ?_
                  refine gf_X4_201 (v := .int (nI x)) hJ 0 rfl rfl dX4_token_110 ?_
                  refine c_VI (As := [.int (nI x)]) (st := []) hJ (ct_X4_byteAt l g b kf fj mj tl q x va iw m th ai ct ks ot tp sb sz nu mo x ht (by omega)) (Fr.all rfl) mv_X4_byteAt ml_X4_207 0 rfl rfl rfl (kRm_ok (by decide) (by decide)) rfl rfl (Nat.le_of_ble_eq_true rfl) dX4_token_113 ?_
                  refine c_SI (As := [.int (kBy tp tl x)]) (st := []) hJ (ct_X4_isDigit l g (kBy tp tl x)) Fr.none ms_X4_isDigit ml_X4_213 (kRm_ok (by decide) (by decide)) rfl rfl (Nat.le_of_ble_eq_true rfl) dX4_token_116 ?_
                  refine k_eqs (st2 := [.int (kb (bD tp tl x))]) (by rw [bD_e (htp _)]) ?_
                  refine b_if_eq (tgt := 135) hJ dX4_token_119 (by decide) (fun c119 => ?_) (fun c119 => ?_)
                  · have hx : tkE tp tl q = x := tk_end hqx I1 I2 I3 (fun h => absurd (h.symm.trans c87) (by decide)) (fun _ => c119)
                    exact k_eqw (ws2 := modW g b (mE kf fj mj tl (tkS tp tl to) (tkE tp tl (tkS tp tl to)) va iw) m th ai ct ks ot tp sb sz nu mo) (by rw [hq, hx]) (hR _ _ () () dX4_token_135 trivial)
                  · refine k_aload_n hJ dX4_token_122 0 rfl ?_
                    refine k_dup hJ dX4_token_123 rfl ?_
                    refine gf_X4_201 (v := .int (nI x)) hJ 0 rfl rfl dX4_token_124 ?_
                    refine k_iconst (v := nI 1) hJ dX4_token_127 (by decide) ?_
                    refine n_iadd hJ dX4_token_128 ?_
                    refine pf_X4_201 (ws2 := modW g b (mE kf fj mj tl q (x + 1) va iw) m th ai ct ks ot tp sb sz nu mo) hJ 0 rfl rfl (Nat.le_of_ble_eq_true rfl) dX4_token_129 ?_
                    refine k_goto (tgt := 86) hJ dX4_token_132 (by decide) ?_
                    exact ih (x + 1) (by omega) (by have := (of_decide_eq_true c119).1; omega) (by omega) (fun h => absurd (h.symm.trans c87) (by decide)) (fun h i a b => by rcases Nat.lt_or_ge i x with r | r; exact I2 h i a r; rw [show i = x by omega]; exact c119) (fun _ h => absurd (h.symm.trans c105) (by decide))
              · refine k_aload_n hJ dX4_token_90 0 rfl ?_
                refine k_aload_n hJ dX4_token_91 0 rfl ?_
                refine gf_X4_201 (v := .int (nI x)) hJ 0 rfl rfl dX4_token_92 ?_
                refine c_VI (As := [.int (nI x)]) (st := []) hJ (ct_X4_byteAt l g b kf fj mj tl q x va iw m th ai ct ks ot tp sb sz nu mo x ht (by omega)) (Fr.all rfl) mv_X4_byteAt ml_X4_207 0 rfl rfl rfl (kRm_ok (by decide) (by decide)) rfl rfl (Nat.le_of_ble_eq_true rfl) dX4_token_95 ?_
                refine c_SI (As := [.int (kBy tp tl x)]) (st := []) hJ (ct_X4_isLetter l g (kBy tp tl x)) Fr.none ms_X4_isLetter ml_X4_210 (kRm_ok (by decide) (by decide)) rfl rfl (Nat.le_of_ble_eq_true rfl) dX4_token_98 ?_
                refine k_eqs (st2 := [.int (kb (bL tp tl x))]) (by rw [bL_e (htp _)]) ?_
                refine b_if_ne (tgt := 122) hJ dX4_token_101 (by decide) (fun c101 => ?_) (fun c101 => ?_)
                · refine k_aload_n hJ dX4_token_122 0 rfl ?_
                  refine k_dup hJ dX4_token_123 rfl ?_
                  refine gf_X4_201 (v := .int (nI x)) hJ 0 rfl rfl dX4_token_124 ?_
                  refine k_iconst (v := nI 1) hJ dX4_token_127 (by decide) ?_
                  refine n_iadd hJ dX4_token_128 ?_
                  refine pf_X4_201 (ws2 := modW g b (mE kf fj mj tl q (x + 1) va iw) m th ai ct ks ot tp sb sz nu mo) hJ 0 rfl rfl (Nat.le_of_ble_eq_true rfl) dX4_token_129 ?_
                  refine k_goto (tgt := 86) hJ dX4_token_132 (by decide) ?_
                  exact ih (x + 1) (by omega) (by have := (of_decide_eq_true c101).1; omega) (by omega) (fun h i a b => by rcases Nat.lt_or_ge i x with r | r; exact I1 h i a r; rw [show i = x by omega]; exact c101) (fun h => absurd (h.symm.trans (bL_D c87)) (by decide)) (fun h => absurd (h.symm.trans c87) (by decide))
                · refine k_iload_n hJ dX4_token_104 2 rfl ?_
                  refine b_if_eq (tgt := 135) hJ dX4_token_105 (by decide) (fun c105 => ?_) (fun c105 => ?_)
                  · have hx : tkE tp tl q = x := tk_end hqx I1 I2 I3 (fun _ => c101) (fun h => absurd (h.symm.trans c105) (by decide))
                    exact k_eqw (ws2 := modW g b (mE kf fj mj tl (tkS tp tl to) (tkE tp tl (tkS tp tl to)) va iw) m th ai ct ks ot tp sb sz nu mo) (by rw [hq, hx]) (hR _ _ () () dX4_token_135 trivial)
                  · refine k_aload_n hJ dX4_token_108 0 rfl ?_
                    refine k_aload_n hJ dX4_token_109 0 rfl ?_
                    refine gf_X4_201 (v := .int (nI x)) hJ 0 rfl rfl dX4_token_110 ?_
                    refine c_VI (As := [.int (nI x)]) (st := []) hJ (ct_X4_byteAt l g b kf fj mj tl q x va iw m th ai ct ks ot tp sb sz nu mo x ht (by omega)) (Fr.all rfl) mv_X4_byteAt ml_X4_207 0 rfl rfl rfl (kRm_ok (by decide) (by decide)) rfl rfl (Nat.le_of_ble_eq_true rfl) dX4_token_113 ?_
                    refine c_SI (As := [.int (kBy tp tl x)]) (st := []) hJ (ct_X4_isDigit l g (kBy tp tl x)) Fr.none ms_X4_isDigit ml_X4_213 (kRm_ok (by decide) (by decide)) rfl rfl (Nat.le_of_ble_eq_true rfl) dX4_token_116 ?_
                    refine k_eqs (st2 := [.int (kb (bD tp tl x))]) (by rw [bD_e (htp _)]) ?_
                    refine b_if_eq (tgt := 135) hJ dX4_token_119 (by decide) (fun c119 => ?_) (fun c119 => ?_)
                    · have hx : tkE tp tl q = x := tk_end hqx I1 I2 I3 (fun _ => c101) (fun _ => c119)
                      exact k_eqw (ws2 := modW g b (mE kf fj mj tl (tkS tp tl to) (tkE tp tl (tkS tp tl to)) va iw) m th ai ct ks ot tp sb sz nu mo) (by rw [hq, hx]) (hR _ _ () () dX4_token_135 trivial)
                    · refine k_aload_n hJ dX4_token_122 0 rfl ?_
                      refine k_dup hJ dX4_token_123 rfl ?_
                      refine gf_X4_201 (v := .int (nI x)) hJ 0 rfl rfl dX4_token_124 ?_
                      refine k_iconst (v := nI 1) hJ dX4_token_127 (by decide) ?_
                      refine n_iadd hJ dX4_token_128 ?_
                      refine pf_X4_201 (ws2 := modW g b (mE kf fj mj tl q (x + 1) va iw) m th ai ct ks ot tp sb sz nu mo) hJ 0 rfl rfl (Nat.le_of_ble_eq_true rfl) dX4_token_129 ?_
                      refine k_goto (tgt := 86) hJ dX4_token_132 (by decide) ?_
                      exact absurd (c105.symm.trans (bL_D c87)) (by decide)
          exact L86 (tl + 1) (q + 1) (by omega) (by omega) (by omega) (fun h i a b => by rw [show i = q by omega]; exact h) (fun h i a b => by rw [show i = q by omega]; exact h) (fun _ _ => by rw [if_pos (by omega)])
      · have hz := (kBy_c (c := 32) (htp q) (by decide)).mp c18
        refine k_aload_n hJ dX4_token_21 0 rfl ?_
        refine k_dup hJ dX4_token_22 rfl ?_
        refine gf_X4_204 (v := .int (nI q)) hJ 0 rfl rfl dX4_token_23 ?_
        refine k_iconst (v := nI 1) hJ dX4_token_26 (by decide) ?_
        refine n_iadd hJ dX4_token_27 ?_
        refine pf_X4_204 (ws2 := modW g b (mE kf fj mj tl (q + 1) to va iw) m th ai ct ks ot tp sb sz nu mo) hJ 0 rfl rfl (Nat.le_of_ble_eq_true rfl) dX4_token_28 ?_
        refine k_goto (tgt := 8) hJ dX4_token_31 (by decide) ?_
        exact ih (q + 1) (by omega) (by have := hz.1; omega) (by omega) (fun i a b => by rcases Nat.lt_or_ge i q with r | r; exact hI i a r; rw [show i = q by omega]; exact hz)
  exact L8 (tl + 1) to (by omega) (by omega) (by omega) (fun i a b => absurd a (by omega))
set_option maxHeartbeats 4000000 in
set_option maxRecDepth 100000 in
theorem ct_X4_must_t (l : Launch) (g : KG) (b : Nat → Nat) (kf : Bool) (fj : Int32) (mj tl fr va : Nat) (iw : Bool) (m : Nat → Nat) (th ai ct ks ot : Nat → Int32) (tp sb sz : Nat → Nat) (nu : Nat → Nat → Int64) (mo : Nat → Int64)  (ht : tl ≤ 120) (htp : ∀ i, tp i < 256) (hq : fr ≤ tl) : CV l yX4_must cX4_must 2 none (rmK 3) g [.ref (b 0), .int (nI 1)] (modW g b (mE kf fj mj tl fr (tkE tp tl fr) va false) m th ai ct ks ot tp sb sz nu mo) (modW g b (mE kf fj mj tl (tkN tp tl fr) (tkE tp tl (tkN tp tl fr)) va false) m th ai ct ks ot tp sb sz nu mo) := by
  refine k_bodyV (by decide) (Nat.le_of_ble_eq_true rfl) (fun J hJ hR => ?_)
  show J (modW g b (mE kf fj mj tl fr (tkE tp tl fr) va false) m th ai ct ks ot tp sb sz nu mo) [(0, .ref (b 0)), (1, .int (nI 1))] 0 []
  refine k_aload_n hJ dX4_must_0 0 rfl ?_
  refine k_aload_n hJ dX4_must_1 0 rfl ?_
  refine gf_X4_216 (v := .int (kb false)) hJ 0 rfl rfl dX4_must_2 ?_
  refine b_if_ne (tgt := 12) hJ dX4_must_5 (by decide) (fun c5 => ?_) (fun c5 => ?_)
  · exact absurd c5 (by decide)
  · refine k_iload_n hJ dX4_must_8 1 rfl ?_
    refine n_if_ne (tgt := 16) hJ dX4_must_9 (by decide) (by omega) (fun c9 => ?_) (fun c9 => ?_)
    · refine k_iconst (v := nI 0) hJ dX4_must_16 (by decide) ?_
      refine pf_X4_216 (ws2 := modW g b (mE kf fj mj tl fr (tkE tp tl fr) va false) m th ai ct ks ot tp sb sz nu mo) hJ 0 rfl rfl (Nat.le_of_ble_eq_true rfl) rfl rfl dX4_must_17 ?_
      refine k_aload_n hJ dX4_must_20 0 rfl ?_
      refine gf_X4_216 (v := .int (kb false)) hJ 0 rfl rfl dX4_must_21 ?_
      refine b_if_ne (tgt := 31) hJ dX4_must_24 (by decide) (fun c24 => ?_) (fun c24 => ?_)
      · exact absurd c24 (by decide)
      · refine k_aload_n hJ dX4_must_27 0 rfl ?_
        refine c_VV (As := []) (st := []) hJ (ct_X4_token l g b kf fj mj tl fr (tkE tp tl fr) va false m th ai ct ks ot tp sb sz nu mo ht (tkE_le hq) htp) (Fr.all rfl) mv_X4_token ml_X4_220 0 rfl rfl rfl (kRm_ok (by decide) (by decide)) rfl rfl (Nat.le_of_ble_eq_true rfl) dX4_must_28 ?_
        exact hR _ _ () () dX4_must_31 trivial
    · exact absurd c9 (by decide)
set_option maxHeartbeats 4000000 in
set_option maxRecDepth 100000 in
theorem ct_X4_must_f (l : Launch) (g : KG) (b : Nat → Nat) (kf : Bool) (fj : Int32) (mj tl fr va : Nat) (iw : Bool) (m : Nat → Nat) (th ai ct ks ot : Nat → Int32) (tp sb sz : Nat → Nat) (nu : Nat → Nat → Int64) (mo : Nat → Int64)  : CV l yX4_must cX4_must 2 none (rmK 3) g [.ref (b 0), .int (nI 0)] (modW g b (mE kf fj mj tl fr (tkE tp tl fr) va false) m th ai ct ks ot tp sb sz nu mo) (modW g b (mE kf fj mj tl fr (tkE tp tl fr) va true) m th ai ct ks ot tp sb sz nu mo) := by
  refine k_bodyV (by decide) (Nat.le_of_ble_eq_true rfl) (fun J hJ hR => ?_)
  show J (modW g b (mE kf fj mj tl fr (tkE tp tl fr) va false) m th ai ct ks ot tp sb sz nu mo) [(0, .ref (b 0)), (1, .int (nI 0))] 0 []
  refine k_aload_n hJ dX4_must_0 0 rfl ?_
  refine k_aload_n hJ dX4_must_1 0 rfl ?_
  refine gf_X4_216 (v := .int (kb false)) hJ 0 rfl rfl dX4_must_2 ?_
  refine b_if_ne (tgt := 12) hJ dX4_must_5 (by decide) (fun c5 => ?_) (fun c5 => ?_)
  · exact absurd c5 (by decide)
  · refine k_iload_n hJ dX4_must_8 1 rfl ?_
    refine n_if_ne (tgt := 16) hJ dX4_must_9 (by decide) (by omega) (fun c9 => ?_) (fun c9 => ?_)
    · exact absurd c9 (by decide)
    · refine k_iconst (v := nI 1) hJ dX4_must_12 (by decide) ?_
      refine k_goto (tgt := 17) hJ dX4_must_13 (by decide) ?_
      refine pf_X4_216 (ws2 := modW g b (mE kf fj mj tl fr (tkE tp tl fr) va true) m th ai ct ks ot tp sb sz nu mo) hJ 0 rfl rfl (Nat.le_of_ble_eq_true rfl) rfl rfl dX4_must_17 ?_
      refine k_aload_n hJ dX4_must_20 0 rfl ?_
      refine gf_X4_216 (v := .int (kb true)) hJ 0 rfl rfl dX4_must_21 ?_
      refine b_if_ne (tgt := 31) hJ dX4_must_24 (by decide) (fun c24 => ?_) (fun c24 => ?_)
      · exact hR _ _ () () dX4_must_31 trivial
      · exact absurd c24 (by decide)
set_option maxHeartbeats 4000000 in
set_option maxRecDepth 100000 in
theorem ct_X4_must_w (l : Launch) (g : KG) (b : Nat → Nat) (kf : Bool) (fj : Int32) (mj tl fr va : Nat) (iw : Bool) (m : Nat → Nat) (th ai ct ks ot : Nat → Int32) (tp sb sz : Nat → Nat) (nu : Nat → Nat → Int64) (mo : Nat → Int64) (z : Nat)  (hz : z < 2 ^ 31) : CV l yX4_must cX4_must 2 none (rmK 3) g [.ref (b 0), .int (nI z)] (modW g b (mE kf fj mj tl fr (tkE tp tl fr) va true) m th ai ct ks ot tp sb sz nu mo) (modW g b (mE kf fj mj tl fr (tkE tp tl fr) va true) m th ai ct ks ot tp sb sz nu mo) := by
  refine k_bodyV (by decide) (Nat.le_of_ble_eq_true rfl) (fun J hJ hR => ?_)
  show J (modW g b (mE kf fj mj tl fr (tkE tp tl fr) va true) m th ai ct ks ot tp sb sz nu mo) [(0, .ref (b 0)), (1, .int (nI z))] 0 []
  refine k_aload_n hJ dX4_must_0 0 rfl ?_
  refine k_aload_n hJ dX4_must_1 0 rfl ?_
  refine gf_X4_216 (v := .int (kb true)) hJ 0 rfl rfl dX4_must_2 ?_
  refine b_if_ne (tgt := 12) hJ dX4_must_5 (by decide) (fun c5 => ?_) (fun c5 => ?_)
  · refine k_iconst (v := nI 1) hJ dX4_must_12 (by decide) ?_
    refine k_goto (tgt := 17) hJ dX4_must_13 (by decide) ?_
    refine pf_X4_216 (ws2 := modW g b (mE kf fj mj tl fr (tkE tp tl fr) va true) m th ai ct ks ot tp sb sz nu mo) hJ 0 rfl rfl (Nat.le_of_ble_eq_true rfl) rfl rfl dX4_must_17 ?_
    refine k_aload_n hJ dX4_must_20 0 rfl ?_
    refine gf_X4_216 (v := .int (kb true)) hJ 0 rfl rfl dX4_must_21 ?_
    refine b_if_ne (tgt := 31) hJ dX4_must_24 (by decide) (fun c24 => ?_) (fun c24 => ?_)
    · exact hR _ _ () () dX4_must_31 trivial
    · exact absurd c24 (by decide)
  · exact absurd c5 (by decide)
set_option maxHeartbeats 4000000 in
set_option maxRecDepth 100000 in
theorem ct_X4_word (l : Launch) (g : KG) (b : Nat → Nat) (kf : Bool) (fj : Int32) (mj tl fr va : Nat) (iw : Bool) (m : Nat → Nat) (th ai ct ks ot : Nat → Int32) (tp sb sz : Nat → Nat) (nu : Nat → Nat → Int64) (mo : Nat → Int64)  (ht : tl ≤ 120) (htp : ∀ i, tp i < 256) (hq : fr ≤ tl) : CL l yX4_word cX4_word 4 (some .long) (rmK 2) g [.ref (b 0)] (modW g b (mE kf fj mj tl fr (tkE tp tl fr) va iw) m th ai ct ks ot tp sb sz nu mo) (kWd iw tp tl fr) (modW g b (mE kf fj mj tl fr (tkE tp tl fr) va iw) m th ai ct ks ot tp sb sz nu mo) := by
  refine k_bodyL (by decide) (Nat.le_of_ble_eq_true rfl) (fun J hJ hR => ?_)
  have hle := tkE_le (tp := tp) hq
  have hge := tkE_ge tp tl fr
  show J (modW g b (mE kf fj mj tl fr (tkE tp tl fr) va iw) m th ai ct ks ot tp sb sz nu mo) [(0, .ref (b 0))] 0 []
  refine k_lconst (v := 0) hJ dX4_word_0 (by decide) ?_
  refine k_lstore_n (lv1 := [(0, .ref (b 0)), (1, .long 0)]) hJ dX4_word_1 (by decide) [1, 0] rfl ?_
  refine k_aload_n hJ dX4_word_2 0 rfl ?_
  refine gf_X4_204 (v := .int (nI fr)) hJ 0 rfl rfl dX4_word_3 ?_
  refine k_istore_n (lv1 := [(0, .ref (b 0)), (1, .long 0), (3, .int (nI fr))]) hJ dX4_word_6 (by decide) [1, 2, 0] rfl ?_
  have L7 : ∀ (fu : Nat) (i : Nat) (W : Int64), (fr ≤ i) → (i ≤ tkE tp tl fr) → (tkE tp tl fr + 1 ≤ i + fu) → (bL tp tl fr = true → W = lN (vCo tp fr (i - fr))) → J (modW g b (mE kf fj mj tl fr (tkE tp tl fr) va iw) m th ai ct ks ot tp sb sz nu mo) [(0, .ref (b 0)), (1, .long W), (3, .int (nI i))] 7 [] := by
    intro fu
    induction fu with
    | zero => intro i W hi hi2 hf hWc; exfalso; omega
    | succ fu ih =>
      intro i W hi hi2 hf hWc
      refine k_iload_n hJ dX4_word_7 2 rfl ?_
      refine k_aload_n hJ dX4_word_8 0 rfl ?_
      refine gf_X4_201 (v := .int (nI (tkE tp tl fr))) hJ 0 rfl rfl dX4_word_9 ?_
      refine n_icmp_ge (tgt := 50) hJ dX4_word_12 (by decide) (by omega) (by omega) (fun c12 => ?_) (fun c12 => ?_)
      · refine k_aload_n hJ dX4_word_50 0 rfl ?_
        refine gf_X4_216 (v := .int (kb iw)) hJ 0 rfl rfl dX4_word_51 ?_
        refine b_if_ne (tgt := 71) hJ dX4_word_54 (by decide) (fun c54 => ?_) (fun c54 => ?_)
        · refine k_lconst (v := 0) hJ dX4_word_71 (by decide) ?_
          refine k_goto (tgt := 76) hJ dX4_word_72 (by decide) ?_
          exact hR _ _ _ () dX4_word_76 (by unfold kWd; rw [if_pos c54])
        · refine k_aload_n hJ dX4_word_57 0 rfl ?_
          refine k_aload_n hJ dX4_word_58 0 rfl ?_
          refine gf_X4_204 (v := .int (nI fr)) hJ 0 rfl rfl dX4_word_59 ?_
          refine c_VI (As := [.int (nI fr)]) (st := []) hJ (ct_X4_byteAt l g b kf fj mj tl fr (tkE tp tl fr) va iw m th ai ct ks ot tp sb sz nu mo fr ht (by omega)) (Fr.all rfl) mv_X4_byteAt ml_X4_207 0 rfl rfl rfl (kRm_ok (by decide) (by decide)) rfl rfl (Nat.le_of_ble_eq_true rfl) dX4_word_62 ?_
          refine c_SI (As := [.int (kBy tp tl fr)]) (st := []) hJ (ct_X4_isLetter l g (kBy tp tl fr)) Fr.none ms_X4_isLetter ml_X4_210 (kRm_ok (by decide) (by decide)) rfl rfl (Nat.le_of_ble_eq_true rfl) dX4_word_65 ?_
          refine k_eqs (st2 := [.int (kb (bL tp tl fr))]) (by rw [bL_e (htp _)]) ?_
          refine b_if_ne (tgt := 75) hJ dX4_word_68 (by decide) (fun c68 => ?_) (fun c68 => ?_)
          · refine k_lload_n hJ dX4_word_75 1 rfl ?_
            exact hR _ _ _ () dX4_word_76 (by unfold kWd kWo; rw [if_neg (by rw [c54]; decide), if_pos c68, hWc c68, show i = tkE tp tl fr by omega])
          · refine k_lconst (v := 0) hJ dX4_word_71 (by decide) ?_
            refine k_goto (tgt := 76) hJ dX4_word_72 (by decide) ?_
            exact hR _ _ _ () dX4_word_76 (by unfold kWd kWo; rw [if_neg (by rw [c54]; decide), if_neg (by rw [c68]; decide)])
      · refine k_lload_n hJ dX4_word_15 1 rfl ?_
        refine k_ldc2 hJ dX4_word_16 cw_X4_223 ?_
        refine k_lcmp hJ dX4_word_19 ?_
        refine k_if_le (tgt := 27) hJ dX4_word_20 (by decide) (fun c20 => ?_) (fun c20 => ?_)
        · refine k_ldc2 hJ dX4_word_27 cw_X4_225 ?_
          refine k_lload_n hJ dX4_word_30 1 rfl ?_
          refine k_lmul hJ dX4_word_31 ?_
          refine k_aload_n hJ dX4_word_32 0 rfl ?_
          refine gf_X4_28 (v := .ref (b 7)) hJ 0 rfl rfl dX4_word_33 ?_
          refine k_iload_n hJ dX4_word_36 2 rfl ?_
          refine k_iald hJ 7 rfl i (by omega) (by decide) rfl dX4_word_37 ?_
          refine k_bipush (v := nI 96) hJ dX4_word_38 (by decide) ?_
          refine k_isub hJ dX4_word_40 ?_
          refine k_i2l hJ dX4_word_41 rfl ?_
          refine k_ladd hJ dX4_word_42 ?_
          refine k_lstore_n (lv1 := [(0, .ref (b 0)), (1, .long ((32 * W) + (((nI (tp i)) - (nI 96)).toInt64))), (3, .int (nI i))]) hJ dX4_word_43 (by decide) [1, 0, 2] rfl ?_
          refine n_iinc (b := 1) (lv1 := [(0, .ref (b 0)), (1, .long ((32 * W) + (((nI (tp i)) - (nI 96)).toInt64))), (3, .int (nI (i + 1)))]) hJ dX4_word_44 2 rfl (by decide) (by decide) [1, 2, 0] rfl ?_
          refine k_goto (tgt := 7) hJ dX4_word_47 (by decide) ?_
          refine ih (i + 1) _ (by omega) (by omega) (by omega) (fun h => ?_)
          have hw := hWc h
          have hb := vCo_le htp fr (i - fr)
          have z := of_decide_eq_true h
          have hl := vLt_iff.mp (lt_all z.1 z.2 (i - fr) (by omega))
          rw [show fr + (i - fr) = i by omega] at hl
          subst hw
          rw [show i + 1 - fr = (i - fr) + 1 by omega, vCo, if_neg (by have := (co_le (by omega)).mp c20; omega), show fr + (i - fr) = i by omega]; exact co_t hl
        · refine k_lload_n hJ dX4_word_23 1 rfl ?_
          refine k_goto (tgt := 43) hJ dX4_word_24 (by decide) ?_
          refine k_lstore_n (lv1 := [(0, .ref (b 0)), (1, .long W), (3, .int (nI i))]) hJ dX4_word_43 (by decide) [1, 0, 2] rfl ?_
          refine n_iinc (b := 1) (lv1 := [(0, .ref (b 0)), (1, .long W), (3, .int (nI (i + 1)))]) hJ dX4_word_44 2 rfl (by decide) (by decide) [1, 2, 0] rfl ?_
          refine k_goto (tgt := 7) hJ dX4_word_47 (by decide) ?_
          refine ih (i + 1) _ (by omega) (by omega) (by omega) (fun h => ?_)
          have hw := hWc h
          have hb := vCo_le htp fr (i - fr)
          have z := of_decide_eq_true h
          have hl := vLt_iff.mp (lt_all z.1 z.2 (i - fr) (by omega))
          rw [show fr + (i - fr) = i by omega] at hl
          subst hw
          rw [show i + 1 - fr = (i - fr) + 1 by omega, vCo, if_pos (by have : ¬ _ := fun q => c20 ((co_le (v := vCo tp fr (i - fr)) (by omega)).mpr q); omega)]
  exact L7 (tkE tp tl fr + 1) fr 0 (by omega) hge (by omega) (fun _ => by rw [Nat.sub_self]; rfl)
set_option maxHeartbeats 4000000 in
set_option maxRecDepth 100000 in
theorem ct_X4_number_t (l : Launch) (g : KG) (b : Nat → Nat) (kf : Bool) (fj : Int32) (mj tl fr va : Nat) (iw : Bool) (m : Nat → Nat) (th ai ct ks ot : Nat → Int32) (tp sb sz : Nat → Nat) (nu : Nat → Nat → Int64) (mo : Nat → Int64) (lo hi : Nat)  (ht : tl ≤ 120) (htp : ∀ i, tp i < 256) (hq : fr ≤ tl) (hlo : lo < 2 ^ 31) (hhi : hi < 2 ^ 31) (hN : hNum tp tl lo hi fr = true) : CV l yX4_number cX4_number 6 none (rmK 4) g [.ref (b 0), .int (nI lo), .int (nI hi)] (modW g b (mE kf fj mj tl fr (tkE tp tl fr) va false) m th ai ct ks ot tp sb sz nu mo) (modW g b (mE kf fj mj tl (tkN tp tl fr) (tkE tp tl (tkN tp tl fr)) (hVal tp tl fr) false) m th ai ct ks ot tp sb sz nu mo) := by
  refine k_bodyV (by decide) (Nat.le_of_ble_eq_true rfl) (fun J hJ hR => ?_)
  have hle := tkE_le (tp := tp) hq
  have hge := tkE_ge tp tl fr
  have hN := of_decide_eq_true hN
  show J (modW g b (mE kf fj mj tl fr (tkE tp tl fr) va false) m th ai ct ks ot tp sb sz nu mo) [(0, .ref (b 0)), (1, .int (nI lo)), (2, .int (nI hi))] 0 []
  refine k_aload_n hJ dX4_number_0 0 rfl ?_
  refine gf_X4_216 (v := .int (kb false)) hJ 0 rfl rfl dX4_number_1 ?_
  refine b_if_eq (tgt := 8) hJ dX4_number_4 (by decide) (fun c4 => ?_) (fun c4 => ?_)
  · refine k_aload_n hJ dX4_number_8 0 rfl ?_
    refine k_aload_n hJ dX4_number_9 0 rfl ?_
    refine gf_X4_204 (v := .int (nI fr)) hJ 0 rfl rfl dX4_number_10 ?_
    refine c_VI (As := [.int (nI fr)]) (st := []) hJ (ct_X4_byteAt l g b kf fj mj tl fr (tkE tp tl fr) va false m th ai ct ks ot tp sb sz nu mo fr ht (by omega)) (Fr.all rfl) mv_X4_byteAt ml_X4_207 0 rfl rfl rfl (kRm_ok (by decide) (by decide)) rfl rfl (Nat.le_of_ble_eq_true rfl) dX4_number_13 ?_
    refine c_SI (As := [.int (kBy tp tl fr)]) (st := []) hJ (ct_X4_isDigit l g (kBy tp tl fr)) Fr.none ms_X4_isDigit ml_X4_213 (kRm_ok (by decide) (by decide)) rfl rfl (Nat.le_of_ble_eq_true rfl) dX4_number_16 ?_
    refine k_eqs (st2 := [.int (kb (bD tp tl fr))]) (by rw [bD_e (htp _)]) ?_
    refine k_istore_n (lv1 := [(0, .ref (b 0)), (1, .int (nI lo)), (2, .int (nI hi)), (3, .int (kb (bD tp tl fr)))]) hJ dX4_number_19 (by decide) [1, 2, 3, 0] rfl ?_
    refine k_iconst (v := nI 0) hJ dX4_number_20 (by decide) ?_
    refine k_istore (lv1 := [(0, .ref (b 0)), (1, .int (nI lo)), (2, .int (nI hi)), (3, .int (kb (bD tp tl fr))), (4, .int (nI 0))]) hJ dX4_number_21 (by decide) [1, 2, 3, 4, 0] rfl ?_
    refine k_aload_n hJ dX4_number_23 0 rfl ?_
    refine gf_X4_204 (v := .int (nI fr)) hJ 0 rfl rfl dX4_number_24 ?_
    refine k_istore (lv1 := [(0, .ref (b 0)), (1, .int (nI lo)), (2, .int (nI hi)), (3, .int (kb (bD tp tl fr))), (4, .int (nI 0)), (5, .int (nI fr))]) hJ dX4_number_27 (by decide) [1, 2, 3, 4, 5, 0] rfl ?_
    have L29 : ∀ (fu : Nat) (i : Nat) (v : Nat), (fr ≤ i) → (i ≤ tkE tp tl fr) → (tkE tp tl fr + 1 ≤ i + fu) → (bD tp tl fr = true → v = vNm tp fr (i - fr)) → (bD tp tl fr = false → v = 0) → J (modW g b (mE kf fj mj tl fr (tkE tp tl fr) va false) m th ai ct ks ot tp sb sz nu mo) [(0, .ref (b 0)), (1, .int (nI lo)), (2, .int (nI hi)), (3, .int (kb (bD tp tl fr))), (4, .int (nI v)), (5, .int (nI i))] 29 [] := by
      intro fu
      induction fu with
      | zero => intro i v hfi hi2 hf hv1 hv0; exfalso; omega
      | succ fu ih =>
        intro i v hfi hi2 hf hv1 hv0
        refine k_iload hJ dX4_number_29 5 rfl ?_
        refine k_aload_n hJ dX4_number_31 0 rfl ?_
        refine gf_X4_201 (v := .int (nI (tkE tp tl fr))) hJ 0 rfl rfl dX4_number_32 ?_
        refine n_icmp_ge (tgt := 79) hJ dX4_number_35 (by decide) (by omega) (by omega) (fun c35 => ?_) (fun c35 => ?_)
        · have hva : v = if bD tp tl fr then hVal tp tl fr else 0 := by
            cases c : bD tp tl fr with
            | true => rw [if_pos rfl, hv1 c, show i = tkE tp tl fr by omega]; rfl
            | false => rw [if_neg (by decide), hv0 c]
          have hvb : v ≤ 10250 := by
            cases c : bD tp tl fr with
            | true => rw [hv1 c]; exact vNm_le htp fr _
            | false => rw [hv0 c]; exact Nat.zero_le _
          refine k_aload_n hJ dX4_number_79 0 rfl ?_
          refine k_iload hJ dX4_number_80 4 rfl ?_
          refine pf_X4_227 (ws2 := modW g b (mE kf fj mj tl fr (tkE tp tl fr) v false) m th ai ct ks ot tp sb sz nu mo) hJ 0 rfl rfl (Nat.le_of_ble_eq_true rfl) dX4_number_82 ?_
          refine k_aload_n hJ dX4_number_85 0 rfl ?_
          refine k_iload_n hJ dX4_number_86 3 rfl ?_
          refine b_if_eq (tgt := 107) hJ dX4_number_87 (by decide) (fun c87 => ?_) (fun c87 => ?_)
          · refine k_iconst (v := nI 0) hJ dX4_number_107 (by decide) ?_
            refine c_VV (As := [.int (nI 0)]) (st := []) hJ (ct_X4_must_f l g b kf fj mj tl fr v false m th ai ct ks ot tp sb sz nu mo) (Fr.all rfl) mv_X4_must ml_X4_230 0 rfl rfl rfl (kRm_ok (by decide) (by decide)) rfl rfl (Nat.le_of_ble_eq_true rfl) dX4_number_108 ?_
            exact absurd (c87.symm.trans (decide_eq_true (show fr < tl ∧ vDg (tp fr) = true from ⟨hN.1, hN.2.1⟩))) (by decide)
          · refine k_iload hJ dX4_number_90 4 rfl ?_
            refine k_i2l hJ dX4_number_92 rfl ?_
            refine k_iload_n hJ dX4_number_93 1 rfl ?_
            refine k_i2l hJ dX4_number_94 rfl ?_
            refine k_iload_n hJ dX4_number_95 2 rfl ?_
            refine k_i2l hJ dX4_number_96 rfl ?_
            refine c_SI (As := [.long ((nI v).toInt64), .long ((nI lo).toInt64), .long ((nI hi).toInt64)]) (st := [.ref (b 0)]) hJ (ct_X4_in l g ((nI v).toInt64) ((nI lo).toInt64) ((nI hi).toInt64)) Fr.none ms_X4_in ml_X4_47 (kRm_ok (by decide) (by decide)) rfl rfl (Nat.le_of_ble_eq_true rfl) dX4_number_97 ?_
            refine k_eqs (st2 := [.int (kb (decide (lo ≤ v ∧ v ≤ hi))), .ref (b 0)]) (by rw [vInL_bt (nI v) (nI lo) (nI hi) lo hi rfl rfl, vBt_n (by omega) hlo hhi]) ?_
            refine b_if_eq (tgt := 107) hJ dX4_number_100 (by decide) (fun c100 => ?_) (fun c100 => ?_)
            · refine k_iconst (v := nI 0) hJ dX4_number_107 (by decide) ?_
              refine c_VV (As := [.int (nI 0)]) (st := []) hJ (ct_X4_must_f l g b kf fj mj tl fr v false m th ai ct ks ot tp sb sz nu mo) (Fr.all rfl) mv_X4_must ml_X4_230 0 rfl rfl rfl (kRm_ok (by decide) (by decide)) rfl rfl (Nat.le_of_ble_eq_true rfl) dX4_number_108 ?_
              exact absurd hN.2.2 (by rw [c87, if_pos rfl] at hva; rw [← hva]; exact of_decide_eq_false c100)
            · refine k_iconst (v := nI 1) hJ dX4_number_103 (by decide) ?_
              refine k_goto (tgt := 108) hJ dX4_number_104 (by decide) ?_
              refine c_VV (As := [.int (nI 1)]) (st := []) hJ (ct_X4_must_t l g b kf fj mj tl fr v false m th ai ct ks ot tp sb sz nu mo ht htp hq) (Fr.all rfl) mv_X4_must ml_X4_230 0 rfl rfl rfl (kRm_ok (by decide) (by decide)) rfl rfl (Nat.le_of_ble_eq_true rfl) dX4_number_108 ?_
              exact k_eqw (ws2 := modW g b (mE kf fj mj tl (tkN tp tl fr) (tkE tp tl (tkN tp tl fr)) (hVal tp tl fr) false) m th ai ct ks ot tp sb sz nu mo) (by rw [hva, c87, if_pos rfl]) (hR _ _ () () dX4_number_111 trivial)
        · refine k_iload_n hJ dX4_number_38 3 rfl ?_
          refine b_if_eq (tgt := 79) hJ dX4_number_39 (by decide) (fun c39 => ?_) (fun c39 => ?_)
          · have hva : v = if bD tp tl fr then hVal tp tl fr else 0 := by
              cases c : bD tp tl fr with
              | true => exact absurd (c.symm.trans c39) (by decide)
              | false => rw [if_neg (by decide), hv0 c]
            have hvb : v ≤ 10250 := by
              cases c : bD tp tl fr with
              | true => rw [hv1 c]; exact vNm_le htp fr _
              | false => rw [hv0 c]; exact Nat.zero_le _
            refine k_aload_n hJ dX4_number_79 0 rfl ?_
            refine k_iload hJ dX4_number_80 4 rfl ?_
            refine pf_X4_227 (ws2 := modW g b (mE kf fj mj tl fr (tkE tp tl fr) v false) m th ai ct ks ot tp sb sz nu mo) hJ 0 rfl rfl (Nat.le_of_ble_eq_true rfl) dX4_number_82 ?_
            refine k_aload_n hJ dX4_number_85 0 rfl ?_
            refine k_iload_n hJ dX4_number_86 3 rfl ?_
            refine b_if_eq (tgt := 107) hJ dX4_number_87 (by decide) (fun c87 => ?_) (fun c87 => ?_)
            · refine k_iconst (v := nI 0) hJ dX4_number_107 (by decide) ?_
              refine c_VV (As := [.int (nI 0)]) (st := []) hJ (ct_X4_must_f l g b kf fj mj tl fr v false m th ai ct ks ot tp sb sz nu mo) (Fr.all rfl) mv_X4_must ml_X4_230 0 rfl rfl rfl (kRm_ok (by decide) (by decide)) rfl rfl (Nat.le_of_ble_eq_true rfl) dX4_number_108 ?_
              exact absurd (c87.symm.trans (decide_eq_true (show fr < tl ∧ vDg (tp fr) = true from ⟨hN.1, hN.2.1⟩))) (by decide)
            · refine k_iload hJ dX4_number_90 4 rfl ?_
              refine k_i2l hJ dX4_number_92 rfl ?_
              refine k_iload_n hJ dX4_number_93 1 rfl ?_
              refine k_i2l hJ dX4_number_94 rfl ?_
              refine k_iload_n hJ dX4_number_95 2 rfl ?_
              refine k_i2l hJ dX4_number_96 rfl ?_
              refine c_SI (As := [.long ((nI v).toInt64), .long ((nI lo).toInt64), .long ((nI hi).toInt64)]) (st := [.ref (b 0)]) hJ (ct_X4_in l g ((nI v).toInt64) ((nI lo).toInt64) ((nI hi).toInt64)) Fr.none ms_X4_in ml_X4_47 (kRm_ok (by decide) (by decide)) rfl rfl (Nat.le_of_ble_eq_true rfl) dX4_number_97 ?_
              refine k_eqs (st2 := [.int (kb (decide (lo ≤ v ∧ v ≤ hi))), .ref (b 0)]) (by rw [vInL_bt (nI v) (nI lo) (nI hi) lo hi rfl rfl, vBt_n (by omega) hlo hhi]) ?_
              refine b_if_eq (tgt := 107) hJ dX4_number_100 (by decide) (fun c100 => ?_) (fun c100 => ?_)
              · refine k_iconst (v := nI 0) hJ dX4_number_107 (by decide) ?_
                refine c_VV (As := [.int (nI 0)]) (st := []) hJ (ct_X4_must_f l g b kf fj mj tl fr v false m th ai ct ks ot tp sb sz nu mo) (Fr.all rfl) mv_X4_must ml_X4_230 0 rfl rfl rfl (kRm_ok (by decide) (by decide)) rfl rfl (Nat.le_of_ble_eq_true rfl) dX4_number_108 ?_
                exact absurd hN.2.2 (by rw [c87, if_pos rfl] at hva; rw [← hva]; exact of_decide_eq_false c100)
              · refine k_iconst (v := nI 1) hJ dX4_number_103 (by decide) ?_
                refine k_goto (tgt := 108) hJ dX4_number_104 (by decide) ?_
                refine c_VV (As := [.int (nI 1)]) (st := []) hJ (ct_X4_must_t l g b kf fj mj tl fr v false m th ai ct ks ot tp sb sz nu mo ht htp hq) (Fr.all rfl) mv_X4_must ml_X4_230 0 rfl rfl rfl (kRm_ok (by decide) (by decide)) rfl rfl (Nat.le_of_ble_eq_true rfl) dX4_number_108 ?_
                exact k_eqw (ws2 := modW g b (mE kf fj mj tl (tkN tp tl fr) (tkE tp tl (tkN tp tl fr)) (hVal tp tl fr) false) m th ai ct ks ot tp sb sz nu mo) (by rw [hva, c87, if_pos rfl]) (hR _ _ () () dX4_number_111 trivial)
          · have z := of_decide_eq_true c39
            have hdg := vDg_iff.mp (dg_all z.1 z.2 (i - fr) (by omega))
            rw [show fr + (i - fr) = i by omega] at hdg
            have hvb := vNm_le htp fr (i - fr)
            rw [← hv1 c39] at hvb
            refine k_iload hJ dX4_number_42 4 rfl ?_
            refine k_sipush (v := nI 999) hJ dX4_number_44 (by decide) ?_
            refine n_icmp_le (tgt := 55) hJ dX4_number_47 (by decide) (by omega) (by omega) (fun c47 => ?_) (fun c47 => ?_)
            · refine k_bipush (v := nI 10) hJ dX4_number_55 (by decide) ?_
              refine k_iload hJ dX4_number_57 4 rfl ?_
              refine n_imul hJ dX4_number_59 ?_
              refine k_aload_n hJ dX4_number_60 0 rfl ?_
              refine gf_X4_28 (v := .ref (b 7)) hJ 0 rfl rfl dX4_number_61 ?_
              refine k_iload hJ dX4_number_64 5 rfl ?_
              refine k_iald hJ 7 rfl i (by omega) (by decide) rfl dX4_number_66 ?_
              refine n_iadd hJ dX4_number_67 ?_
              refine k_bipush (v := nI 48) hJ dX4_number_68 (by decide) ?_
              refine n_isub hJ dX4_number_70 (by omega) ?_
              refine k_istore (lv1 := [(0, .ref (b 0)), (1, .int (nI lo)), (2, .int (nI hi)), (3, .int (kb (bD tp tl fr))), (4, .int (nI (((10 * v) + (tp i)) - 48))), (5, .int (nI i))]) hJ dX4_number_71 (by decide) [1, 2, 3, 4, 0, 5] rfl ?_
              refine n_iinc (b := 1) (lv1 := [(0, .ref (b 0)), (1, .int (nI lo)), (2, .int (nI hi)), (3, .int (kb (bD tp tl fr))), (4, .int (nI (((10 * v) + (tp i)) - 48))), (5, .int (nI (i + 1)))]) hJ dX4_number_73 5 rfl (by decide) (by decide) [1, 2, 3, 4, 5, 0] rfl ?_
              refine k_goto (tgt := 29) hJ dX4_number_76 (by decide) ?_
              exact ih (i + 1) _ (by omega) (by omega) (by omega) (fun h => by rw [show i + 1 - fr = (i - fr) + 1 by omega, vNm, ← hv1 h, show fr + (i - fr) = i by omega, if_neg (by omega)]) (fun h => absurd (h.symm.trans c39) (by decide))
            · refine k_iload hJ dX4_number_50 4 rfl ?_
              refine k_goto (tgt := 71) hJ dX4_number_52 (by decide) ?_
              refine k_istore (lv1 := [(0, .ref (b 0)), (1, .int (nI lo)), (2, .int (nI hi)), (3, .int (kb (bD tp tl fr))), (4, .int (nI v)), (5, .int (nI i))]) hJ dX4_number_71 (by decide) [1, 2, 3, 4, 0, 5] rfl ?_
              refine n_iinc (b := 1) (lv1 := [(0, .ref (b 0)), (1, .int (nI lo)), (2, .int (nI hi)), (3, .int (kb (bD tp tl fr))), (4, .int (nI v)), (5, .int (nI (i + 1)))]) hJ dX4_number_73 5 rfl (by decide) (by decide) [1, 2, 3, 4, 5, 0] rfl ?_
              refine k_goto (tgt := 29) hJ dX4_number_76 (by decide) ?_
              exact ih (i + 1) _ (by omega) (by omega) (by omega) (fun h => by rw [show i + 1 - fr = (i - fr) + 1 by omega, vNm, ← hv1 h, show fr + (i - fr) = i by omega, if_pos (by omega)]) (fun h => absurd (h.symm.trans c39) (by decide))
    exact L29 (tkE tp tl fr + 1) fr 0 (by omega) hge (by omega) (fun _ => by rw [Nat.sub_self]; rfl) (fun _ => rfl)
  · exact absurd c4 (by decide)
set_option maxHeartbeats 4000000 in
set_option maxRecDepth 100000 in
theorem ct_X4_number_f (l : Launch) (g : KG) (b : Nat → Nat) (kf : Bool) (fj : Int32) (mj tl fr va : Nat) (iw : Bool) (m : Nat → Nat) (th ai ct ks ot : Nat → Int32) (tp sb sz : Nat → Nat) (nu : Nat → Nat → Int64) (mo : Nat → Int64) (lo hi : Nat)  (ht : tl ≤ 120) (htp : ∀ i, tp i < 256) (hq : fr ≤ tl) (hlo : lo < 2 ^ 31) (hhi : hi < 2 ^ 31) (hN : hNum tp tl lo hi fr = false) : CV l yX4_number cX4_number 6 none (rmK 4) g [.ref (b 0), .int (nI lo), .int (nI hi)] (modW g b (mE kf fj mj tl fr (tkE tp tl fr) va false) m th ai ct ks ot tp sb sz nu mo) (modW g b (mE kf fj mj tl fr (tkE tp tl fr) (if bD tp tl fr then hVal tp tl fr else 0) true) m th ai ct ks ot tp sb sz nu mo) := by
  refine k_bodyV (by decide) (Nat.le_of_ble_eq_true rfl) (fun J hJ hR => ?_)
  have hle := tkE_le (tp := tp) hq
  have hge := tkE_ge tp tl fr
  have hN := of_decide_eq_false hN
  show J (modW g b (mE kf fj mj tl fr (tkE tp tl fr) va false) m th ai ct ks ot tp sb sz nu mo) [(0, .ref (b 0)), (1, .int (nI lo)), (2, .int (nI hi))] 0 []
  refine k_aload_n hJ dX4_number_0 0 rfl ?_
  refine gf_X4_216 (v := .int (kb false)) hJ 0 rfl rfl dX4_number_1 ?_
  refine b_if_eq (tgt := 8) hJ dX4_number_4 (by decide) (fun c4 => ?_) (fun c4 => ?_)
  · refine k_aload_n hJ dX4_number_8 0 rfl ?_
    refine k_aload_n hJ dX4_number_9 0 rfl ?_
    refine gf_X4_204 (v := .int (nI fr)) hJ 0 rfl rfl dX4_number_10 ?_
    refine c_VI (As := [.int (nI fr)]) (st := []) hJ (ct_X4_byteAt l g b kf fj mj tl fr (tkE tp tl fr) va false m th ai ct ks ot tp sb sz nu mo fr ht (by omega)) (Fr.all rfl) mv_X4_byteAt ml_X4_207 0 rfl rfl rfl (kRm_ok (by decide) (by decide)) rfl rfl (Nat.le_of_ble_eq_true rfl) dX4_number_13 ?_
    refine c_SI (As := [.int (kBy tp tl fr)]) (st := []) hJ (ct_X4_isDigit l g (kBy tp tl fr)) Fr.none ms_X4_isDigit ml_X4_213 (kRm_ok (by decide) (by decide)) rfl rfl (Nat.le_of_ble_eq_true rfl) dX4_number_16 ?_
    refine k_eqs (st2 := [.int (kb (bD tp tl fr))]) (by rw [bD_e (htp _)]) ?_
    refine k_istore_n (lv1 := [(0, .ref (b 0)), (1, .int (nI lo)), (2, .int (nI hi)), (3, .int (kb (bD tp tl fr)))]) hJ dX4_number_19 (by decide) [1, 2, 3, 0] rfl ?_
    refine k_iconst (v := nI 0) hJ dX4_number_20 (by decide) ?_
    refine k_istore (lv1 := [(0, .ref (b 0)), (1, .int (nI lo)), (2, .int (nI hi)), (3, .int (kb (bD tp tl fr))), (4, .int (nI 0))]) hJ dX4_number_21 (by decide) [1, 2, 3, 4, 0] rfl ?_
    refine k_aload_n hJ dX4_number_23 0 rfl ?_
    refine gf_X4_204 (v := .int (nI fr)) hJ 0 rfl rfl dX4_number_24 ?_
    refine k_istore (lv1 := [(0, .ref (b 0)), (1, .int (nI lo)), (2, .int (nI hi)), (3, .int (kb (bD tp tl fr))), (4, .int (nI 0)), (5, .int (nI fr))]) hJ dX4_number_27 (by decide) [1, 2, 3, 4, 5, 0] rfl ?_
    have L29 : ∀ (fu : Nat) (i : Nat) (v : Nat), (fr ≤ i) → (i ≤ tkE tp tl fr) → (tkE tp tl fr + 1 ≤ i + fu) → (bD tp tl fr = true → v = vNm tp fr (i - fr)) → (bD tp tl fr = false → v = 0) → J (modW g b (mE kf fj mj tl fr (tkE tp tl fr) va false) m th ai ct ks ot tp sb sz nu mo) [(0, .ref (b 0)), (1, .int (nI lo)), (2, .int (nI hi)), (3, .int (kb (bD tp tl fr))), (4, .int (nI v)), (5, .int (nI i))] 29 [] := by
      intro fu
      induction fu with
      | zero => intro i v hfi hi2 hf hv1 hv0; exfalso; omega
      | succ fu ih =>
        intro i v hfi hi2 hf hv1 hv0
        refine k_iload hJ dX4_number_29 5 rfl ?_
        refine k_aload_n hJ dX4_number_31 0 rfl ?_
        refine gf_X4_201 (v := .int (nI (tkE tp tl fr))) hJ 0 rfl rfl dX4_number_32 ?_
        refine n_icmp_ge (tgt := 79) hJ dX4_number_35 (by decide) (by omega) (by omega) (fun c35 => ?_) (fun c35 => ?_)
        · have hva : v = if bD tp tl fr then hVal tp tl fr else 0 := by
            cases c : bD tp tl fr with
            | true => rw [if_pos rfl, hv1 c, show i = tkE tp tl fr by omega]; rfl
            | false => rw [if_neg (by decide), hv0 c]
          have hvb : v ≤ 10250 := by
            cases c : bD tp tl fr with
            | true => rw [hv1 c]; exact vNm_le htp fr _
            | false => rw [hv0 c]; exact Nat.zero_le _
          refine k_aload_n hJ dX4_number_79 0 rfl ?_
          refine k_iload hJ dX4_number_80 4 rfl ?_
          refine pf_X4_227 (ws2 := modW g b (mE kf fj mj tl fr (tkE tp tl fr) v false) m th ai ct ks ot tp sb sz nu mo) hJ 0 rfl rfl (Nat.le_of_ble_eq_true rfl) dX4_number_82 ?_
          refine k_aload_n hJ dX4_number_85 0 rfl ?_
          refine k_iload_n hJ dX4_number_86 3 rfl ?_
          refine b_if_eq (tgt := 107) hJ dX4_number_87 (by decide) (fun c87 => ?_) (fun c87 => ?_)
          · refine k_iconst (v := nI 0) hJ dX4_number_107 (by decide) ?_
            refine c_VV (As := [.int (nI 0)]) (st := []) hJ (ct_X4_must_f l g b kf fj mj tl fr v false m th ai ct ks ot tp sb sz nu mo) (Fr.all rfl) mv_X4_must ml_X4_230 0 rfl rfl rfl (kRm_ok (by decide) (by decide)) rfl rfl (Nat.le_of_ble_eq_true rfl) dX4_number_108 ?_
            exact k_eqw (ws2 := modW g b (mE kf fj mj tl fr (tkE tp tl fr) (if bD tp tl fr then hVal tp tl fr else 0) true) m th ai ct ks ot tp sb sz nu mo) (by rw [hva]) (hR _ _ () () dX4_number_111 trivial)
          · refine k_iload hJ dX4_number_90 4 rfl ?_
            refine k_i2l hJ dX4_number_92 rfl ?_
            refine k_iload_n hJ dX4_number_93 1 rfl ?_
            refine k_i2l hJ dX4_number_94 rfl ?_
            refine k_iload_n hJ dX4_number_95 2 rfl ?_
            refine k_i2l hJ dX4_number_96 rfl ?_
            refine c_SI (As := [.long ((nI v).toInt64), .long ((nI lo).toInt64), .long ((nI hi).toInt64)]) (st := [.ref (b 0)]) hJ (ct_X4_in l g ((nI v).toInt64) ((nI lo).toInt64) ((nI hi).toInt64)) Fr.none ms_X4_in ml_X4_47 (kRm_ok (by decide) (by decide)) rfl rfl (Nat.le_of_ble_eq_true rfl) dX4_number_97 ?_
            refine k_eqs (st2 := [.int (kb (decide (lo ≤ v ∧ v ≤ hi))), .ref (b 0)]) (by rw [vInL_bt (nI v) (nI lo) (nI hi) lo hi rfl rfl, vBt_n (by omega) hlo hhi]) ?_
            refine b_if_eq (tgt := 107) hJ dX4_number_100 (by decide) (fun c100 => ?_) (fun c100 => ?_)
            · refine k_iconst (v := nI 0) hJ dX4_number_107 (by decide) ?_
              refine c_VV (As := [.int (nI 0)]) (st := []) hJ (ct_X4_must_f l g b kf fj mj tl fr v false m th ai ct ks ot tp sb sz nu mo) (Fr.all rfl) mv_X4_must ml_X4_230 0 rfl rfl rfl (kRm_ok (by decide) (by decide)) rfl rfl (Nat.le_of_ble_eq_true rfl) dX4_number_108 ?_
              exact k_eqw (ws2 := modW g b (mE kf fj mj tl fr (tkE tp tl fr) (if bD tp tl fr then hVal tp tl fr else 0) true) m th ai ct ks ot tp sb sz nu mo) (by rw [hva]) (hR _ _ () () dX4_number_111 trivial)
            · refine k_iconst (v := nI 1) hJ dX4_number_103 (by decide) ?_
              refine k_goto (tgt := 108) hJ dX4_number_104 (by decide) ?_
              refine c_VV (As := [.int (nI 1)]) (st := []) hJ (ct_X4_must_t l g b kf fj mj tl fr v false m th ai ct ks ot tp sb sz nu mo ht htp hq) (Fr.all rfl) mv_X4_must ml_X4_230 0 rfl rfl rfl (kRm_ok (by decide) (by decide)) rfl rfl (Nat.le_of_ble_eq_true rfl) dX4_number_108 ?_
              exact absurd ⟨(of_decide_eq_true c87).1, (of_decide_eq_true c87).2, by rw [c87, if_pos rfl] at hva; rw [← hva]; exact of_decide_eq_true c100⟩ hN
        · refine k_iload_n hJ dX4_number_38 3 rfl ?_
          refine b_if_eq (tgt := 79) hJ dX4_number_39 (by decide) (fun c39 => ?_) (fun c39 => ?_)
          · have hva : v = if bD tp tl fr then hVal tp tl fr else 0 := by
              cases c : bD tp tl fr with
              | true => exact absurd (c.symm.trans c39) (by decide)
              | false => rw [if_neg (by decide), hv0 c]
            have hvb : v ≤ 10250 := by
              cases c : bD tp tl fr with
              | true => rw [hv1 c]; exact vNm_le htp fr _
              | false => rw [hv0 c]; exact Nat.zero_le _
            refine k_aload_n hJ dX4_number_79 0 rfl ?_
            refine k_iload hJ dX4_number_80 4 rfl ?_
            refine pf_X4_227 (ws2 := modW g b (mE kf fj mj tl fr (tkE tp tl fr) v false) m th ai ct ks ot tp sb sz nu mo) hJ 0 rfl rfl (Nat.le_of_ble_eq_true rfl) dX4_number_82 ?_
            refine k_aload_n hJ dX4_number_85 0 rfl ?_
            refine k_iload_n hJ dX4_number_86 3 rfl ?_
            refine b_if_eq (tgt := 107) hJ dX4_number_87 (by decide) (fun c87 => ?_) (fun c87 => ?_)
            · refine k_iconst (v := nI 0) hJ dX4_number_107 (by decide) ?_
              refine c_VV (As := [.int (nI 0)]) (st := []) hJ (ct_X4_must_f l g b kf fj mj tl fr v false m th ai ct ks ot tp sb sz nu mo) (Fr.all rfl) mv_X4_must ml_X4_230 0 rfl rfl rfl (kRm_ok (by decide) (by decide)) rfl rfl (Nat.le_of_ble_eq_true rfl) dX4_number_108 ?_
              exact k_eqw (ws2 := modW g b (mE kf fj mj tl fr (tkE tp tl fr) (if bD tp tl fr then hVal tp tl fr else 0) true) m th ai ct ks ot tp sb sz nu mo) (by rw [hva]) (hR _ _ () () dX4_number_111 trivial)
            · refine k_iload hJ dX4_number_90 4 rfl ?_
              refine k_i2l hJ dX4_number_92 rfl ?_
              refine k_iload_n hJ dX4_number_93 1 rfl ?_
              refine k_i2l hJ dX4_number_94 rfl ?_
              refine k_iload_n hJ dX4_number_95 2 rfl ?_
              refine k_i2l hJ dX4_number_96 rfl ?_
              refine c_SI (As := [.long ((nI v).toInt64), .long ((nI lo).toInt64), .long ((nI hi).toInt64)]) (st := [.ref (b 0)]) hJ (ct_X4_in l g ((nI v).toInt64) ((nI lo).toInt64) ((nI hi).toInt64)) Fr.none ms_X4_in ml_X4_47 (kRm_ok (by decide) (by decide)) rfl rfl (Nat.le_of_ble_eq_true rfl) dX4_number_97 ?_
              refine k_eqs (st2 := [.int (kb (decide (lo ≤ v ∧ v ≤ hi))), .ref (b 0)]) (by rw [vInL_bt (nI v) (nI lo) (nI hi) lo hi rfl rfl, vBt_n (by omega) hlo hhi]) ?_
              refine b_if_eq (tgt := 107) hJ dX4_number_100 (by decide) (fun c100 => ?_) (fun c100 => ?_)
              · refine k_iconst (v := nI 0) hJ dX4_number_107 (by decide) ?_
                refine c_VV (As := [.int (nI 0)]) (st := []) hJ (ct_X4_must_f l g b kf fj mj tl fr v false m th ai ct ks ot tp sb sz nu mo) (Fr.all rfl) mv_X4_must ml_X4_230 0 rfl rfl rfl (kRm_ok (by decide) (by decide)) rfl rfl (Nat.le_of_ble_eq_true rfl) dX4_number_108 ?_
                exact k_eqw (ws2 := modW g b (mE kf fj mj tl fr (tkE tp tl fr) (if bD tp tl fr then hVal tp tl fr else 0) true) m th ai ct ks ot tp sb sz nu mo) (by rw [hva]) (hR _ _ () () dX4_number_111 trivial)
              · refine k_iconst (v := nI 1) hJ dX4_number_103 (by decide) ?_
                refine k_goto (tgt := 108) hJ dX4_number_104 (by decide) ?_
                refine c_VV (As := [.int (nI 1)]) (st := []) hJ (ct_X4_must_t l g b kf fj mj tl fr v false m th ai ct ks ot tp sb sz nu mo ht htp hq) (Fr.all rfl) mv_X4_must ml_X4_230 0 rfl rfl rfl (kRm_ok (by decide) (by decide)) rfl rfl (Nat.le_of_ble_eq_true rfl) dX4_number_108 ?_
                exact absurd ⟨(of_decide_eq_true c87).1, (of_decide_eq_true c87).2, by rw [c87, if_pos rfl] at hva; rw [← hva]; exact of_decide_eq_true c100⟩ hN
          · have z := of_decide_eq_true c39
            have hdg := vDg_iff.mp (dg_all z.1 z.2 (i - fr) (by omega))
            rw [show fr + (i - fr) = i by omega] at hdg
            have hvb := vNm_le htp fr (i - fr)
            rw [← hv1 c39] at hvb
            refine k_iload hJ dX4_number_42 4 rfl ?_
            refine k_sipush (v := nI 999) hJ dX4_number_44 (by decide) ?_
            refine n_icmp_le (tgt := 55) hJ dX4_number_47 (by decide) (by omega) (by omega) (fun c47 => ?_) (fun c47 => ?_)
            · refine k_bipush (v := nI 10) hJ dX4_number_55 (by decide) ?_
              refine k_iload hJ dX4_number_57 4 rfl ?_
              refine n_imul hJ dX4_number_59 ?_
              refine k_aload_n hJ dX4_number_60 0 rfl ?_
              refine gf_X4_28 (v := .ref (b 7)) hJ 0 rfl rfl dX4_number_61 ?_
              refine k_iload hJ dX4_number_64 5 rfl ?_
              refine k_iald hJ 7 rfl i (by omega) (by decide) rfl dX4_number_66 ?_
              refine n_iadd hJ dX4_number_67 ?_
              refine k_bipush (v := nI 48) hJ dX4_number_68 (by decide) ?_
              refine n_isub hJ dX4_number_70 (by omega) ?_
              refine k_istore (lv1 := [(0, .ref (b 0)), (1, .int (nI lo)), (2, .int (nI hi)), (3, .int (kb (bD tp tl fr))), (4, .int (nI (((10 * v) + (tp i)) - 48))), (5, .int (nI i))]) hJ dX4_number_71 (by decide) [1, 2, 3, 4, 0, 5] rfl ?_
              refine n_iinc (b := 1) (lv1 := [(0, .ref (b 0)), (1, .int (nI lo)), (2, .int (nI hi)), (3, .int (kb (bD tp tl fr))), (4, .int (nI (((10 * v) + (tp i)) - 48))), (5, .int (nI (i + 1)))]) hJ dX4_number_73 5 rfl (by decide) (by decide) [1, 2, 3, 4, 5, 0] rfl ?_
              refine k_goto (tgt := 29) hJ dX4_number_76 (by decide) ?_
              exact ih (i + 1) _ (by omega) (by omega) (by omega) (fun h => by rw [show i + 1 - fr = (i - fr) + 1 by omega, vNm, ← hv1 h, show fr + (i - fr) = i by omega, if_neg (by omega)]) (fun h => absurd (h.symm.trans c39) (by decide))
            · refine k_iload hJ dX4_number_50 4 rfl ?_
              refine k_goto (tgt := 71) hJ dX4_number_52 (by decide) ?_
              refine k_istore (lv1 := [(0, .ref (b 0)), (1, .int (nI lo)), (2, .int (nI hi)), (3, .int (kb (bD tp tl fr))), (4, .int (nI v)), (5, .int (nI i))]) hJ dX4_number_71 (by decide) [1, 2, 3, 4, 0, 5] rfl ?_
              refine n_iinc (b := 1) (lv1 := [(0, .ref (b 0)), (1, .int (nI lo)), (2, .int (nI hi)), (3, .int (kb (bD tp tl fr))), (4, .int (nI v)), (5, .int (nI (i + 1)))]) hJ dX4_number_73 5 rfl (by decide) (by decide) [1, 2, 3, 4, 5, 0] rfl ?_
              refine k_goto (tgt := 29) hJ dX4_number_76 (by decide) ?_
              exact ih (i + 1) _ (by omega) (by omega) (by omega) (fun h => by rw [show i + 1 - fr = (i - fr) + 1 by omega, vNm, ← hv1 h, show fr + (i - fr) = i by omega, if_pos (by omega)]) (fun h => absurd (h.symm.trans c39) (by decide))
    exact L29 (tkE tp tl fr + 1) fr 0 (by omega) hge (by omega) (fun _ => by rw [Nat.sub_self]; rfl) (fun _ => rfl)
  · exact absurd c4 (by decide)
set_option maxHeartbeats 4000000 in
set_option maxRecDepth 100000 in
theorem ct_X4_number_w (l : Launch) (g : KG) (b : Nat → Nat) (kf : Bool) (fj : Int32) (mj tl fr va : Nat) (iw : Bool) (m : Nat → Nat) (th ai ct ks ot : Nat → Int32) (tp sb sz : Nat → Nat) (nu : Nat → Nat → Int64) (mo : Nat → Int64) (lo hi : Nat)  : CV l yX4_number cX4_number 6 none (rmK 4) g [.ref (b 0), .int (nI lo), .int (nI hi)] (modW g b (mE kf fj mj tl fr (tkE tp tl fr) va true) m th ai ct ks ot tp sb sz nu mo) (modW g b (mE kf fj mj tl fr (tkE tp tl fr) va true) m th ai ct ks ot tp sb sz nu mo) := by
  refine k_bodyV (by decide) (Nat.le_of_ble_eq_true rfl) (fun J hJ hR => ?_)
  show J (modW g b (mE kf fj mj tl fr (tkE tp tl fr) va true) m th ai ct ks ot tp sb sz nu mo) [(0, .ref (b 0)), (1, .int (nI lo)), (2, .int (nI hi))] 0 []
  refine k_aload_n hJ dX4_number_0 0 rfl ?_
  refine gf_X4_216 (v := .int (kb true)) hJ 0 rfl rfl dX4_number_1 ?_
  refine b_if_eq (tgt := 8) hJ dX4_number_4 (by decide) (fun c4 => ?_) (fun c4 => ?_)
  · exact absurd c4 (by decide)
  · exact hR _ _ () () dX4_number_7 trivial
set_option maxHeartbeats 4000000 in
set_option maxRecDepth 100000 in
theorem ct_X4_kindHere (l : Launch) (g : KG) (b : Nat → Nat) (kf : Bool) (fj : Int32) (mj tl fr va : Nat) (iw : Bool) (m : Nat → Nat) (th ai ct ks ot : Nat → Int32) (tp sb sz : Nat → Nat) (nu : Nat → Nat → Int64) (mo : Nat → Int64)  (ht : tl ≤ 120) (htp : ∀ i, tp i < 256) (hq : fr ≤ tl) : CI l yX4_kindHere cX4_kindHere 3 (some .int) (rmK 3) g [.ref (b 0)] (modW g b (mE kf fj mj tl fr (tkE tp tl fr) va false) m th ai ct ks ot tp sb sz nu mo) (kOpt (hKd tp tl fr)) (modW g b (mE kf fj mj tl fr (tkE tp tl fr) va false) m th ai ct ks ot tp sb sz nu mo) := by
  refine k_bodyI (by decide) (Nat.le_of_ble_eq_true rfl) (fun _ _ _ => rfl) (fun J hJ hR => ?_)
  show J (modW g b (mE kf fj mj tl fr (tkE tp tl fr) va false) m th ai ct ks ot tp sb sz nu mo) [(0, .ref (b 0))] 0 []
  refine k_aload_n hJ dX4_kindHere_0 0 rfl ?_
  refine c_VL (As := []) (st := []) hJ (ct_X4_word l g b kf fj mj tl fr va false m th ai ct ks ot tp sb sz nu mo ht htp hq) (Fr.all rfl) mv_X4_word ml_X4_234 0 rfl rfl rfl (kRm_ok (by decide) (by decide)) rfl rfl (Nat.le_of_ble_eq_true rfl) dX4_kindHere_1 ?_
  show J (modW g b (mE kf fj mj tl fr (tkE tp tl fr) va false) m th ai ct ks ot tp sb sz nu mo) [(0, .ref (b 0))] 4 [.long (kWo tp tl fr)]
  refine k_lstore_n (lv1 := [(0, .ref (b 0)), (1, .long (kWo tp tl fr))]) hJ dX4_kindHere_4 (by decide) [1, 0] rfl ?_
  refine k_lload_n hJ dX4_kindHere_5 1 rfl ?_
  refine k_ldc2 hJ dX4_kindHere_6 cw_X4_238 ?_
  refine k_lcmp hJ dX4_kindHere_9 ?_
  refine k_if_ne (tgt := 17) hJ dX4_kindHere_10 (by decide) (fun c10 => ?_) (fun c10 => ?_)
  · have c10 : ¬ hW tp tl wPe fr = true := fun q => c10 (lg_eq.mpr ((kWo_wPe htp).mpr q))
    refine k_lload_n hJ dX4_kindHere_17 1 rfl ?_
    refine k_ldc2 hJ dX4_kindHere_18 cw_X4_240 ?_
    refine k_lcmp hJ dX4_kindHere_21 ?_
    refine k_if_ne (tgt := 29) hJ dX4_kindHere_22 (by decide) (fun c22 => ?_) (fun c22 => ?_)
    · have c22 : ¬ hW tp tl wCo fr = true := fun q => c22 (lg_eq.mpr ((kWo_wCo htp).mpr q))
      refine k_lload_n hJ dX4_kindHere_29 1 rfl ?_
      refine k_ldc2 hJ dX4_kindHere_30 cw_X4_242 ?_
      refine k_lcmp hJ dX4_kindHere_33 ?_
      refine k_if_ne (tgt := 41) hJ dX4_kindHere_34 (by decide) (fun c34 => ?_) (fun c34 => ?_)
      · have c34 : ¬ hW tp tl wBa fr = true := fun q => c34 (lg_eq.mpr ((kWo_wBa htp).mpr q))
        refine k_lload_n hJ dX4_kindHere_41 1 rfl ?_
        refine k_ldc2 hJ dX4_kindHere_42 cw_X4_244 ?_
        refine k_lcmp hJ dX4_kindHere_45 ?_
        refine k_if_ne (tgt := 53) hJ dX4_kindHere_46 (by decide) (fun c46 => ?_) (fun c46 => ?_)
        · have c46 : ¬ hW tp tl wDo fr = true := fun q => c46 (lg_eq.mpr ((kWo_wDo htp).mpr q))
          refine k_lload_n hJ dX4_kindHere_53 1 rfl ?_
          refine k_ldc2 hJ dX4_kindHere_54 cw_X4_246 ?_
          refine k_lcmp hJ dX4_kindHere_57 ?_
          refine k_if_ne (tgt := 65) hJ dX4_kindHere_58 (by decide) (fun c58 => ?_) (fun c58 => ?_)
          · have c58 : ¬ hW tp tl wPf fr = true := fun q => c58 (lg_eq.mpr ((kWo_wPf htp).mpr q))
            refine k_lload_n hJ dX4_kindHere_65 1 rfl ?_
            refine k_ldc2 hJ dX4_kindHere_66 cw_X4_248 ?_
            refine k_lcmp hJ dX4_kindHere_69 ?_
            refine k_if_ne (tgt := 77) hJ dX4_kindHere_70 (by decide) (fun c70 => ?_) (fun c70 => ?_)
            · have c70 : ¬ hW tp tl wHo fr = true := fun q => c70 (lg_eq.mpr ((kWo_wHo htp).mpr q))
              refine k_iconst (v := (-1)) hJ dX4_kindHere_77 (by decide) ?_
              exact hR _ _ _ () dX4_kindHere_78 (by unfold hKd; rw [if_neg c10, if_neg c22, if_neg c34, if_neg c46, if_neg c58, if_neg c70]; rfl)
            · have c70 : hW tp tl wHo fr = true := (kWo_wHo htp).mp (lg_eq.mp c70)
              refine k_iconst (v := nI 5) hJ dX4_kindHere_73 (by decide) ?_
              refine k_goto (tgt := 78) hJ dX4_kindHere_74 (by decide) ?_
              exact hR _ _ _ () dX4_kindHere_78 (by unfold hKd; rw [if_neg c10, if_neg c22, if_neg c34, if_neg c46, if_neg c58, if_pos c70]; rfl)
          · have c58 : hW tp tl wPf fr = true := (kWo_wPf htp).mp (lg_eq.mp c58)
            refine k_iconst (v := nI 4) hJ dX4_kindHere_61 (by decide) ?_
            refine k_goto (tgt := 78) hJ dX4_kindHere_62 (by decide) ?_
            exact hR _ _ _ () dX4_kindHere_78 (by unfold hKd; rw [if_neg c10, if_neg c22, if_neg c34, if_neg c46, if_pos c58]; rfl)
        · have c46 : hW tp tl wDo fr = true := (kWo_wDo htp).mp (lg_eq.mp c46)
          refine k_iconst (v := nI 3) hJ dX4_kindHere_49 (by decide) ?_
          refine k_goto (tgt := 78) hJ dX4_kindHere_50 (by decide) ?_
          exact hR _ _ _ () dX4_kindHere_78 (by unfold hKd; rw [if_neg c10, if_neg c22, if_neg c34, if_pos c46]; rfl)
      · have c34 : hW tp tl wBa fr = true := (kWo_wBa htp).mp (lg_eq.mp c34)
        refine k_iconst (v := nI 2) hJ dX4_kindHere_37 (by decide) ?_
        refine k_goto (tgt := 78) hJ dX4_kindHere_38 (by decide) ?_
        exact hR _ _ _ () dX4_kindHere_78 (by unfold hKd; rw [if_neg c10, if_neg c22, if_pos c34]; rfl)
    · have c22 : hW tp tl wCo fr = true := (kWo_wCo htp).mp (lg_eq.mp c22)
      refine k_iconst (v := nI 1) hJ dX4_kindHere_25 (by decide) ?_
      refine k_goto (tgt := 78) hJ dX4_kindHere_26 (by decide) ?_
      exact hR _ _ _ () dX4_kindHere_78 (by unfold hKd; rw [if_neg c10, if_pos c22]; rfl)
  · have c10 : hW tp tl wPe fr = true := (kWo_wPe htp).mp (lg_eq.mp c10)
    refine k_iconst (v := nI 0) hJ dX4_kindHere_13 (by decide) ?_
    refine k_goto (tgt := 78) hJ dX4_kindHere_14 (by decide) ?_
    exact hR _ _ _ () dX4_kindHere_78 (by unfold hKd; rw [if_pos c10]; rfl)
