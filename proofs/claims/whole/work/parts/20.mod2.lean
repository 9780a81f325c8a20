/-- the reference's numbers beside its rows -/
def mE (kf : Bool) (fj : Int32) (mj tl fr to va : Nat) (iw : Bool) : Nat → Int32 := fun i => match i with
  | 0 => kb kf
  | 1 => fj
  | 2 => nI mj
  | 3 => nI tl
  | 4 => nI fr
  | 5 => nI to
  | 6 => nI va
  | _ => kb iw
/-- a finding's number -/
def kFi (i : Nat) : Int32 := -1000000001 - nI i
theorem kFi_ix : ∀ i, i < 7 → (-1000000001 : Int32) - kFi i = nI i := by decide +kernel
def kTe (ct : Nat → Int32) (i : Nat) : Nat → Int32 := upd ct i (ct i + nI 1)
section MX
variable {g : KG} {b : Nat → Nat} {e : Nat → Int32} {m m2 : Nat → Nat} {th ai ct ks ot : Nat → Int32} {tp sb sz : Nat → Nat} {nu : Nat → Nat → Int64} {mo : Nat → Int64} {D : va_G} {cl : List vw_C} {H : Heap}
theorem mw_ai {f : Nat → Int32} (h : ∀ i, i < 84 → f i = ai i) (hP : va_P D cl (modW g b e m th ai ct ks ot tp sb sz nu mo) H) : va_P D cl (modW g b e m th f ct ks ot tp sb sz nu mo) H := kP_arr (q := 3) rfl h hP
theorem mw_ot {f : Nat → Int32} (h : ∀ i, i < 84 → f i = ot i) (hP : va_P D cl (modW g b e m th ai ct ks ot tp sb sz nu mo) H) : va_P D cl (modW g b e m th ai ct ks f tp sb sz nu mo) H := kP_arr (q := 6) rfl h hP
theorem mw_ks {f : Nat → Int32} (h : ∀ i, i < 84 → f i = ks i) (hP : va_P D cl (modW g b e m th ai ct ks ot tp sb sz nu mo) H) : va_P D cl (modW g b e m th ai ct f ot tp sb sz nu mo) H := kP_arr (q := 5) rfl h hP
theorem mw_m (h : ∀ i, i < 84 → m2 i = m i) (hP : va_P D cl (modW g b e m th ai ct ks ot tp sb sz nu mo) H) : va_P D cl (modW g b e m2 th ai ct ks ot tp sb sz nu mo) H := kP_arr (q := 1) rfl (fun i hi => by rw [h i hi]) hP
end MX
theorem vRows6 (m : Nat → Nat) (M : Nat → Nat) (h : ∀ j, M j = if 4 ≤ j ∧ 4 ≤ (j - 4) % 10 ∧ (j - 4) / 10 * 6 + ((j - 4) % 10 - 4) < 6 * m 0 then vNew m ((j - 4) / 10) ((j - 4) % 10 - 4) else m j) : M = vRows m 6 := by
  funext j
  rw [h j]
  unfold vRows
  by_cases c : 4 ≤ j ∧ 4 ≤ (j - 4) % 10 ∧ (j - 4) / 10 * 6 + ((j - 4) % 10 - 4) < 6 * m 0
  · rw [if_pos c, if_pos (by omega)]
  · rw [if_neg c, if_neg (by omega)]
set_option maxHeartbeats 4000000 in
set_option maxRecDepth 100000 in
theorem ct_X4_finds (l : Launch) (g : KG) (b : Nat → Nat) (e : Nat → Int32) (m : Nat → Nat) (th ai ct ks ot : Nat → Int32) (tp sb sz : Nat → Nat) (nu : Nat → Nat → Int64) (mo : Nat → Int64) (i : Nat)  (hi : i < 7) : CI l yX4_finds cX4_finds 2 (some .int) (rmK 0) g [.ref (b 0), .int (kFi i)] (modW g b e m th ai ct ks ot tp sb sz nu mo) (kFi i) (modW g b e m th ai (kTe ct i) ks ot tp sb sz nu mo) := by
  refine k_bodyI (by decide) (Nat.le_of_ble_eq_true rfl) (fun _ _ _ => rfl) (fun J hJ hR => ?_)
  show J (modW g b e m th ai ct ks ot tp sb sz nu mo) [(0, .ref (b 0)), (1, .int (kFi i))] 0 []
  refine k_aload_n hJ dX4_finds_0 0 rfl ?_
  refine gf_X4_22 hJ 0 rfl rfl dX4_finds_1 ?_
  refine k_ldc hJ dX4_finds_4 cw_X4_44 ?_
  refine k_iload_n hJ dX4_finds_6 1 rfl ?_
  refine k_isub hJ dX4_finds_7 ?_
  refine k_eqs (st2 := [.int (nI i), .ref (b 5)]) (by rw [kFi_ix i hi]) ?_
  refine k_dup2 hJ dX4_finds_8 rfl rfl ?_
  refine k_iald hJ 4 rfl i (by omega) (by decide) rfl dX4_finds_9 ?_
  refine k_iconst (v := nI 1) hJ dX4_finds_10 (by decide) ?_
  refine k_iadd hJ dX4_finds_11 ?_
  refine k_iast hJ 4 rfl i (by omega) (by decide) rfl dX4_finds_12 ?_
  refine k_iload_n hJ dX4_finds_13 1 rfl ?_
  exact hR _ _ _ () dX4_finds_14 rfl
set_option maxHeartbeats 4000000 in
set_option maxRecDepth 100000 in
theorem ct_X4_laysAside (l : Launch) (g : KG) (b : Nat → Nat) (e : Nat → Int32) (m : Nat → Nat) (th ai ct ks ot : Nat → Int32) (tp sb sz : Nat → Nat) (nu : Nat → Nat → Int64) (mo : Nat → Int64)  : CV l yX4_laysAside cX4_laysAside 2 none (rmK 0) g [.ref (b 0)] (modW g b e m th ai ct ks ot tp sb sz nu mo) (modW g b e m th (fun i => nI (m i)) ct ks ot tp sb sz nu mo) := by
  refine k_bodyV (by decide) (Nat.le_of_ble_eq_true rfl) (fun J hJ hR => ?_)
  show J (modW g b e m th ai ct ks ot tp sb sz nu mo) [(0, .ref (b 0))] 0 []
  have L2 : ∀ (k : Nat) (i : Nat) (F : Nat → Int32), (i ≤ 84) → (85 ≤ i + k) → (∀ j, j < i → F j = nI (m j)) → J (modW g b e m th F ct ks ot tp sb sz nu mo) [(0, .ref (b 0)), (1, .int (nI i))] 2 [] := by
    intro k
    induction k with
    | zero => intro i F hi hf hF; exfalso; omega
    | succ k ih =>
      intro i F hi hf hF
      refine k_iload_n hJ dX4_laysAside_2 1 rfl ?_
      refine k_bipush (v := nI 84) hJ dX4_laysAside_3 (by decide) ?_
      refine n_icmp_ge (tgt := 26) hJ dX4_laysAside_5 (by decide) (by omega) (by omega) (fun c5 => ?_) (fun c5 => ?_)
      · exact k_ws (ws2 := modW g b e m th (fun i => nI (m i)) ct ks ot tp sb sz nu mo) hJ (fun H hP => mw_ai (fun j hj => (hF j (by omega)).symm) hP) rfl (hR _ _ () () dX4_laysAside_26 trivial)
      · refine k_aload_n hJ dX4_laysAside_8 0 rfl ?_
        refine gf_X4_19 hJ 0 rfl rfl dX4_laysAside_9 ?_
        refine k_iload_n hJ dX4_laysAside_12 1 rfl ?_
        refine k_aload_n hJ dX4_laysAside_13 0 rfl ?_
        refine gf_X4_7 hJ 0 rfl rfl dX4_laysAside_14 ?_
        refine k_iload_n hJ dX4_laysAside_17 1 rfl ?_
        refine k_iald hJ 1 rfl i (by omega) (by decide) rfl dX4_laysAside_18 ?_
        refine k_iast hJ 3 rfl i (by omega) (by decide) rfl dX4_laysAside_19 ?_
        refine n_iinc (b := 1) (lv1 := [(0, .ref (b 0)), (1, .int (nI (i + 1)))]) hJ dX4_laysAside_20 1 rfl (by decide) (by decide) [1, 0] rfl ?_
        refine k_goto (tgt := 2) hJ dX4_laysAside_23 (by decide) ?_
        refine ih (i + 1) _ (by omega) (by omega) (fun j hj => ?_)
        by_cases q : j = i
        · rw [q, pk_us]
        · rw [pk_un q]; exact hF j (by omega)
  refine k_iconst (v := nI 0) hJ dX4_laysAside_0 (by decide) ?_
  refine k_istore_n (lv1 := [(0, .ref (b 0)), (1, .int (nI 0))]) hJ dX4_laysAside_1 (by decide) [1, 0] rfl ?_
  exact L2 85 0 ai (by omega) (by omega) (fun j hj => absurd hj (by omega))
set_option maxHeartbeats 4000000 in
set_option maxRecDepth 100000 in
theorem ct_X4_saves (l : Launch) (g : KG) (b : Nat → Nat) (e : Nat → Int32) (m : Nat → Nat) (th ai ct ks ot : Nat → Int32) (tp sb sz : Nat → Nat) (nu : Nat → Nat → Int64) (mo : Nat → Int64)  : CV l yX4_saves cX4_saves 2 none (rmK 0) g [.ref (b 0)] (modW g b e m th ai ct ks ot tp sb sz nu mo) (modW g b e m th ai ct ks (fun i => nI (m i)) tp sb sz nu mo) := by
  refine k_bodyV (by decide) (Nat.le_of_ble_eq_true rfl) (fun J hJ hR => ?_)
  show J (modW g b e m th ai ct ks ot tp sb sz nu mo) [(0, .ref (b 0))] 0 []
  have L2 : ∀ (k : Nat) (i : Nat) (F : Nat → Int32), (i ≤ 84) → (85 ≤ i + k) → (∀ j, j < i → F j = nI (m j)) → J (modW g b e m th ai ct ks F tp sb sz nu mo) [(0, .ref (b 0)), (1, .int (nI i))] 2 [] := by
    intro k
    induction k with
    | zero => intro i F hi hf hF; exfalso; omega
    | succ k ih =>
      intro i F hi hf hF
      refine k_iload_n hJ dX4_saves_2 1 rfl ?_
      refine k_bipush (v := nI 84) hJ dX4_saves_3 (by decide) ?_
      refine n_icmp_ge (tgt := 26) hJ dX4_saves_5 (by decide) (by omega) (by omega) (fun c5 => ?_) (fun c5 => ?_)
      · exact k_ws (ws2 := modW g b e m th ai ct ks (fun i => nI (m i)) tp sb sz nu mo) hJ (fun H hP => mw_ot (fun j hj => (hF j (by omega)).symm) hP) rfl (hR _ _ () () dX4_saves_26 trivial)
      · refine k_aload_n hJ dX4_saves_8 0 rfl ?_
        refine gf_X4_16 hJ 0 rfl rfl dX4_saves_9 ?_
        refine k_iload_n hJ dX4_saves_12 1 rfl ?_
        refine k_aload_n hJ dX4_saves_13 0 rfl ?_
        refine gf_X4_7 hJ 0 rfl rfl dX4_saves_14 ?_
        refine k_iload_n hJ dX4_saves_17 1 rfl ?_
        refine k_iald hJ 1 rfl i (by omega) (by decide) rfl dX4_saves_18 ?_
        refine k_iast hJ 6 rfl i (by omega) (by decide) rfl dX4_saves_19 ?_
        refine n_iinc (b := 1) (lv1 := [(0, .ref (b 0)), (1, .int (nI (i + 1)))]) hJ dX4_saves_20 1 rfl (by decide) (by decide) [1, 0] rfl ?_
        refine k_goto (tgt := 2) hJ dX4_saves_23 (by decide) ?_
        refine ih (i + 1) _ (by omega) (by omega) (fun j hj => ?_)
        by_cases q : j = i
        · rw [q, pk_us]
        · rw [pk_un q]; exact hF j (by omega)
  refine k_iconst (v := nI 0) hJ dX4_saves_0 (by decide) ?_
  refine k_istore_n (lv1 := [(0, .ref (b 0)), (1, .int (nI 0))]) hJ dX4_saves_1 (by decide) [1, 0] rfl ?_
  exact L2 85 0 ot (by omega) (by omega) (fun j hj => absurd hj (by omega))
set_option maxHeartbeats 4000000 in
set_option maxRecDepth 100000 in
theorem ct_X4_takesBack (l : Launch) (g : KG) (b : Nat → Nat) (e : Nat → Int32) (m : Nat → Nat) (th ai ct ks ot : Nat → Int32) (tp sb sz : Nat → Nat) (nu : Nat → Nat → Int64) (mo : Nat → Int64) (q : Nat → Nat) (v : Int32)  : CI l yX4_takesBack cX4_takesBack 3 (some .int) (rmK 0) g [.ref (b 0), .int v] (modW g b e m th (fun i => nI (q i)) ct ks ot tp sb sz nu mo) v (modW g b e q th (fun i => nI (q i)) ct ks ot tp sb sz nu mo) := by
  refine k_bodyI (by decide) (Nat.le_of_ble_eq_true rfl) (fun _ _ _ => rfl) (fun J hJ hR => ?_)
  show J (modW g b e m th (fun i => nI (q i)) ct ks ot tp sb sz nu mo) [(0, .ref (b 0)), (1, .int v)] 0 []
  have L2 : ∀ (k : Nat) (i : Nat) (M : Nat → Nat), (i ≤ 84) → (85 ≤ i + k) → (∀ j, j < i → M j = q j) → J (modW g b e M th (fun i => nI (q i)) ct ks ot tp sb sz nu mo) [(0, .ref (b 0)), (1, .int v), (2, .int (nI i))] 2 [] := by
    intro k
    induction k with
    | zero => intro i M hi hf hM; exfalso; omega
    | succ k ih =>
      intro i M hi hf hM
      refine k_iload_n hJ dX4_takesBack_2 2 rfl ?_
      refine k_bipush (v := nI 84) hJ dX4_takesBack_3 (by decide) ?_
      refine n_icmp_ge (tgt := 26) hJ dX4_takesBack_5 (by decide) (by omega) (by omega) (fun c5 => ?_) (fun c5 => ?_)
      · refine k_iload_n hJ dX4_takesBack_26 1 rfl ?_
        exact k_ws (ws2 := modW g b e q th (fun i => nI (q i)) ct ks ot tp sb sz nu mo) hJ (fun H hP => mw_m (fun j hj => (hM j (by omega)).symm) hP) rfl (hR _ _ _ () dX4_takesBack_27 rfl)
      · refine k_aload_n hJ dX4_takesBack_8 0 rfl ?_
        refine gf_X4_7 hJ 0 rfl rfl dX4_takesBack_9 ?_
        refine k_iload_n hJ dX4_takesBack_12 2 rfl ?_
        refine k_aload_n hJ dX4_takesBack_13 0 rfl ?_
        refine gf_X4_19 hJ 0 rfl rfl dX4_takesBack_14 ?_
        refine k_iload_n hJ dX4_takesBack_17 2 rfl ?_
        refine k_iald hJ 3 rfl i (by omega) (by decide) rfl dX4_takesBack_18 ?_
        refine k_iast hJ 1 rfl i (by omega) (by decide) (mw_s (v := (q i))) dX4_takesBack_19 ?_
        refine n_iinc (b := 1) (lv1 := [(0, .ref (b 0)), (1, .int v), (2, .int (nI (i + 1)))]) hJ dX4_takesBack_20 2 rfl (by decide) (by decide) [1, 2, 0] rfl ?_
        refine k_goto (tgt := 2) hJ dX4_takesBack_23 (by decide) ?_
        refine ih (i + 1) _ (by omega) (by omega) (fun j hj => ?_)
        by_cases c : j = i
        · rw [vUp_eq c, c]
        · rw [vUp_ne c]; exact hM j (by omega)
  refine k_iconst (v := nI 0) hJ dX4_takesBack_0 (by decide) ?_
  refine k_istore_n (lv1 := [(0, .ref (b 0)), (1, .int v), (2, .int (nI 0))]) hJ dX4_takesBack_1 (by decide) [1, 2, 0] rfl ?_
  exact L2 85 0 m (by omega) (by omega) (fun j hj => absurd hj (by omega))
set_option maxHeartbeats 4000000 in
set_option maxRecDepth 100000 in
theorem ct_X4_putsBack (l : Launch) (g : KG) (b : Nat → Nat) (e : Nat → Int32) (m : Nat → Nat) (th ai ct ks ot : Nat → Int32) (tp sb sz : Nat → Nat) (nu : Nat → Nat → Int64) (mo : Nat → Int64) (q : Nat → Nat)  : CV l yX4_putsBack cX4_putsBack 2 none (rmK 0) g [.ref (b 0)] (modW g b e m th ai ct ks (fun i => nI (q i)) tp sb sz nu mo) (modW g b e q th ai ct ks (fun i => nI (q i)) tp sb sz nu mo) := by
  refine k_bodyV (by decide) (Nat.le_of_ble_eq_true rfl) (fun J hJ hR => ?_)
  show J (modW g b e m th ai ct ks (fun i => nI (q i)) tp sb sz nu mo) [(0, .ref (b 0))] 0 []
  have L2 : ∀ (k : Nat) (i : Nat) (M : Nat → Nat), (i ≤ 84) → (85 ≤ i + k) → (∀ j, j < i → M j = q j) → J (modW g b e M th ai ct ks (fun i => nI (q i)) tp sb sz nu mo) [(0, .ref (b 0)), (1, .int (nI i))] 2 [] := by
    intro k
    induction k with
    | zero => intro i M hi hf hM; exfalso; omega
    | succ k ih =>
      intro i M hi hf hM
      refine k_iload_n hJ dX4_putsBack_2 1 rfl ?_
      refine k_bipush (v := nI 84) hJ dX4_putsBack_3 (by decide) ?_
      refine n_icmp_ge (tgt := 26) hJ dX4_putsBack_5 (by decide) (by omega) (by omega) (fun c5 => ?_) (fun c5 => ?_)
      · exact k_ws (ws2 := modW g b e q th ai ct ks (fun i => nI (q i)) tp sb sz nu mo) hJ (fun H hP => mw_m (fun j hj => (hM j (by omega)).symm) hP) rfl (hR _ _ () () dX4_putsBack_26 trivial)
      · refine k_aload_n hJ dX4_putsBack_8 0 rfl ?_
        refine gf_X4_7 hJ 0 rfl rfl dX4_putsBack_9 ?_
        refine k_iload_n hJ dX4_putsBack_12 1 rfl ?_
        refine k_aload_n hJ dX4_putsBack_13 0 rfl ?_
        refine gf_X4_16 hJ 0 rfl rfl dX4_putsBack_14 ?_
        refine k_iload_n hJ dX4_putsBack_17 1 rfl ?_
        refine k_iald hJ 6 rfl i (by omega) (by decide) rfl dX4_putsBack_18 ?_
        refine k_iast hJ 1 rfl i (by omega) (by decide) (mw_s (v := (q i))) dX4_putsBack_19 ?_
        refine n_iinc (b := 1) (lv1 := [(0, .ref (b 0)), (1, .int (nI (i + 1)))]) hJ dX4_putsBack_20 1 rfl (by decide) (by decide) [1, 0] rfl ?_
        refine k_goto (tgt := 2) hJ dX4_putsBack_23 (by decide) ?_
        refine ih (i + 1) _ (by omega) (by omega) (fun j hj => ?_)
        by_cases c : j = i
        · rw [vUp_eq c, c]
        · rw [vUp_ne c]; exact hM j (by omega)
  refine k_iconst (v := nI 0) hJ dX4_putsBack_0 (by decide) ?_
  refine k_istore_n (lv1 := [(0, .ref (b 0)), (1, .int (nI 0))]) hJ dX4_putsBack_1 (by decide) [1, 0] rfl ?_
  exact L2 85 0 m (by omega) (by omega) (fun j hj => absurd hj (by omega))
set_option maxHeartbeats 4000000 in
set_option maxRecDepth 100000 in
theorem ct_X4_hour (l : Launch) (g : KG) (b : Nat → Nat) (e : Nat → Int32) (m : Nat → Nat) (th ai ct ks ot : Nat → Int32) (tp sb sz : Nat → Nat) (nu : Nat → Nat → Int64) (mo : Nat → Int64)  {B : Nat} (hB : B < 2 ^ 30) (hm : vOk B m) : CT l yX4_hour cX4_hour 4 none (rmK 3) g [.ref (b 0)] (modW g b e m th ai ct ks ot tp sb sz nu mo) (S := Nat → Int32) oV (fun _ _ => True) (fun u => modW g b e (vHour m) u ai ct ks ot tp sb sz nu mo) := by
  refine k_bodyV (by decide) (Nat.le_of_ble_eq_true rfl) (fun J hJ hR => ?_)
  have h0 := hm.1
  show J (modW g b e m th ai ct ks ot tp sb sz nu mo) [(0, .ref (b 0))] 0 []
  have L67 : ∀ (T : Nat → Int32), (∀ j, j < 6 * m 0 → T j = nI (vNew m (j / 6) (j % 6))) → ∀ (k i : Nat) (M : Nat → Nat), i ≤ 6 * m 0 → 6 * m 0 + 1 ≤ i + k → (∀ j, M j = if 4 ≤ j ∧ 4 ≤ (j - 4) % 10 ∧ (j - 4) / 10 * 6 + ((j - 4) % 10 - 4) < i then vNew m ((j - 4) / 10) ((j - 4) % 10 - 4) else m j) → J (modW g b e M T ai ct ks ot tp sb sz nu mo) [(0, .ref (b 0)), (1, .int (nI i))] 67 [] := by
    intro T hT k
    induction k with
    | zero => intro i M hi hf hM; exfalso; omega
    | succ k ih =>
      intro i M hi hf hM
      have h00 : M 0 = m 0 := by rw [hM, if_neg (by omega)]
      refine k_iload_n hJ dX4_hour_67 1 rfl ?_
      refine k_bipush (v := nI 6) hJ dX4_hour_68 (by decide) ?_
      refine k_aload_n hJ dX4_hour_70 0 rfl ?_
      refine gf_X4_7 hJ 0 rfl rfl dX4_hour_71 ?_
      refine k_iconst (v := nI 0) hJ dX4_hour_74 (by decide) ?_
      refine k_iald hJ 1 rfl 0 (by omega) (by decide) rfl dX4_hour_75 ?_
      refine n_imul hJ dX4_hour_76 ?_
      refine n_icmp_ge (tgt := 110) hJ dX4_hour_77 (by decide) (by omega) (by omega) (fun c77 => ?_) (fun c77 => ?_)
      · refine k_aload_n hJ dX4_hour_110 0 rfl ?_
        refine gf_X4_7 hJ 0 rfl rfl dX4_hour_111 ?_
        refine k_iconst (v := nI 1) hJ dX4_hour_114 (by decide) ?_
        refine k_dup2 hJ dX4_hour_115 rfl rfl ?_
        refine k_iald hJ 1 rfl 1 (by omega) (by decide) rfl dX4_hour_116 ?_
        refine k_iconst (v := nI 1) hJ dX4_hour_117 (by decide) ?_
        refine n_iadd hJ dX4_hour_118 ?_
        refine k_iast hJ 1 rfl 1 (by omega) (by decide) (mw_s (v := ((M 1) + 1))) dX4_hour_119 ?_
        exact k_eqw (ws2 := modW g b e (vHour m) T ai ct ks ot tp sb sz nu mo) (by unfold vHour; rw [vRows6 m M (fun j => by rw [hM j, show i = 6 * m 0 by omega]), show vRows m 6 1 = m 1 from if_neg (by omega)]) (hR _ _ () T dX4_hour_120 trivial)
      · refine k_aload_n hJ dX4_hour_80 0 rfl ?_
        refine gf_X4_7 hJ 0 rfl rfl dX4_hour_81 ?_
        refine k_iload_n hJ dX4_hour_84 1 rfl ?_
        refine k_bipush (v := nI 6) hJ dX4_hour_85 (by decide) ?_
        refine n_idiv hJ dX4_hour_87 (by omega) (by omega) (by omega) ?_
        refine k_iconst (v := nI 4) hJ dX4_hour_88 (by decide) ?_
        refine k_iload_n hJ dX4_hour_89 1 rfl ?_
        refine k_bipush (v := nI 6) hJ dX4_hour_90 (by decide) ?_
        refine n_irem hJ dX4_hour_92 (by omega) (by omega) (by omega) ?_
        refine n_iadd hJ dX4_hour_93 ?_
        refine c_SI (As := [.int (nI (i / 6)), .int (nI (4 + (i % 6)))]) (st := [.ref (b 1)]) hJ (ct_X4_spot l g (i / 6) (4 + (i % 6)) ) Fr.none ms_X4_spot ml_X4_57 (kRm_ok (by decide) (by decide)) rfl rfl (Nat.le_of_ble_eq_true rfl) dX4_hour_94 ?_
        refine k_aload_n hJ dX4_hour_97 0 rfl ?_
        refine gf_X4_25 hJ 0 rfl rfl dX4_hour_98 ?_
        refine k_iload_n hJ dX4_hour_101 1 rfl ?_
        refine k_iald hJ 2 rfl i (by omega) (by decide) rfl dX4_hour_102 ?_
        refine k_eqs (st2 := [.int (nI (vNew m (i / 6) (i % 6))), .int (nI (4 + 10 * (i / 6) + (4 + (i % 6)))), .ref (b 1)]) (by rw [hT i (by omega)]) ?_
        refine k_iast hJ 1 rfl (4 + 10 * (i / 6) + (4 + (i % 6))) (by omega) (by decide) (mw_s (v := (vNew m (i / 6) (i % 6)))) dX4_hour_103 ?_
        refine n_iinc (b := 1) (lv1 := [(0, .ref (b 0)), (1, .int (nI (i + 1)))]) hJ dX4_hour_104 1 rfl (by decide) (by decide) [1, 0] rfl ?_
        refine k_goto (tgt := 67) hJ dX4_hour_107 (by decide) ?_
        refine ih (i + 1) _ (by omega) (by omega) (fun j => ?_)
        by_cases q : j = 4 + 10 * (i / 6) + (4 + i % 6)
        · rw [vUp_eq q, if_pos (by omega), show (j - 4) / 10 = i / 6 by omega, show (j - 4) % 10 - 4 = i % 6 by omega]
        · rw [vUp_ne q, hM j]; by_cases c : 4 ≤ j ∧ 4 ≤ (j - 4) % 10 ∧ (j - 4) / 10 * 6 + ((j - 4) % 10 - 4) < i
          · rw [if_pos c, if_pos (by omega)]
          · rw [if_neg c, if_neg (by omega)]
  have L2 : ∀ (k : Nat) (i : Nat) (T : Nat → Int32), (i ≤ 6 * m 0) → (6 * m 0 + 1 ≤ i + k) → (∀ j, j < i → T j = nI (vNew m (j / 6) (j % 6))) → J (modW g b e m T ai ct ks ot tp sb sz nu mo) [(0, .ref (b 0)), (1, .int (nI i))] 2 [] := by
    intro k
    induction k with
    | zero => intro i T hi hf hT; exfalso; omega
    | succ k ih =>
      intro i T hi hf hT
      refine k_iload_n hJ dX4_hour_2 1 rfl ?_
      refine k_bipush (v := nI 6) hJ dX4_hour_3 (by decide) ?_
      refine k_aload_n hJ dX4_hour_5 0 rfl ?_
      refine gf_X4_7 hJ 0 rfl rfl dX4_hour_6 ?_
      refine k_iconst (v := nI 0) hJ dX4_hour_9 (by decide) ?_
      refine k_iald hJ 1 rfl 0 (by omega) (by decide) rfl dX4_hour_10 ?_
      refine n_imul hJ dX4_hour_11 ?_
      refine n_icmp_ge (tgt := 65) hJ dX4_hour_12 (by decide) (by omega) (by omega) (fun c12 => ?_) (fun c12 => ?_)
      · refine k_iconst (v := nI 0) hJ dX4_hour_65 (by decide) ?_
        refine k_istore_n (lv1 := [(0, .ref (b 0)), (1, .int (nI 0))]) hJ dX4_hour_66 (by decide) [1, 0] rfl ?_
        exact L67 T (fun j hj => hT j (by omega)) (6 * m 0 + 1) 0 m (by omega) (by omega) (fun j => by rw [if_neg (by omega)])
      · have hi6 : i / 6 < m 0 := by omega
        have hF := vFade_le (d := i % 6) (v := m (4 + 10 * (i / 6) + (4 + i % 6)))
        have hs : m (4 + 10 * (i / 6) + (4 + i % 6)) ≤ 99 := hm.sc (show i / 6 < 8 by omega) (show i % 6 < 6 by omega)
        have hX := vMax_le hm (p := i / 6) (show i % 6 < 6 by omega) hm.1
        refine k_aload_n hJ dX4_hour_15 0 rfl ?_
        refine k_iload_n hJ dX4_hour_16 1 rfl ?_
        refine k_bipush (v := nI 6) hJ dX4_hour_17 (by decide) ?_
        refine n_idiv hJ dX4_hour_19 (by omega) (by omega) (by omega) ?_
        refine k_iload_n hJ dX4_hour_20 1 rfl ?_
        refine k_bipush (v := nI 6) hJ dX4_hour_21 (by decide) ?_
        refine n_irem hJ dX4_hour_23 (by omega) (by omega) (by omega) ?_
        refine c_VI (As := [.int (nI (i / 6)), .int (nI (i % 6))]) (st := []) hJ (ct_X4_leftOf l g b e m (i / 6) (i % 6) hB hm (by omega) (by omega)) (frS rfl) mv_X4_leftOf ml_X4_143 0 rfl rfl rfl (kRm_ok (by decide) (by decide)) rfl rfl (Nat.le_of_ble_eq_true rfl) dX4_hour_24 ?_
        refine k_istore_n (lv1 := [(0, .ref (b 0)), (1, .int (nI i)), (2, .int (nI (vFade (i % 6) (m (4 + 10 * (i / 6) + (4 + (i % 6)))))))]) hJ dX4_hour_27 (by decide) [1, 2, 0] rfl ?_
        refine k_aload_n hJ dX4_hour_28 0 rfl ?_
        refine k_iload_n hJ dX4_hour_29 1 rfl ?_
        refine k_bipush (v := nI 6) hJ dX4_hour_30 (by decide) ?_
        refine n_idiv hJ dX4_hour_32 (by omega) (by omega) (by omega) ?_
        refine k_iload_n hJ dX4_hour_33 1 rfl ?_
        refine k_bipush (v := nI 6) hJ dX4_hour_34 (by decide) ?_
        refine n_irem hJ dX4_hour_36 (by omega) (by omega) (by omega) ?_
        refine c_VI (As := [.int (nI (i / 6)), .int (nI (i % 6))]) (st := []) hJ (ct_X4_greatestBy l g b e m (i / 6) (i % 6) hB hm (by omega) (by omega)) (frS rfl) mv_X4_greatestBy ml_X4_146 0 rfl rfl rfl (kRm_ok (by decide) (by decide)) rfl rfl (Nat.le_of_ble_eq_true rfl) dX4_hour_37 ?_
        refine k_iconst (v := nI 4) hJ dX4_hour_40 (by decide) ?_
        refine n_idiv hJ dX4_hour_41 (by omega) (by omega) (by omega) ?_
        refine k_istore_n (lv1 := [(0, .ref (b 0)), (1, .int (nI i)), (2, .int (nI (vFade (i % 6) (m (4 + 10 * (i / 6) + (4 + (i % 6))))))), (3, .int (nI ((vMax m (i / 6) (i % 6) (m 0)) / 4)))]) hJ dX4_hour_42 (by decide) [1, 2, 3, 0] rfl ?_
        refine k_aload_n hJ dX4_hour_43 0 rfl ?_
        refine gf_X4_25 hJ 0 rfl rfl dX4_hour_44 ?_
        refine k_iload_n hJ dX4_hour_47 1 rfl ?_
        refine k_iload_n hJ dX4_hour_48 3 rfl ?_
        refine k_iload_n hJ dX4_hour_49 2 rfl ?_
        refine n_icmp_le (tgt := 57) hJ dX4_hour_50 (by decide) (by omega) (by omega) (fun c50 => ?_) (fun c50 => ?_)
        · refine k_iload_n hJ dX4_hour_57 2 rfl ?_
          refine k_iast hJ 2 rfl i (by omega) (by decide) rfl dX4_hour_58 ?_
          refine n_iinc (b := 1) (lv1 := [(0, .ref (b 0)), (1, .int (nI (i + 1))), (2, .int (nI (vFade (i % 6) (m (4 + 10 * (i / 6) + (4 + (i % 6))))))), (3, .int (nI ((vMax m (i / 6) (i % 6) (m 0)) / 4)))]) hJ dX4_hour_59 1 rfl (by decide) (by decide) [1, 0, 2, 3] rfl ?_
          refine k_goto (tgt := 2) hJ dX4_hour_62 (by decide) ?_
          refine k_lv (lv1 := [(0, .ref (b 0)), (1, .int (nI (i + 1)))]) hJ [0, 1] rfl ?_
          refine ih (i + 1) _ (by omega) (by omega) (fun j hj => ?_)
          by_cases q : j = i
          · rw [q, pk_us]; refine congrArg nI ?_; unfold vNew; rw [Nat.max_eq_left c50]
          · rw [pk_un q]; exact hT j (by omega)
        · refine k_iload_n hJ dX4_hour_53 3 rfl ?_
          refine k_goto (tgt := 58) hJ dX4_hour_54 (by decide) ?_
          refine k_iast hJ 2 rfl i (by omega) (by decide) rfl dX4_hour_58 ?_
          refine n_iinc (b := 1) (lv1 := [(0, .ref (b 0)), (1, .int (nI (i + 1))), (2, .int (nI (vFade (i % 6) (m (4 + 10 * (i / 6) + (4 + (i % 6))))))), (3, .int (nI ((vMax m (i / 6) (i % 6) (m 0)) / 4)))]) hJ dX4_hour_59 1 rfl (by decide) (by decide) [1, 0, 2, 3] rfl ?_
          refine k_goto (tgt := 2) hJ dX4_hour_62 (by decide) ?_
          refine k_lv (lv1 := [(0, .ref (b 0)), (1, .int (nI (i + 1)))]) hJ [0, 1] rfl ?_
          refine ih (i + 1) _ (by omega) (by omega) (fun j hj => ?_)
          by_cases q : j = i
          · rw [q, pk_us]; refine congrArg nI ?_; unfold vNew; rw [Nat.max_eq_right (Nat.le_of_lt c50)]
          · rw [pk_un q]; exact hT j (by omega)
  refine k_iconst (v := nI 0) hJ dX4_hour_0 (by decide) ?_
  refine k_istore_n (lv1 := [(0, .ref (b 0)), (1, .int (nI 0))]) hJ dX4_hour_1 (by decide) [1, 0] rfl ?_
  exact L2 (6 * m 0 + 1) 0 th (by omega) (by omega) (fun j hj => absurd hj (by omega))
set_option maxHeartbeats 4000000 in
set_option maxRecDepth 100000 in
theorem ct_X4_goesOn (l : Launch) (g : KG) (b : Nat → Nat) (e : Nat → Int32) (m : Nat → Nat) (th ai ct ks ot : Nat → Int32) (tp sb sz : Nat → Nat) (nu : Nat → Nat → Int64) (mo : Nat → Int64) (n : Nat)  {B : Nat} (hB : B + n < 2 ^ 30) (hm : vOk B m) : CT l yX4_goesOn cX4_goesOn 3 none (rmK 4) g [.ref (b 0), .int (nI n)] (modW g b e m th ai ct ks ot tp sb sz nu mo) (S := Nat → Int32) oV (fun _ _ => True) (fun u => modW g b e (vIter vHour n m) u ai ct ks ot tp sb sz nu mo) := by
  refine k_bodyV (by decide) (Nat.le_of_ble_eq_true rfl) (fun J hJ hR => ?_)
  show J (modW g b e m th ai ct ks ot tp sb sz nu mo) [(0, .ref (b 0)), (1, .int (nI n))] 0 []
  have L2 : ∀ (k : Nat) (i : Nat) (T : Nat → Int32), (i ≤ n) → (n + 1 ≤ i + k) → J (modW g b e (vIter vHour i m) T ai ct ks ot tp sb sz nu mo) [(0, .ref (b 0)), (1, .int (nI n)), (2, .int (nI i))] 2 [] := by
    intro k
    induction k with
    | zero => intro i T hi hf; exfalso; omega
    | succ k ih =>
      intro i T hi hf
      refine k_iload_n hJ dX4_goesOn_2 2 rfl ?_
      refine k_iload_n hJ dX4_goesOn_3 1 rfl ?_
      refine n_icmp_ge (tgt := 17) hJ dX4_goesOn_4 (by decide) (by omega) (by omega) (fun c4 => ?_) (fun c4 => ?_)
      · exact k_eqw (ws2 := modW g b e (vIter vHour n m) T ai ct ks ot tp sb sz nu mo) (by rw [show i = n by omega]) (hR _ _ () T dX4_goesOn_17 trivial)
      · refine k_aload_n hJ dX4_goesOn_7 0 rfl ?_
        refine k_callV (As := []) (st := []) hJ (ct_X4_hour l g b e (vIter vHour i m) T ai ct ks ot tp sb sz nu mo (show B + i < 2 ^ 30 by omega) (vOk_iter hm i)) (fun _ => Fr.all rfl) mv_X4_hour ml_X4_149 0 rfl rfl rfl (kRm_ok (by decide) (by decide)) rfl rfl (Nat.le_of_ble_eq_true rfl) dX4_goesOn_8 (fun _ u _ => ?_)
        refine n_iinc (b := 1) (lv1 := [(0, .ref (b 0)), (1, .int (nI n)), (2, .int (nI (i + 1)))]) hJ dX4_goesOn_11 2 rfl (by decide) (by decide) [1, 2, 0] rfl ?_
        refine k_goto (tgt := 2) hJ dX4_goesOn_14 (by decide) ?_
        exact ih (i + 1) u (by omega) (by omega)
  refine k_iconst (v := nI 0) hJ dX4_goesOn_0 (by decide) ?_
  refine k_istore_n (lv1 := [(0, .ref (b 0)), (1, .int (nI n)), (2, .int (nI 0))]) hJ dX4_goesOn_1 (by decide) [1, 2, 0] rfl ?_
  exact L2 (n + 1) 0 th (by omega) (by omega)
set_option maxHeartbeats 4000000 in
set_option maxRecDepth 100000 in
theorem ct_X4_washes (l : Launch) (g : KG) (b : Nat → Nat) (e : Nat → Int32) (m : Nat → Nat) (p : Nat)  {B : Nat} (hB : B < 2 ^ 30) (hm : vOk B m) (hp : p < 8) : CI l yX4_washes cX4_washes 5 (some .int) (rmK 2) g [.ref (b 0), .int (nI p)] (modS g b e m) (nI (vWashed m p)) (modS g b e (vWash m p 6)) := by
  refine k_bodyI (by decide) (Nat.le_of_ble_eq_true rfl) (fun _ _ _ => rfl) (fun J hJ hR => ?_)
  show J (modS g b e m) [(0, .ref (b 0)), (1, .int (nI p))] 0 []
  have L4 : ∀ (k : Nat) (d : Nat) (S : Nat), (d ≤ 6) → (7 ≤ d + k) → (S = vSum (fun d => m (4 + 10 * p + (4 + d)) - m (4 + 10 * p + (4 + d)) / 3) d) → J (modS g b e (vWash m p d)) [(0, .ref (b 0)), (1, .int (nI p)), (2, .int (nI S)), (3, .int (nI d))] 4 [] := by
    intro k
    induction k with
    | zero => intro d S hd hf hS; exfalso; omega
    | succ k ih =>
      intro d S hd hf hS
      refine k_iload_n hJ dX4_washes_4 3 rfl ?_
      refine k_bipush (v := nI 6) hJ dX4_washes_5 (by decide) ?_
      refine n_icmp_ge (tgt := 52) hJ dX4_washes_7 (by decide) (by omega) (by omega) (fun c7 => ?_) (fun c7 => ?_)
      · refine k_iload_n hJ dX4_washes_52 2 rfl ?_
        exact k_eqw (ws2 := modS g b e (vWash m p 6)) (by rw [show d = 6 by omega]) (hR _ _ _ () dX4_washes_53 (by rw [hS, show d = 6 by omega]; rfl))
      · have hev : (vWash m p d) (4 + 10 * p + (4 + d)) = m (4 + 10 * p + (4 + d)) := if_neg (by omega)
        have hb : (vWash m p d) (4 + 10 * p + (4 + d)) ≤ 99 := by rw [hev]; exact hm.sc hp (by omega)
        refine k_aload_n hJ dX4_washes_10 0 rfl ?_
        refine k_iload_n hJ dX4_washes_11 1 rfl ?_
        refine k_iconst (v := nI 4) hJ dX4_washes_12 (by decide) ?_
        refine k_iload_n hJ dX4_washes_13 3 rfl ?_
        refine n_iadd hJ dX4_washes_14 ?_
        refine c_VI (As := [.int (nI p), .int (nI (4 + d))]) (st := []) hJ (ct_X4_its l g b e (vWash m p d) p (4 + d) (by omega) (by omega)) (Fr.all rfl) mv_X4_its ml_X4_82 0 rfl rfl rfl (kRm_ok (by decide) (by decide)) rfl rfl (Nat.le_of_ble_eq_true rfl) dX4_washes_15 ?_
        refine k_istore (lv1 := [(0, .ref (b 0)), (1, .int (nI p)), (2, .int (nI S)), (3, .int (nI d)), (4, .int (nI ((vWash m p d) (4 + 10 * p + (4 + d)))))]) hJ dX4_washes_18 (by decide) [1, 2, 3, 4, 0] rfl ?_
        refine k_aload_n hJ dX4_washes_20 0 rfl ?_
        refine gf_X4_7 hJ 0 rfl rfl dX4_washes_21 ?_
        refine k_iload_n hJ dX4_washes_24 1 rfl ?_
        refine k_iconst (v := nI 4) hJ dX4_washes_25 (by decide) ?_
        refine k_iload_n hJ dX4_washes_26 3 rfl ?_
        refine n_iadd hJ dX4_washes_27 ?_
        refine c_SI (As := [.int (nI p), .int (nI (4 + d))]) (st := [.ref (b 1)]) hJ (ct_X4_spot l g p (4 + d) ) Fr.none ms_X4_spot ml_X4_57 (kRm_ok (by decide) (by decide)) rfl rfl (Nat.le_of_ble_eq_true rfl) dX4_washes_28 ?_
        refine k_iload hJ dX4_washes_31 4 rfl ?_
        refine k_iconst (v := nI 3) hJ dX4_washes_33 (by decide) ?_
        refine n_idiv hJ dX4_washes_34 (by omega) (by omega) (by omega) ?_
        refine k_iast hJ 1 rfl (4 + 10 * p + (4 + d)) (by omega) (by decide) (ms_set g b e (vWash m p d) (4 + 10 * p + (4 + d)) (((vWash m p d) (4 + 10 * p + (4 + d))) / 3)) dX4_washes_35 ?_
        refine k_iload_n hJ dX4_washes_36 2 rfl ?_
        refine k_iload hJ dX4_washes_37 4 rfl ?_
        refine k_iload hJ dX4_washes_39 4 rfl ?_
        refine k_iconst (v := nI 3) hJ dX4_washes_41 (by decide) ?_
        refine n_idiv hJ dX4_washes_42 (by omega) (by omega) (by omega) ?_
        refine n_isub hJ dX4_washes_43 (by omega) ?_
        refine n_iadd hJ dX4_washes_44 ?_
        refine k_istore_n (lv1 := [(0, .ref (b 0)), (1, .int (nI p)), (2, .int (nI (S + (((vWash m p d) (4 + 10 * p + (4 + d))) - (((vWash m p d) (4 + 10 * p + (4 + d))) / 3))))), (3, .int (nI d)), (4, .int (nI ((vWash m p d) (4 + 10 * p + (4 + d)))))]) hJ dX4_washes_45 (by decide) [1, 2, 0, 3, 4] rfl ?_
        refine n_iinc (b := 1) (lv1 := [(0, .ref (b 0)), (1, .int (nI p)), (2, .int (nI (S + (((vWash m p d) (4 + 10 * p + (4 + d))) - (((vWash m p d) (4 + 10 * p + (4 + d))) / 3))))), (3, .int (nI (d + 1))), (4, .int (nI ((vWash m p d) (4 + 10 * p + (4 + d)))))]) hJ dX4_washes_46 3 rfl (by decide) (by decide) [1, 2, 3, 0, 4] rfl ?_
        refine k_goto (tgt := 4) hJ dX4_washes_49 (by decide) ?_
        refine k_eqw (ws2 := modS g b e (vWash m p (d + 1))) (by rw [hev, ← vWash_step]) ?_
        refine k_lv (lv1 := [(0, .ref (b 0)), (1, .int (nI p)), (2, .int (nI (S + (((vWash m p d) (4 + 10 * p + (4 + d))) - (((vWash m p d) (4 + 10 * p + (4 + d))) / 3))))), (3, .int (nI (d + 1)))]) hJ [0, 1, 2, 3] rfl ?_
        exact ih (d + 1) _ (by omega) (by omega) (by rw [vSum, hS, hev])
  refine k_iconst (v := nI 0) hJ dX4_washes_0 (by decide) ?_
  refine k_istore_n (lv1 := [(0, .ref (b 0)), (1, .int (nI p)), (2, .int (nI 0))]) hJ dX4_washes_1 (by decide) [1, 2, 0] rfl ?_
  refine k_iconst (v := nI 0) hJ dX4_washes_2 (by decide) ?_
  refine k_istore_n (lv1 := [(0, .ref (b 0)), (1, .int (nI p)), (2, .int (nI 0)), (3, .int (nI 0))]) hJ dX4_washes_3 (by decide) [1, 2, 3, 0] rfl ?_
  exact k_eqw (ws2 := modS g b e (vWash m p 0)) (by rw [hs_upd84]) (L4 7 0 0 (by omega) (by omega) rfl)
set_option maxHeartbeats 4000000 in
set_option maxRecDepth 100000 in
theorem ct_X4_adds (l : Launch) (g : KG) (b : Nat → Nat) (e : Nat → Int32) (m : Nat → Nat) (kd plc : Nat)  (h8 : m 0 < 8) : CI l yX4_adds cX4_adds 5 (some .int) (rmK 1) g [.ref (b 0), .int (nI kd), .int (nI plc)] (modS g b e m) (nI (m 0)) (modS g b e (vJoin m kd plc)) := by
  refine k_bodyI (by decide) (Nat.le_of_ble_eq_true rfl) (fun _ _ _ => rfl) (fun J hJ hR => ?_)
  show J (modS g b e m) [(0, .ref (b 0)), (1, .int (nI kd)), (2, .int (nI plc))] 0 []
  have L10 : ∀ (k : Nat) (i : Nat) (M : Nat → Nat), (i ≤ 10) → (11 ≤ i + k) → (∀ j, M j = if 4 + 10 * m 0 ≤ j ∧ j < 4 + 10 * m 0 + i then 0 else m j) → J (modS g b e M) [(0, .ref (b 0)), (1, .int (nI kd)), (2, .int (nI plc)), (3, .int (nI (m 0))), (4, .int (nI i))] 10 [] := by
    intro k
    induction k with
    | zero => intro i M hi hf hM; exfalso; omega
    | succ k ih =>
      intro i M hi hf hM
      refine k_iload hJ dX4_adds_10 4 rfl ?_
      refine k_bipush (v := nI 10) hJ dX4_adds_12 (by decide) ?_
      refine n_icmp_ge (tgt := 35) hJ dX4_adds_14 (by decide) (by omega) (by omega) (fun c14 => ?_) (fun c14 => ?_)
      · refine k_aload_n hJ dX4_adds_35 0 rfl ?_
        refine gf_X4_7 hJ 0 rfl rfl dX4_adds_36 ?_
        refine k_iload_n hJ dX4_adds_39 3 rfl ?_
        refine k_iconst (v := nI 0) hJ dX4_adds_40 (by decide) ?_
        refine c_SI (As := [.int (nI (m 0)), .int (nI 0)]) (st := [.ref (b 1)]) hJ (ct_X4_spot l g (m 0) 0 ) Fr.none ms_X4_spot ml_X4_57 (kRm_ok (by decide) (by decide)) rfl rfl (Nat.le_of_ble_eq_true rfl) dX4_adds_41 ?_
        refine k_iload_n hJ dX4_adds_44 1 rfl ?_
        refine k_iast hJ 1 rfl (4 + 10 * (m 0) + 0) (by omega) (by decide) (ms_set g b e M (4 + 10 * (m 0) + 0) kd) dX4_adds_45 ?_
        refine k_aload_n hJ dX4_adds_46 0 rfl ?_
        refine gf_X4_7 hJ 0 rfl rfl dX4_adds_47 ?_
        refine k_iload_n hJ dX4_adds_50 3 rfl ?_
        refine k_iconst (v := nI 1) hJ dX4_adds_51 (by decide) ?_
        refine c_SI (As := [.int (nI (m 0)), .int (nI 1)]) (st := [.ref (b 1)]) hJ (ct_X4_spot l g (m 0) 1 ) Fr.none ms_X4_spot ml_X4_57 (kRm_ok (by decide) (by decide)) rfl rfl (Nat.le_of_ble_eq_true rfl) dX4_adds_52 ?_
        refine k_iload_n hJ dX4_adds_55 2 rfl ?_
        refine k_iast hJ 1 rfl (4 + 10 * (m 0) + 1) (by omega) (by decide) (ms_set g b e (vUp M (4 + 10 * (m 0) + 0) kd) (4 + 10 * (m 0) + 1) plc) dX4_adds_56 ?_
        refine k_aload_n hJ dX4_adds_57 0 rfl ?_
        refine gf_X4_7 hJ 0 rfl rfl dX4_adds_58 ?_
        refine k_iload_n hJ dX4_adds_61 3 rfl ?_
        refine k_iconst (v := nI 2) hJ dX4_adds_62 (by decide) ?_
        refine c_SI (As := [.int (nI (m 0)), .int (nI 2)]) (st := [.ref (b 1)]) hJ (ct_X4_spot l g (m 0) 2 ) Fr.none ms_X4_spot ml_X4_57 (kRm_ok (by decide) (by decide)) rfl rfl (Nat.le_of_ble_eq_true rfl) dX4_adds_63 ?_
        refine k_iconst (v := nI 5) hJ dX4_adds_66 (by decide) ?_
        refine k_iast hJ 1 rfl (4 + 10 * (m 0) + 2) (by omega) (by decide) (ms_set g b e (vUp (vUp M (4 + 10 * (m 0) + 0) kd) (4 + 10 * (m 0) + 1) plc) (4 + 10 * (m 0) + 2) 5) dX4_adds_67 ?_
        refine k_aload_n hJ dX4_adds_68 0 rfl ?_
        refine gf_X4_7 hJ 0 rfl rfl dX4_adds_69 ?_
        refine k_iconst (v := nI 0) hJ dX4_adds_72 (by decide) ?_
        refine k_dup2 hJ dX4_adds_73 rfl rfl ?_
        refine k_iald hJ 1 rfl 0 (by omega) (by decide) rfl dX4_adds_74 ?_
        refine k_iconst (v := nI 1) hJ dX4_adds_75 (by decide) ?_
        refine n_iadd hJ dX4_adds_76 ?_
        refine k_iast hJ 1 rfl 0 (by omega) (by decide) (ms_set g b e (vUp (vUp (vUp M (4 + 10 * (m 0) + 0) kd) (4 + 10 * (m 0) + 1) plc) (4 + 10 * (m 0) + 2) 5) 0 (((vUp (vUp (vUp M (4 + 10 * (m 0) + 0) kd) (4 + 10 * (m 0) + 1) plc) (4 + 10 * (m 0) + 2) 5) 0) + 1)) dX4_adds_77 ?_
        refine k_iload_n hJ dX4_adds_78 3 rfl ?_
        refine k_eqw (ws2 := modS g b e (vJoin m kd plc)) ?_ (hR _ _ _ () dX4_adds_79 rfl)
        have h00 : M 0 = m 0 := by rw [hM, if_neg (by omega)]
        refine congrArg (modS g b e) (funext fun j => ?_)
        unfold vJoin
        by_cases e0 : j = 0
        · rw [if_pos e0, vUp_eq e0, vUp_ne (by omega), vUp_ne (by omega), vUp_ne (by omega), h00]
        · rw [if_neg e0, vUp_ne e0]; unfold vUp; rw [hM j, show i = 10 by omega]
          (repeat' split) <;> first | rfl | omega
      · refine k_aload_n hJ dX4_adds_17 0 rfl ?_
        refine gf_X4_7 hJ 0 rfl rfl dX4_adds_18 ?_
        refine k_iload_n hJ dX4_adds_21 3 rfl ?_
        refine k_iload hJ dX4_adds_22 4 rfl ?_
        refine c_SI (As := [.int (nI (m 0)), .int (nI i)]) (st := [.ref (b 1)]) hJ (ct_X4_spot l g (m 0) i ) Fr.none ms_X4_spot ml_X4_57 (kRm_ok (by decide) (by decide)) rfl rfl (Nat.le_of_ble_eq_true rfl) dX4_adds_24 ?_
        refine k_iconst (v := nI 0) hJ dX4_adds_27 (by decide) ?_
        refine k_iast hJ 1 rfl (4 + 10 * (m 0) + i) (by omega) (by decide) (ms_set g b e M (4 + 10 * (m 0) + i) 0) dX4_adds_28 ?_
        refine n_iinc (b := 1) (lv1 := [(0, .ref (b 0)), (1, .int (nI kd)), (2, .int (nI plc)), (3, .int (nI (m 0))), (4, .int (nI (i + 1)))]) hJ dX4_adds_29 4 rfl (by decide) (by decide) [1, 2, 3, 4, 0] rfl ?_
        refine k_goto (tgt := 10) hJ dX4_adds_32 (by decide) ?_
        refine ih (i + 1) _ (by omega) (by omega) (fun j => ?_)
        by_cases q : j = 4 + 10 * m 0 + i
        · rw [vUp_eq q, if_pos (by omega)]
        · rw [vUp_ne q, hM]; by_cases c : 4 + 10 * m 0 ≤ j ∧ j < 4 + 10 * m 0 + i
          · rw [if_pos c, if_pos (by omega)]
          · rw [if_neg c, if_neg (by omega)]
  refine k_aload_n hJ dX4_adds_0 0 rfl ?_
  refine gf_X4_7 hJ 0 rfl rfl dX4_adds_1 ?_
  refine k_iconst (v := nI 0) hJ dX4_adds_4 (by decide) ?_
  refine k_iald hJ 1 rfl 0 (by omega) (by decide) rfl dX4_adds_5 ?_
  refine k_istore_n (lv1 := [(0, .ref (b 0)), (1, .int (nI kd)), (2, .int (nI plc)), (3, .int (nI (m 0)))]) hJ dX4_adds_6 (by decide) [1, 2, 3, 0] rfl ?_
  refine k_iconst (v := nI 0) hJ dX4_adds_7 (by decide) ?_
  refine k_istore (lv1 := [(0, .ref (b 0)), (1, .int (nI kd)), (2, .int (nI plc)), (3, .int (nI (m 0))), (4, .int (nI 0))]) hJ dX4_adds_8 (by decide) [1, 2, 3, 4, 0] rfl ?_
  exact L10 11 0 m (by omega) (by omega) (fun j => by rw [if_neg (by omega)])
set_option maxHeartbeats 4000000 in
set_option maxRecDepth 100000 in
theorem ct_X4_grows (l : Launch) (g : KG) (b : Nat → Nat) (e : Nat → Int32) (m : Nat → Nat) (i v : Nat)  (hi : i < 84) (hv : v < 2 ^ 31) (hb : m i < 2 ^ 31) : CI l yX4_grows cX4_grows 4 (some .int) (rmK 0) g [.ref (b 0), .int (nI i), .int (nI v)] (modS g b e m) (nI (if m i < v then 1 else 0)) (modS g b e (vUp m i (max (m i) v))) := by
  refine k_bodyI (by decide) (Nat.le_of_ble_eq_true rfl) (fun _ _ _ => rfl) (fun J hJ hR => ?_)
  show J (modS g b e m) [(0, .ref (b 0)), (1, .int (nI i)), (2, .int (nI v))] 0 []
  refine k_aload_n hJ dX4_grows_0 0 rfl ?_
  refine gf_X4_7 hJ 0 rfl rfl dX4_grows_1 ?_
  refine k_iload_n hJ dX4_grows_4 1 rfl ?_
  refine k_iald hJ 1 rfl i (by omega) (by decide) rfl dX4_grows_5 ?_
  refine k_iload_n hJ dX4_grows_6 2 rfl ?_
  refine n_icmp_ge (tgt := 14) hJ dX4_grows_7 (by decide) (by omega) (by omega) (fun c7 => ?_) (fun c7 => ?_)
  · refine k_iconst (v := nI 0) hJ dX4_grows_14 (by decide) ?_
    refine k_istore_n (lv1 := [(0, .ref (b 0)), (1, .int (nI i)), (2, .int (nI v)), (3, .int (nI 0))]) hJ dX4_grows_15 (by decide) [1, 2, 3, 0] rfl ?_
    refine k_aload_n hJ dX4_grows_16 0 rfl ?_
    refine gf_X4_7 hJ 0 rfl rfl dX4_grows_17 ?_
    refine k_iload_n hJ dX4_grows_20 1 rfl ?_
    refine k_iload_n hJ dX4_grows_21 3 rfl ?_
    refine k_iconst (v := nI 1) hJ dX4_grows_22 (by decide) ?_
    refine n_icmp_ne (tgt := 30) hJ dX4_grows_23 (by decide) (by omega) (by omega) (fun c23 => ?_) (fun c23 => ?_)
    · refine k_aload_n hJ dX4_grows_30 0 rfl ?_
      refine gf_X4_7 hJ 0 rfl rfl dX4_grows_31 ?_
      refine k_iload_n hJ dX4_grows_34 1 rfl ?_
      refine k_iald hJ 1 rfl i (by omega) (by decide) rfl dX4_grows_35 ?_
      refine k_iast hJ 1 rfl i (by omega) (by decide) (ms_set g b e m i (m i)) dX4_grows_36 ?_
      refine k_iload_n hJ dX4_grows_37 3 rfl ?_
      exact k_eqw (ws2 := modS g b e (vUp m i (max (m i) v))) (by rw [Nat.max_eq_left c7]) (hR _ _ _ () dX4_grows_38 (by rw [if_neg (by omega)]))
    · exact absurd c23 (by decide)
  · refine k_iconst (v := nI 1) hJ dX4_grows_10 (by decide) ?_
    refine k_goto (tgt := 15) hJ dX4_grows_11 (by decide) ?_
    refine k_istore_n (lv1 := [(0, .ref (b 0)), (1, .int (nI i)), (2, .int (nI v)), (3, .int (nI 1))]) hJ dX4_grows_15 (by decide) [1, 2, 3, 0] rfl ?_
    refine k_aload_n hJ dX4_grows_16 0 rfl ?_
    refine gf_X4_7 hJ 0 rfl rfl dX4_grows_17 ?_
    refine k_iload_n hJ dX4_grows_20 1 rfl ?_
    refine k_iload_n hJ dX4_grows_21 3 rfl ?_
    refine k_iconst (v := nI 1) hJ dX4_grows_22 (by decide) ?_
    refine n_icmp_ne (tgt := 30) hJ dX4_grows_23 (by decide) (by omega) (by omega) (fun c23 => ?_) (fun c23 => ?_)
    · exact absurd c23 (by decide)
    · refine k_iload_n hJ dX4_grows_26 2 rfl ?_
      refine k_goto (tgt := 36) hJ dX4_grows_27 (by decide) ?_
      refine k_iast hJ 1 rfl i (by omega) (by decide) (ms_set g b e m i v) dX4_grows_36 ?_
      refine k_iload_n hJ dX4_grows_37 3 rfl ?_
      exact k_eqw (ws2 := modS g b e (vUp m i (max (m i) v))) (by rw [Nat.max_eq_right (Nat.le_of_lt c7)]) (hR _ _ _ () dX4_grows_38 (by rw [if_pos c7]))
