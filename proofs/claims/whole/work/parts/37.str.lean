theorem fl_J0_9 : Cond.fieldLink RJ0 9 "java/lang/String" "value" "[B" ∈ wsL_law := inr_29 _ (List.mem_of_getElem? (i := 4) rfl)
theorem fl_J0_15 : Cond.fieldLink RJ0 15 "java/lang/String" "coder" "B" ∈ wsL_law := inr_29 _ (List.mem_of_getElem? (i := 10) rfl)
theorem fl_J0_38 : Cond.fieldLink RJ0 38 "java/lang/String" "COMPACT_STRINGS" "Z" ∈ wsL_law := inr_29 _ (List.mem_of_getElem? (i := 9) rfl)
theorem fl_J0_1053 : Cond.fieldLink RJ0 1053 "jdk/internal/util/Preconditions" "SIOOBE_FORMATTER" "Ljava/util/function/BiFunction;" ∈ wsL_law := inr_30 _ (List.mem_of_getElem? (i := 2) rfl)
section KZ
variable {l : Launch} {R rm : Room} {cc c1 : ByteArray} {own : String} {nL n1 n index : Nat} {g : KG} {J : KT} {ws wc : va_W} {lv : List (Nat × Value)} {pc : Nat} {st st0 As : List Value} {y : MethodName} {ret : Option FieldType}
theorem kLen_lt : ∀ i, i < 12 → kLen.getD i 0 < 2 ^ 31 := by decide
theorem k_ldcS (hJ : KO l R cc RX2 nL g J) {tx : String} (i : Nat) (hq : kStr[i]? = some (index, tx)) (hd : decode cc pc = .ok (.ldc index, 2)) (k1 : J ws lv (pc + 2) (.ref (g.2.2.1 i) :: st)) : J ws lv pc st := by
  obtain ⟨p, e, s, m, args, below, meth, c, A, cs, sl, Q, K, hE, hA, hcs, hsl, rfl⟩ := hJ
  exact fun H locs ls hP hD hS hl => va_ldcS K.1 K.2.1 K.2.2.2.1 (hE.2.2.2.2.2.1 i _ hq) hd (k1 H locs ls hP hD hS hl)
theorem k_sval (hJ : KO l R cc RJ0 nL g J) (i : Nat) (hi : i < 12) (hw : Cond.fieldLink RJ0 9 "java/lang/String" "value" "[B" ∈ wsL_law) (hd : decode cc pc = .ok (.getfield 9, 3)) (k1 : J ws lv (pc + 3) (.ref (g.2.2.2 i) :: st)) : J ws lv pc (.ref (g.2.2.1 i) :: st) := by
  obtain ⟨p, e, s, m, args, below, meth, c, A, cs, sl, Q, K, hE, hA, hcs, hsl, rfl⟩ := hJ
  exact fun H locs ls hP hD hS hl => vk_getf K.1 K.2.1 (hE.2.2.2.2.1.1 i hi).2.2.1 hS K.2.2.2.1 (K.2.2.2.2 _ hw) (fun _ h => h) hd (k1 H locs ls hP hD hS hl)
theorem k_scod (hJ : KO l R cc RJ0 nL g J) (i : Nat) (hi : i < 12) (hw : Cond.fieldLink RJ0 15 "java/lang/String" "coder" "B" ∈ wsL_law) (hd : decode cc pc = .ok (.getfield 15, 3)) (k1 : J ws lv (pc + 3) (.int (nI 0) :: st)) : J ws lv pc (.ref (g.2.2.1 i) :: st) := by
  obtain ⟨p, e, s, m, args, below, meth, c, A, cs, sl, Q, K, hE, hA, hcs, hsl, rfl⟩ := hJ
  exact fun H locs ls hP hD hS hl => vk_getf K.1 K.2.1 (hE.2.2.2.2.1.1 i hi).2.1 hS K.2.2.2.1 (K.2.2.2.2 _ hw) (fun _ h => h) hd (k1 H locs ls hP hD hS hl)
theorem k_scom (hJ : KO l R cc RJ0 nL g J) (hw : Cond.fieldLink RJ0 38 "java/lang/String" "COMPACT_STRINGS" "Z" ∈ wsL_law) (hd : decode cc pc = .ok (.getstatic 38, 3)) (k1 : J ws lv (pc + 3) (.int (nI 1) :: st)) : J ws lv pc st := by
  obtain ⟨p, e, s, m, args, below, meth, c, A, cs, sl, Q, K, hE, hA, hcs, hsl, rfl⟩ := hJ
  exact fun H locs ls hP hD hS hl => va_gets K.1 K.2.1 hE.2.2.2.1 hS K.2.2.2.1 (K.2.2.2.2 _ hw) (fun _ h => h) hd (k1 H locs ls hP hD hS hl)
theorem k_sfmt (hJ : KO l R cc RJ0 nL g J) (hw : Cond.fieldLink RJ0 1053 "jdk/internal/util/Preconditions" "SIOOBE_FORMATTER" "Ljava/util/function/BiFunction;" ∈ wsL_law) (hd : decode cc pc = .ok (.getstatic 1053, 3)) (k0 : J ws lv (pc + 3) (.null :: st)) (k1 : ∀ t, J ws lv (pc + 3) (.ref t :: st)) : J ws lv pc st := by
  obtain ⟨p, e, s, m, args, below, meth, c, A, cs, sl, Q, K, hE, hA, hcs, hsl, rfl⟩ := hJ
  intro H locs ls hP hD hS hl
  rcases hE.2.2.2.2.2.2 with z | ⟨t, z⟩
  · exact va_gets K.1 K.2.1 z hS K.2.2.2.1 (K.2.2.2.2 _ hw) (fun _ h => h) hd (k0 H locs ls hP hD hS hl)
  · exact va_gets K.1 K.2.1 z hS K.2.2.2.1 (K.2.2.2.2 _ hw) (fun _ h => h) hd (k1 t H locs ls hP hD hS hl)
theorem k_slen (hJ : KO l R cc own nL g J) (i : Nat) (hi : i < 12) (hd : decode cc pc = .ok (.arraylength, 1)) (k1 : J ws lv (pc + 1) (.int (nI (kLen.getD i 0)) :: st)) : J ws lv pc (.ref (g.2.2.2 i) :: st) := by
  obtain ⟨p, e, s, m, args, below, meth, c, A, cs, sl, Q, K, hE, hA, hcs, hsl, rfl⟩ := hJ
  exact fun H locs ls hP hD hS hl => va_tlen K.1 K.2.1 (hE.2.2.2.2.1.1 i hi).2.2.2 hS rfl hd (k1 H locs ls hP hD hS hl)
theorem k_sbal (hJ : KO l R cc own nL g J) (i : Nat) (hi : i < 12) (j : Nat) (hj : j < kLen.getD i 0) (hd : decode cc pc = .ok (.baload, 1)) (k1 : J ws lv (pc + 1) (.int ((kByt.getD i []).getD j 0) :: st)) : J ws lv pc (.int (nI j) :: .ref (g.2.2.2 i) :: st) := by
  obtain ⟨p, e, s, m, args, below, meth, c, A, cs, sl, Q, K, hE, hA, hcs, hsl, rfl⟩ := hJ
  have hn := kLen_lt i hi
  exact fun H locs ls hP hD hS hl => va_tb K.1 K.2.1 (hE.2.2.2.2.1.1 i hi).2.2.2 hS (vp_in_nI hj hn) (by rw [nI_clamp (by omega)]) hd (k1 H locs ls hP hD hS hl)
theorem c_RI {r : Int32} {wc1 ws2 : va_W} (hJ : KO l R cc own nL g J) (i : Nat) (hi : i < 12) (hM : CI l y c1 n1 ret rm g (.ref (g.2.2.1 i) :: As) wc r wc1) (fr : Fr ws wc wc1 ws2) (hy : kMV y c1 n1 ret n) (hq : y.cls = "java/lang/String") (hlk : Cond.methodLink own index y ∈ wsL_law) (hrm : kRm R rm n1) (hst : st0 = As.reverse ++ .ref (g.2.2.1 i) :: st) (hn : As.length = n) (hdep : (st.map (fun v => v.category)).sum ≤ 8) (hd : decode cc pc = .ok (.invokevirtual index, 3)) (k : J ws2 lv (pc + 3) (.int r :: st)) : J ws lv pc st0 := by
  obtain ⟨p, e, s, m, args, below, meth, c, A, cs, sl, Q, K, hE, hA, hcs, hsl, rfl⟩ := hJ
  intro H locs ls hP hD hS hl
  obtain ⟨i1, i2, i3, i4, i5, i6, i7⟩ := hy
  obtain ⟨r1, r2, r3, r4⟩ := hrm
  have hts := K.2.2.2.2
  have cw : CallW R s args own y.cls index y c1 n1 ret (.code y c1 n1 ret :: wsL_law) rm 0 0 n := ⟨callB_of n hts (kGoodIn i4) rfl r1 r2 (hts _ i3) (hts _ hlk) ⟨i5, i6, i7⟩ ⟨r3, r4⟩, hts _ i1, hts _ i2⟩
  have rcv := vk_recv hE.2.2.2.2.1 hi hS
  rw [← hq] at rcv
  exact k_after (va_runV K (hM H.size) cw ⟨kBlind, rcv, fun U hU hW => ⟨rfl, by rw [hU], by rw [hU]; exact fr.sub hP, kE.call hE hW hU hS (kA_free (fr.subD hD) hS hA), (fr.subD hD).weaken (fun _ _ _ _ => trivial)⟩⟩ rfl hn hl.1 hst (lv_room hdep) hd ⟨hcs, hsl⟩) hP hD hS hA hl (fun _ => fr) (fun x _ hx => by cases hx; exact k)
theorem c_SV {wc1 ws2 : va_W} (hJ : KO l R cc own nL g J) (hM : CV l y c1 n1 ret rm g As wc wc1) (fr : Fr ws wc wc1 ws2) (hy : kMS y c1 n1 ret n) (hlk : Cond.methodLink own index y ∈ wsL_law) (hrm : kRm R rm n1) (hst : st0 = As.reverse ++ st) (hn : As.length = n) (hdep : (st.map (fun v => v.category)).sum ≤ 8) (hd : decode cc pc = .ok (.invokestatic index, 3)) (k : J ws2 lv (pc + 3) st) : J ws lv pc st0 := k_callS hJ hM (fun _ => fr) hy hlk hrm hst hn hdep hd (fun _ _ _ => k)
end KZ
/-- the words of the String constants, in their order -/
def kWl : List (List Nat) := [wWi, wDu, wAt, wNo, wCd, wDi, wCo, wBa, wDo, wPf, wHo, wPe]
theorem kWl_len : ∀ i, i < 12 → (kWl.getD i []).length = kLen.getD i 0 := by decide
theorem kWl_le : ∀ i, i < 12 → kLen.getD i 0 ≤ 9 := by decide
theorem kWl_at : ∀ i, i < 12 → ∀ j, j < 9 → ((((kByt.getD i []).getD j 0) &&& nI 255).toUInt32 % 65536).toInt32 = nI ((kWl.getD i []).getD j 0) := by decide +kernel
theorem kWl_nar : ∀ i, i < 12 → ∀ j, j < 9 → narrow .char (.int (nI ((kWl.getD i []).getD j 0))) = .int (nI ((kWl.getD i []).getD j 0)) := by decide +kernel
set_option maxHeartbeats 4000000 in
set_option maxRecDepth 100000 in
theorem ct_J0_coder_7d493 (l : Launch) (g : KG) (i : Nat)  (hi : i < 12) : CI l yJ0_coder_7d493 cJ0_coder_7d493 1 (some .byte) (rmK 0) g [.ref (g.2.2.1 i)] ([]) (nI 0) ([]) := by
  refine k_bodyI (by decide) (Nat.le_of_ble_eq_true rfl) (fun _ _ h => by rw [h]; rfl) (fun J hJ hR => ?_)
  show J ([]) [(0, .ref (g.2.2.1 i))] 0 []
  refine k_scom hJ fl_J0_38 dJ0_coder_7d493_0 ?_
  refine n_if_eq (tgt := 13) hJ dJ0_coder_7d493_3 (by decide) (by omega) (fun c3 => ?_) (fun c3 => ?_)
  · exact absurd c3 (by decide)
  · refine k_aload_n hJ dJ0_coder_7d493_6 0 rfl ?_
    refine k_scod hJ i hi fl_J0_15 dJ0_coder_7d493_7 ?_
    refine k_goto (tgt := 14) hJ dJ0_coder_7d493_10 (by decide) ?_
    exact hR _ _ _ () dJ0_coder_7d493_14 rfl
set_option maxHeartbeats 4000000 in
set_option maxRecDepth 100000 in
theorem ct_J0_isLatin1_aae02 (l : Launch) (g : KG) (i : Nat)  (hi : i < 12) : CI l yJ0_isLatin1_aae02 cJ0_isLatin1_aae02 1 (some .boolean) (rmK 0) g [.ref (g.2.2.1 i)] ([]) (kb true) ([]) := by
  refine k_bodyI (by decide) (Nat.le_of_ble_eq_true rfl) (fun _ _ h => by rw [h]; exact kb_nar _) (fun J hJ hR => ?_)
  show J ([]) [(0, .ref (g.2.2.1 i))] 0 []
  refine k_scom hJ fl_J0_38 dJ0_isLatin1_aae02_0 ?_
  refine n_if_eq (tgt := 17) hJ dJ0_isLatin1_aae02_3 (by decide) (by omega) (fun c3 => ?_) (fun c3 => ?_)
  · exact absurd c3 (by decide)
  · refine k_aload_n hJ dJ0_isLatin1_aae02_6 0 rfl ?_
    refine k_scod hJ i hi fl_J0_15 dJ0_isLatin1_aae02_7 ?_
    refine n_if_ne (tgt := 17) hJ dJ0_isLatin1_aae02_10 (by decide) (by omega) (fun c10 => ?_) (fun c10 => ?_)
    · exact absurd c10 (by decide)
    · refine k_iconst (v := nI 1) hJ dJ0_isLatin1_aae02_13 (by decide) ?_
      refine k_goto (tgt := 18) hJ dJ0_isLatin1_aae02_14 (by decide) ?_
      exact hR _ _ _ () dJ0_isLatin1_aae02_18 rfl
set_option maxHeartbeats 4000000 in
set_option maxRecDepth 100000 in
theorem ct_J3_checkIndex_n (l : Launch) (g : KG) (j n : Nat)  (hj : j < n) (hn : n < 2 ^ 31) : CI l yJ3_checkIndex_8e157 cJ3_checkIndex_8e157 3 (some .int) (rmK 1) g [.int (nI j), .int (nI n), .null] ([]) (nI j) ([]) := by
  refine k_bodyI (by decide) (Nat.le_of_ble_eq_true rfl) (fun _ _ _ => rfl) (fun J hJ hR => ?_)
  show J ([]) [(0, .int (nI j)), (1, .int (nI n)), (2, .null)] 0 []
  refine k_iload_n hJ dJ3_checkIndex_8e157_0 0 rfl ?_
  refine n_if_lt (tgt := 9) hJ dJ3_checkIndex_8e157_1 (by decide) (by omega) (fun c1 => ?_) (fun c1 => ?_)
  · exact absurd c1 (by omega)
  · refine k_iload_n hJ dJ3_checkIndex_8e157_4 0 rfl ?_
    refine k_iload_n hJ dJ3_checkIndex_8e157_5 1 rfl ?_
    refine n_icmp_lt (tgt := 16) hJ dJ3_checkIndex_8e157_6 (by decide) (by omega) (by omega) (fun c6 => ?_) (fun c6 => ?_)
    · refine k_iload_n hJ dJ3_checkIndex_8e157_16 0 rfl ?_
      exact hR _ _ _ () dJ3_checkIndex_8e157_17 rfl
    · exfalso; omega
set_option maxHeartbeats 4000000 in
set_option maxRecDepth 100000 in
theorem ct_J3_checkIndex_r (l : Launch) (g : KG) (ft : Nat) (j n : Nat)  (hj : j < n) (hn : n < 2 ^ 31) : CI l yJ3_checkIndex_8e157 cJ3_checkIndex_8e157 3 (some .int) (rmK 1) g [.int (nI j), .int (nI n), .ref ft] ([]) (nI j) ([]) := by
  refine k_bodyI (by decide) (Nat.le_of_ble_eq_true rfl) (fun _ _ _ => rfl) (fun J hJ hR => ?_)
  show J ([]) [(0, .int (nI j)), (1, .int (nI n)), (2, .ref ft)] 0 []
  refine k_iload_n hJ dJ3_checkIndex_8e157_0 0 rfl ?_
  refine n_if_lt (tgt := 9) hJ dJ3_checkIndex_8e157_1 (by decide) (by omega) (fun c1 => ?_) (fun c1 => ?_)
  · exact absurd c1 (by omega)
  · refine k_iload_n hJ dJ3_checkIndex_8e157_4 0 rfl ?_
    refine k_iload_n hJ dJ3_checkIndex_8e157_5 1 rfl ?_
    refine n_icmp_lt (tgt := 16) hJ dJ3_checkIndex_8e157_6 (by decide) (by omega) (by omega) (fun c6 => ?_) (fun c6 => ?_)
    · refine k_iload_n hJ dJ3_checkIndex_8e157_16 0 rfl ?_
      exact hR _ _ _ () dJ3_checkIndex_8e157_17 rfl
    · exfalso; omega
set_option maxHeartbeats 4000000 in
set_option maxRecDepth 100000 in
theorem ct_J0_checkIndex_df160 (l : Launch) (g : KG) (j n : Nat)  (hj : j < n) (hn : n < 2 ^ 31) : CV l yJ0_checkIndex_df160 cJ0_checkIndex_df160 2 none (rmK 2) g [.int (nI j), .int (nI n)] ([]) ([]) := by
  refine k_bodyV (by decide) (Nat.le_of_ble_eq_true rfl) (fun J hJ hR => ?_)
  show J ([]) [(0, .int (nI j)), (1, .int (nI n))] 0 []
  refine k_iload_n hJ dJ0_checkIndex_df160_0 0 rfl ?_
  refine k_iload_n hJ dJ0_checkIndex_df160_1 1 rfl ?_
  refine k_sfmt hJ fl_J0_1053 dJ0_checkIndex_df160_2 ?_ (fun ft => ?_)
  · refine c_SI (As := [.int (nI j), .int (nI n), .null]) (st := []) hJ (ct_J3_checkIndex_n l g j n hj hn) Fr.none ms_J3_checkIndex_8e157 ml_J0_1059 (kRm_ok (by decide) (by decide)) rfl rfl (Nat.le_of_ble_eq_true rfl) dJ0_checkIndex_df160_5 ?_
    refine k_pop hJ dJ0_checkIndex_df160_8 rfl ?_
    exact hR _ _ () () dJ0_checkIndex_df160_9 trivial
  · refine c_SI (As := [.int (nI j), .int (nI n), .ref ft]) (st := []) hJ (ct_J3_checkIndex_r l g ft j n hj hn) Fr.none ms_J3_checkIndex_8e157 ml_J0_1059 (kRm_ok (by decide) (by decide)) rfl rfl (Nat.le_of_ble_eq_true rfl) dJ0_checkIndex_df160_5 ?_
    refine k_pop hJ dJ0_checkIndex_df160_8 rfl ?_
    exact hR _ _ () () dJ0_checkIndex_df160_9 trivial
set_option maxHeartbeats 4000000 in
set_option maxRecDepth 100000 in
theorem ct_J1_charAt_3b067 (l : Launch) (g : KG) (i j : Nat)  (hi : i < 12) (hj : j < kLen.getD i 0) : CI l yJ1_charAt_3b067 cJ1_charAt_3b067 2 (some .char) (rmK 3) g [.ref (g.2.2.2 i), .int (nI j)] ([]) (nI ((kWl.getD i []).getD j 0)) ([]) := by
  refine k_bodyI (by decide) (Nat.le_of_ble_eq_true rfl) (fun _ _ h => by rw [h]; exact kWl_nar i hi j (by have := kWl_le i hi; omega)) (fun J hJ hR => ?_)
  show J ([]) [(0, .ref (g.2.2.2 i)), (1, .int (nI j))] 0 []
  refine k_iload_n hJ dJ1_charAt_3b067_0 1 rfl ?_
  refine k_aload_n hJ dJ1_charAt_3b067_1 0 rfl ?_
  refine k_slen hJ i hi dJ1_charAt_3b067_2 ?_
  refine c_SV (As := [.int (nI j), .int (nI (kLen.getD i 0))]) (st := []) hJ (ct_J0_checkIndex_df160 l g j (kLen.getD i 0) hj (kLen_lt i hi)) Fr.none ms_J0_checkIndex_df160 ml_J1_9 (kRm_ok (by decide) (by decide)) rfl rfl (Nat.le_of_ble_eq_true rfl) dJ1_charAt_3b067_3 ?_
  refine k_aload_n hJ dJ1_charAt_3b067_6 0 rfl ?_
  refine k_iload_n hJ dJ1_charAt_3b067_7 1 rfl ?_
  refine k_sbal hJ i hi j hj dJ1_charAt_3b067_8 ?_
  refine k_sipush (v := nI 255) hJ dJ1_charAt_3b067_9 (by decide) ?_
  refine k_iand hJ dJ1_charAt_3b067_12 ?_
  refine k_i2c hJ dJ1_charAt_3b067_13 rfl ?_
  exact hR _ _ _ () dJ1_charAt_3b067_14 (kWl_at i hi j (by have := kWl_le i hi; omega))
theorem sh_0 : ∀ i, i < 12 → nI (kLen.getD i 0) >>> (nI 0 &&& 31) = nI (kLen.getD i 0) := by decide +kernel
set_option maxHeartbeats 4000000 in
set_option maxRecDepth 100000 in
theorem ct_J0_length_8abf5 (l : Launch) (g : KG) (i : Nat)  (hi : i < 12) : CI l yJ0_length_8abf5 cJ0_length_8abf5 1 (some .int) (rmK 1) g [.ref (g.2.2.1 i)] ([]) (nI (kLen.getD i 0)) ([]) := by
  refine k_bodyI (by decide) (Nat.le_of_ble_eq_true rfl) (fun _ _ _ => rfl) (fun J hJ hR => ?_)
  show J ([]) [(0, .ref (g.2.2.1 i))] 0 []
  refine k_aload_n hJ dJ0_length_8abf5_0 0 rfl ?_
  refine k_sval hJ i hi fl_J0_9 dJ0_length_8abf5_1 ?_
  refine k_slen hJ i hi dJ0_length_8abf5_4 ?_
  refine k_aload_n hJ dJ0_length_8abf5_5 0 rfl ?_
  refine c_RI (As := []) (st := [.int (nI (kLen.getD i 0))]) hJ i hi (ct_J0_coder_7d493 l g i hi) Fr.none mv_J0_coder_7d493 rfl ml_J0_335 (kRm_ok (by decide) (by decide)) rfl rfl (Nat.le_of_ble_eq_true rfl) dJ0_length_8abf5_6 ?_
  refine k_ishr hJ dJ0_length_8abf5_9 ?_
  exact hR _ _ _ () dJ0_length_8abf5_10 (sh_0 i hi)
set_option maxHeartbeats 4000000 in
set_option maxRecDepth 100000 in
theorem ct_J0_charAt_5068e (l : Launch) (g : KG) (i j : Nat)  (hi : i < 12) (hj : j < kLen.getD i 0) : CI l yJ0_charAt_5068e cJ0_charAt_5068e 2 (some .char) (rmK 5) g [.ref (g.2.2.1 i), .int (nI j)] ([]) (nI ((kWl.getD i []).getD j 0)) ([]) := by
  refine k_bodyI (by decide) (Nat.le_of_ble_eq_true rfl) (fun _ _ h => by rw [h]; exact kWl_nar i hi j (by have := kWl_le i hi; omega)) (fun J hJ hR => ?_)
  show J ([]) [(0, .ref (g.2.2.1 i)), (1, .int (nI j))] 0 []
  refine k_aload_n hJ dJ0_charAt_5068e_0 0 rfl ?_
  refine c_RI (As := []) (st := []) hJ i hi (ct_J0_isLatin1_aae02 l g i hi) Fr.none mv_J0_isLatin1_aae02 rfl ml_J0_492 (kRm_ok (by decide) (by decide)) rfl rfl (Nat.le_of_ble_eq_true rfl) dJ0_charAt_5068e_1 ?_
  refine b_if_eq (tgt := 16) hJ dJ0_charAt_5068e_4 (by decide) (fun c4 => ?_) (fun c4 => ?_)
  · exact absurd c4 (by decide)
  · refine k_aload_n hJ dJ0_charAt_5068e_7 0 rfl ?_
    refine k_sval hJ i hi fl_J0_9 dJ0_charAt_5068e_8 ?_
    refine k_iload_n hJ dJ0_charAt_5068e_11 1 rfl ?_
    refine c_SI (As := [.ref (g.2.2.2 i), .int (nI j)]) (st := []) hJ (ct_J1_charAt_3b067 l g i j hi hj) Fr.none ms_J1_charAt_3b067 ml_J0_495 (kRm_ok (by decide) (by decide)) rfl rfl (Nat.le_of_ble_eq_true rfl) dJ0_charAt_5068e_12 ?_
    exact hR _ _ _ () dJ0_charAt_5068e_15 rfl
