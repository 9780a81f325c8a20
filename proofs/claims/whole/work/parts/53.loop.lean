section LS
variable {l : Launch} {g : KG} {sc L i : Nat} {xs : Nat → Int32} {J : KT} {a aK aL aT b : Nat → Nat} {s : KS} {jc : CJ} {jm : MJ}
set_option maxHeartbeats 4000000 in
set_option maxRecDepth 100000 in
theorem lw_sw (hJ : KLw l room_1 cL_law RL 4 g sc L xs J) (hL : L ≤ 3072) (hi : i + 6 ≤ L) (hs : kOk s) (k : ∀ (s2 : KS) (jc : CJ) (jm : MJ), kOk s2 → J (clsA g a aK aL aT s2 jc ++ modA g b s2 jm) [(0, .ref sc), (1, .ref (a 0)), (2, .ref (b 0)), (3, .int (nI i))] 1506 []) : J (clsA g a aK aL aT s jc ++ modA g b s jm) [(0, .ref sc), (1, .ref (a 0)), (2, .ref (b 0)), (3, .int (nI i))] 27 [] := by
  have hK := hJ.ko
  refine k_aload_n hK dL_law_27 0 rfl ?_
  refine k_iload_n hK dL_law_28 3 rfl ?_
  refine l_sld hJ dL_law_29 hL (by omega) ?_
  refine k_bipush (v := nI 63) hK dL_law_30 (by decide) ?_
  refine k_iand hK dL_law_32 ?_
  by_cases h : ∃ c, c < 41 ∧ xs i &&& nI 63 = nI c
  · obtain ⟨c, hc, e⟩ := h
    match c, hc, e with
    | 0, _, e => exact r_tabIn (c := 0) (off := 179) (tgt := 212) hK dL_law_33 e (by decide) (by decide) (by decide) rfl (by decide) (lw_c0 hJ hL hi hs k)
    | 1, _, e => exact r_tabIn (c := 1) (off := 212) (tgt := 245) hK dL_law_33 e (by decide) (by decide) (by decide) rfl (by decide) (lw_c1 hJ hL hi hs k)
    | 2, _, e => exact r_tabIn (c := 2) (off := 245) (tgt := 278) hK dL_law_33 e (by decide) (by decide) (by decide) rfl (by decide) (lw_c2 hJ hL hi hs k)
    | 3, _, e => exact r_tabIn (c := 3) (off := 278) (tgt := 311) hK dL_law_33 e (by decide) (by decide) (by decide) rfl (by decide) (lw_c3 hJ hL hi hs k)
    | 4, _, e => exact r_tabIn (c := 4) (off := 321) (tgt := 354) hK dL_law_33 e (by decide) (by decide) (by decide) rfl (by decide) (lw_c4 hJ hL hi hs k)
    | 5, _, e => exact r_tabIn (c := 5) (off := 364) (tgt := 397) hK dL_law_33 e (by decide) (by decide) (by decide) rfl (by decide) (lw_c5 hJ hL hi hs k)
    | 6, _, e => exact r_tabIn (c := 6) (off := 407) (tgt := 440) hK dL_law_33 e (by decide) (by decide) (by decide) rfl (by decide) (lw_c6 hJ hL hi hs k)
    | 7, _, e => exact r_tabIn (c := 7) (off := 440) (tgt := 473) hK dL_law_33 e (by decide) (by decide) (by decide) rfl (by decide) (lw_c7 hJ hL hi hs k)
    | 8, _, e => exact r_tabIn (c := 8) (off := 473) (tgt := 506) hK dL_law_33 e (by decide) (by decide) (by decide) rfl (by decide) (lw_c8 hJ hL hi hs k)
    | 9, _, e => exact r_tabIn (c := 9) (off := 496) (tgt := 529) hK dL_law_33 e (by decide) (by decide) (by decide) rfl (by decide) (lw_c9 hJ hL hi hs k)
    | 10, _, e => exact r_tabIn (c := 10) (off := 529) (tgt := 562) hK dL_law_33 e (by decide) (by decide) (by decide) rfl (by decide) (lw_c10 hJ hL hi hs k)
    | 11, _, e => exact r_tabIn (c := 11) (off := 572) (tgt := 605) hK dL_law_33 e (by decide) (by decide) (by decide) rfl (by decide) (lw_c11 hJ hL hi hs k)
    | 12, _, e => exact r_tabIn (c := 12) (off := 605) (tgt := 638) hK dL_law_33 e (by decide) (by decide) (by decide) rfl (by decide) (lw_c12 hJ hL hi hs k)
    | 13, _, e => exact r_tabIn (c := 13) (off := 628) (tgt := 661) hK dL_law_33 e (by decide) (by decide) (by decide) rfl (by decide) (lw_c13 hJ hL hi hs k)
    | 14, _, e => exact r_tabIn (c := 14) (off := 661) (tgt := 694) hK dL_law_33 e (by decide) (by decide) (by decide) rfl (by decide) (lw_c14 hJ hL hi hs k)
    | 15, _, e => exact r_tabIn (c := 15) (off := 684) (tgt := 717) hK dL_law_33 e (by decide) (by decide) (by decide) rfl (by decide) (lw_c15 hJ hL hi hs k)
    | 16, _, e => exact r_tabIn (c := 16) (off := 707) (tgt := 740) hK dL_law_33 e (by decide) (by decide) (by decide) rfl (by decide) (lw_c16 hJ hL hi hs k)
    | 17, _, e => exact r_tabIn (c := 17) (off := 750) (tgt := 783) hK dL_law_33 e (by decide) (by decide) (by decide) rfl (by decide) (lw_c17 hJ hL hi hs k)
    | 18, _, e => exact r_tabIn (c := 18) (off := 773) (tgt := 806) hK dL_law_33 e (by decide) (by decide) (by decide) rfl (by decide) (lw_c18 hJ hL hi hs k)
    | 19, _, e => exact r_tabIn (c := 19) (off := 796) (tgt := 829) hK dL_law_33 e (by decide) (by decide) (by decide) rfl (by decide) (lw_c19 hJ hL hi hs k)
    | 20, _, e => exact r_tabIn (c := 20) (off := 819) (tgt := 852) hK dL_law_33 e (by decide) (by decide) (by decide) rfl (by decide) (lw_c20 hJ hL hi hs k)
    | 21, _, e => exact r_tabIn (c := 21) (off := 842) (tgt := 875) hK dL_law_33 e (by decide) (by decide) (by decide) rfl (by decide) (lw_c21 hJ hL hi hs k)
    | 22, _, e => exact r_tabIn (c := 22) (off := 865) (tgt := 898) hK dL_law_33 e (by decide) (by decide) (by decide) rfl (by decide) (lw_c22 hJ hL hi hs k)
    | 23, _, e => exact r_tabIn (c := 23) (off := 888) (tgt := 921) hK dL_law_33 e (by decide) (by decide) (by decide) rfl (by decide) (lw_c23 hJ hL hi hs k)
    | 24, _, e => exact r_tabIn (c := 24) (off := 921) (tgt := 954) hK dL_law_33 e (by decide) (by decide) (by decide) rfl (by decide) (lw_c24 hJ hL hi hs k)
    | 25, _, e => exact r_tabIn (c := 25) (off := 954) (tgt := 987) hK dL_law_33 e (by decide) (by decide) (by decide) rfl (by decide) (lw_c25 hJ hL hi hs k)
    | 26, _, e => exact r_tabIn (c := 26) (off := 987) (tgt := 1020) hK dL_law_33 e (by decide) (by decide) (by decide) rfl (by decide) (lw_c26 hJ hL hi hs k)
    | 27, _, e => exact r_tabIn (c := 27) (off := 1020) (tgt := 1053) hK dL_law_33 e (by decide) (by decide) (by decide) rfl (by decide) (lw_c27 hJ hL hi hs k)
    | 28, _, e => exact r_tabIn (c := 28) (off := 1053) (tgt := 1086) hK dL_law_33 e (by decide) (by decide) (by decide) rfl (by decide) (lw_c28 hJ hL hi hs k)
    | 29, _, e => exact r_tabIn (c := 29) (off := 1066) (tgt := 1099) hK dL_law_33 e (by decide) (by decide) (by decide) rfl (by decide) (lw_c29 hJ hL hi hs k)
    | 30, _, e => exact r_tabIn (c := 30) (off := 1079) (tgt := 1112) hK dL_law_33 e (by decide) (by decide) (by decide) rfl (by decide) (lw_c30 hJ hL hi hs k)
    | 31, _, e => exact r_tabIn (c := 31) (off := 1122) (tgt := 1155) hK dL_law_33 e (by decide) (by decide) (by decide) rfl (by decide) (lw_c31 hJ hL hi hs k)
    | 32, _, e => exact r_tabIn (c := 32) (off := 1196) (tgt := 1229) hK dL_law_33 e (by decide) (by decide) (by decide) rfl (by decide) (lw_c32 hJ hL hi hs k)
    | 33, _, e => exact r_tabIn (c := 33) (off := 1259) (tgt := 1292) hK dL_law_33 e (by decide) (by decide) (by decide) rfl (by decide) (lw_c33 hJ hL hi hs k)
    | 34, _, e => exact r_tabIn (c := 34) (off := 1282) (tgt := 1315) hK dL_law_33 e (by decide) (by decide) (by decide) rfl (by decide) (lw_c34 hJ hL hi hs k)
    | 35, _, e => exact r_tabIn (c := 35) (off := 1335) (tgt := 1368) hK dL_law_33 e (by decide) (by decide) (by decide) rfl (by decide) (lw_c35 hJ hL hi hs k)
    | 36, _, e => exact r_tabIn (c := 36) (off := 1388) (tgt := 1421) hK dL_law_33 e (by decide) (by decide) (by decide) rfl (by decide) (lw_c36 hJ hL hi hs k)
    | 37, _, e => exact r_tabIn (c := 37) (off := 1401) (tgt := 1434) hK dL_law_33 e (by decide) (by decide) (by decide) rfl (by decide) (lw_c37 hJ hL hi hs k)
    | 38, _, e => exact r_tabIn (c := 38) (off := 1414) (tgt := 1447) hK dL_law_33 e (by decide) (by decide) (by decide) rfl (by decide) (lw_c38 hJ hL hi hs k)
    | 39, _, e => exact r_tabIn (c := 39) (off := 1427) (tgt := 1460) hK dL_law_33 e (by decide) (by decide) (by decide) rfl (by decide) (lw_c39 hJ hL hi hs k)
    | 40, _, e => exact r_tabIn (c := 40) (off := 1450) (tgt := 1483) hK dL_law_33 e (by decide) (by decide) (by decide) rfl (by decide) (lw_c40 hJ hL hi hs k)
    | n + 41, h, _ => exact absurd h (by omega)
  · exact r_tabOut (tgt := 1506) (N := 41) hK dL_law_33 rfl (by decide) (fun c hc e => h ⟨c, hc, e⟩) (by decide) (k s jc jm hs)
theorem lw_loop (hJ : KLw l room_1 cL_law RL 4 g sc L xs J) (hL : L ≤ 3072) (hEnd : ∀ (ws : va_W) (lv : List (Nat × Value)), J ws lv 1512 []) : ∀ (f i : Nat) (s : KS) (jc : CJ) (jm : MJ), i ≤ 3078 → L ≤ i + f → kOk s → J (clsA g a aK aL aT s jc ++ modA g b s jm) [(0, .ref sc), (1, .ref (a 0)), (2, .ref (b 0)), (3, .int (nI i))] 18 [] := by
  have hK := hJ.ko
  intro f
  induction f with
  | zero =>
    intro i s jc jm h1 h2 hs
    refine k_iload_n hK dL_law_18 3 rfl ?_
    refine k_aload_n hK dL_law_19 0 rfl ?_
    refine l_slen hJ dL_law_20 ?_
    refine k_bipush (v := nI 6) hK dL_law_21 (by decide) ?_
    refine k_isub hK dL_law_23 ?_
    refine k_icmp_gt (tgt := 1512) hK dL_law_24 (by decide) (fun _ => hEnd _ _) (fun h => absurd ?_ h)
    by_cases h6 : L < 6
    · exact l_low h6 (by omega)
    · rw [pk_sub (by omega)]
      exact nI_lt (by omega) (by omega)
  | succ f ih =>
    intro i s jc jm h1 h2 hs
    refine k_iload_n hK dL_law_18 3 rfl ?_
    refine k_aload_n hK dL_law_19 0 rfl ?_
    refine l_slen hJ dL_law_20 ?_
    refine k_bipush (v := nI 6) hK dL_law_21 (by decide) ?_
    refine k_isub hK dL_law_23 ?_
    refine k_icmp_gt (tgt := 1512) hK dL_law_24 (by decide) (fun _ => hEnd _ _) (fun h => ?_)
    have h6 : i + 6 ≤ L := by
      refine Nat.not_lt.mp (fun q => h ?_)
      by_cases h6 : L < 6
      · exact l_low h6 (by omega)
      · rw [pk_sub (by omega)]
        exact nI_lt (by omega) (by omega)
    refine lw_sw hJ hL h6 hs (fun s2 jc2 jm2 hs2 => ?_)
    refine n_iinc (b := 6) (lv1 := [(0, .ref sc), (1, .ref (a 0)), (2, .ref (b 0)), (3, .int (nI (i + 6)))]) hK dL_law_1506 3 rfl (by decide) (by decide) [1, 2, 3, 0] rfl ?_
    refine k_goto (tgt := 18) hK dL_law_1509 (by decide) ?_
    exact ih (i + 6) s2 jc2 jm2 (by omega) (by omega) hs2
end LS
