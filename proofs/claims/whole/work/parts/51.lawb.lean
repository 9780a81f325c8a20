section LA
variable {l : Launch} {g : KG} {sc L i : Nat} {xs : Nat → Int32} {J : KT} {a aK aL aT b : Nat → Nat} {s : KS} {jc : CJ} {jm : MJ}
set_option maxHeartbeats 4000000 in
set_option maxRecDepth 100000 in
theorem lw_c14 (hJ : KLw l room_1 cL_law RL 4 g sc L xs J) (hL : L ≤ 3072) (hi : i + 6 ≤ L) (hs : kOk s) (k : ∀ (s2 : KS) (jc : CJ) (jm : MJ), kOk s2 → J (clsA g a aK aL aT s2 jc ++ modA g b s2 jm) [(0, .ref sc), (1, .ref (a 0)), (2, .ref (b 0)), (3, .int (nI i))] 1506 []) : J (clsA g a aK aL aT s jc ++ modA g b s jm) [(0, .ref sc), (1, .ref (a 0)), (2, .ref (b 0)), (3, .int (nI i))] 694 [] := by
  have hK := hJ.ko
  refine k_aload_n hK dL_law_694 1 rfl ?_
  refine k_aload_n hK dL_law_695 0 rfl ?_
  refine k_iload_n hK dL_law_696 3 rfl ?_
  refine k_iconst (v := nI 1) hK dL_law_697 (by decide) ?_
  refine n_iadd hK dL_law_698 ?_
  refine l_sld hJ dL_law_699 hL (by omega) ?_
  refine l_cls hK (cp_hours l g a aK aL aT jc s hs (xs (i + 1))) mv_X3_hours ml_L_72 rfl ⟨rfl, rfl, Nat.le_of_ble_eq_true rfl, Nat.le_of_ble_eq_true rfl⟩ rfl rfl (by decide) dL_law_700 (fun r jc2 hr => ?_)
  refine k_aload_n hK dL_law_703 2 rfl ?_
  refine k_aload_n hK dL_law_704 0 rfl ?_
  refine k_iload_n hK dL_law_705 3 rfl ?_
  refine k_iconst (v := nI 1) hK dL_law_706 (by decide) ?_
  refine n_iadd hK dL_law_707 ?_
  refine l_sld hJ dL_law_708 hL (by omega) ?_
  refine l_mod hK (mp_hours l g b jm s hs (xs (i + 1))) mv_X4_hours ml_L_75 rfl ⟨rfl, rfl, Nat.le_of_ble_eq_true rfl, Nat.le_of_ble_eq_true rfl⟩ rfl rfl (Nat.le_of_ble_eq_true rfl) dL_law_709 (fun r2 jm2 hr2 => ?_)
  exact k_icmp_eq (tgt := 1506) hK dL_law_712 (by decide) (fun _ => k _ _ _ (ok_hours hs (xs (i + 1)))) (fun h => absurd (hr.trans hr2.symm) h)
set_option maxHeartbeats 4000000 in
set_option maxRecDepth 100000 in
theorem lw_c15 (hJ : KLw l room_1 cL_law RL 4 g sc L xs J) (hL : L ≤ 3072) (hi : i + 6 ≤ L) (hs : kOk s) (k : ∀ (s2 : KS) (jc : CJ) (jm : MJ), kOk s2 → J (clsA g a aK aL aT s2 jc ++ modA g b s2 jm) [(0, .ref sc), (1, .ref (a 0)), (2, .ref (b 0)), (3, .int (nI i))] 1506 []) : J (clsA g a aK aL aT s jc ++ modA g b s jm) [(0, .ref sc), (1, .ref (a 0)), (2, .ref (b 0)), (3, .int (nI i))] 717 [] := by
  have hK := hJ.ko
  refine k_aload_n hK dL_law_717 1 rfl ?_
  refine k_aload_n hK dL_law_718 0 rfl ?_
  refine k_iload_n hK dL_law_719 3 rfl ?_
  refine k_iconst (v := nI 1) hK dL_law_720 (by decide) ?_
  refine n_iadd hK dL_law_721 ?_
  refine l_sld hJ dL_law_722 hL (by omega) ?_
  refine l_cls hK (cp_now l g a aK aL aT jc s hs (xs (i + 1))) mv_X3_now ml_L_76 rfl ⟨rfl, rfl, Nat.le_of_ble_eq_true rfl, Nat.le_of_ble_eq_true rfl⟩ rfl rfl (by decide) dL_law_723 (fun r jc2 hr => ?_)
  refine k_aload_n hK dL_law_726 2 rfl ?_
  refine k_aload_n hK dL_law_727 0 rfl ?_
  refine k_iload_n hK dL_law_728 3 rfl ?_
  refine k_iconst (v := nI 1) hK dL_law_729 (by decide) ?_
  refine n_iadd hK dL_law_730 ?_
  refine l_sld hJ dL_law_731 hL (by omega) ?_
  refine l_mod hK (mp_now l g b jm s hs (xs (i + 1))) mv_X4_now ml_L_79 rfl ⟨rfl, rfl, Nat.le_of_ble_eq_true rfl, Nat.le_of_ble_eq_true rfl⟩ rfl rfl (Nat.le_of_ble_eq_true rfl) dL_law_732 (fun r2 jm2 hr2 => ?_)
  exact k_icmp_eq (tgt := 1506) hK dL_law_735 (by decide) (fun _ => k _ _ _ (ok_now hs (xs (i + 1)))) (fun h => absurd (hr.trans hr2.symm) h)
set_option maxHeartbeats 4000000 in
set_option maxRecDepth 100000 in
theorem lw_c16 (hJ : KLw l room_1 cL_law RL 4 g sc L xs J) (hL : L ≤ 3072) (hi : i + 6 ≤ L) (hs : kOk s) (k : ∀ (s2 : KS) (jc : CJ) (jm : MJ), kOk s2 → J (clsA g a aK aL aT s2 jc ++ modA g b s2 jm) [(0, .ref sc), (1, .ref (a 0)), (2, .ref (b 0)), (3, .int (nI i))] 1506 []) : J (clsA g a aK aL aT s jc ++ modA g b s jm) [(0, .ref sc), (1, .ref (a 0)), (2, .ref (b 0)), (3, .int (nI i))] 740 [] := by
  have hK := hJ.ko
  refine k_aload_n hK dL_law_740 1 rfl ?_
  refine k_aload_n hK dL_law_741 0 rfl ?_
  refine k_iload_n hK dL_law_742 3 rfl ?_
  refine k_iconst (v := nI 1) hK dL_law_743 (by decide) ?_
  refine n_iadd hK dL_law_744 ?_
  refine l_sld hJ dL_law_745 hL (by omega) ?_
  refine k_aload_n hK dL_law_746 0 rfl ?_
  refine k_iload_n hK dL_law_747 3 rfl ?_
  refine k_iconst (v := nI 2) hK dL_law_748 (by decide) ?_
  refine n_iadd hK dL_law_749 ?_
  refine l_sld hJ dL_law_750 hL (by omega) ?_
  refine k_aload_n hK dL_law_751 0 rfl ?_
  refine k_iload_n hK dL_law_752 3 rfl ?_
  refine k_iconst (v := nI 3) hK dL_law_753 (by decide) ?_
  refine n_iadd hK dL_law_754 ?_
  refine l_sld hJ dL_law_755 hL (by omega) ?_
  refine l_cls hK (cp_on l g a aK aL aT jc s hs (xs (i + 1)) (xs (i + 2)) (xs (i + 3))) mv_X3_on ml_L_80 rfl ⟨rfl, rfl, Nat.le_of_ble_eq_true rfl, Nat.le_of_ble_eq_true rfl⟩ rfl rfl (by decide) dL_law_756 (fun r jc2 hr => ?_)
  refine k_aload_n hK dL_law_759 2 rfl ?_
  refine k_aload_n hK dL_law_760 0 rfl ?_
  refine k_iload_n hK dL_law_761 3 rfl ?_
  refine k_iconst (v := nI 1) hK dL_law_762 (by decide) ?_
  refine n_iadd hK dL_law_763 ?_
  refine l_sld hJ dL_law_764 hL (by omega) ?_
  refine k_aload_n hK dL_law_765 0 rfl ?_
  refine k_iload_n hK dL_law_766 3 rfl ?_
  refine k_iconst (v := nI 2) hK dL_law_767 (by decide) ?_
  refine n_iadd hK dL_law_768 ?_
  refine l_sld hJ dL_law_769 hL (by omega) ?_
  refine k_aload_n hK dL_law_770 0 rfl ?_
  refine k_iload_n hK dL_law_771 3 rfl ?_
  refine k_iconst (v := nI 3) hK dL_law_772 (by decide) ?_
  refine n_iadd hK dL_law_773 ?_
  refine l_sld hJ dL_law_774 hL (by omega) ?_
  refine l_mod hK (mp_on l g b jm s hs (xs (i + 1)) (xs (i + 2)) (xs (i + 3))) mv_X4_on ml_L_83 rfl ⟨rfl, rfl, Nat.le_of_ble_eq_true rfl, Nat.le_of_ble_eq_true rfl⟩ rfl rfl (Nat.le_of_ble_eq_true rfl) dL_law_775 (fun r2 jm2 hr2 => ?_)
  exact k_icmp_eq (tgt := 1506) hK dL_law_778 (by decide) (fun _ => k _ _ _ (ok_on hs (xs (i + 1)) (xs (i + 2)) (xs (i + 3)))) (fun h => absurd (hr.trans hr2.symm) h)
set_option maxHeartbeats 4000000 in
set_option maxRecDepth 100000 in
theorem lw_c17 (hJ : KLw l room_1 cL_law RL 4 g sc L xs J) (hL : L ≤ 3072) (hi : i + 6 ≤ L) (hs : kOk s) (k : ∀ (s2 : KS) (jc : CJ) (jm : MJ), kOk s2 → J (clsA g a aK aL aT s2 jc ++ modA g b s2 jm) [(0, .ref sc), (1, .ref (a 0)), (2, .ref (b 0)), (3, .int (nI i))] 1506 []) : J (clsA g a aK aL aT s jc ++ modA g b s jm) [(0, .ref sc), (1, .ref (a 0)), (2, .ref (b 0)), (3, .int (nI i))] 783 [] := by
  have hK := hJ.ko
  refine k_aload_n hK dL_law_783 1 rfl ?_
  refine k_aload_n hK dL_law_784 0 rfl ?_
  refine k_iload_n hK dL_law_785 3 rfl ?_
  refine k_iconst (v := nI 1) hK dL_law_786 (by decide) ?_
  refine n_iadd hK dL_law_787 ?_
  refine l_sld hJ dL_law_788 hL (by omega) ?_
  refine l_cls hK (cp_clean l g a aK aL aT jc s hs (xs (i + 1))) mv_X3_clean ml_L_84 rfl ⟨rfl, rfl, Nat.le_of_ble_eq_true rfl, Nat.le_of_ble_eq_true rfl⟩ rfl rfl (by decide) dL_law_789 (fun r jc2 hr => ?_)
  refine k_aload_n hK dL_law_792 2 rfl ?_
  refine k_aload_n hK dL_law_793 0 rfl ?_
  refine k_iload_n hK dL_law_794 3 rfl ?_
  refine k_iconst (v := nI 1) hK dL_law_795 (by decide) ?_
  refine n_iadd hK dL_law_796 ?_
  refine l_sld hJ dL_law_797 hL (by omega) ?_
  refine l_mod hK (mp_clean l g b jm s hs (xs (i + 1))) mv_X4_clean ml_L_87 rfl ⟨rfl, rfl, Nat.le_of_ble_eq_true rfl, Nat.le_of_ble_eq_true rfl⟩ rfl rfl (Nat.le_of_ble_eq_true rfl) dL_law_798 (fun r2 jm2 hr2 => ?_)
  exact k_icmp_eq (tgt := 1506) hK dL_law_801 (by decide) (fun _ => k _ _ _ (ok_clean hs (xs (i + 1)))) (fun h => absurd (hr.trans hr2.symm) h)
set_option maxHeartbeats 4000000 in
set_option maxRecDepth 100000 in
theorem lw_c18 (hJ : KLw l room_1 cL_law RL 4 g sc L xs J) (hL : L ≤ 3072) (hi : i + 6 ≤ L) (hs : kOk s) (k : ∀ (s2 : KS) (jc : CJ) (jm : MJ), kOk s2 → J (clsA g a aK aL aT s2 jc ++ modA g b s2 jm) [(0, .ref sc), (1, .ref (a 0)), (2, .ref (b 0)), (3, .int (nI i))] 1506 []) : J (clsA g a aK aL aT s jc ++ modA g b s jm) [(0, .ref sc), (1, .ref (a 0)), (2, .ref (b 0)), (3, .int (nI i))] 806 [] := by
  have hK := hJ.ko
  refine k_aload_n hK dL_law_806 1 rfl ?_
  refine k_aload_n hK dL_law_807 0 rfl ?_
  refine k_iload_n hK dL_law_808 3 rfl ?_
  refine k_iconst (v := nI 1) hK dL_law_809 (by decide) ?_
  refine n_iadd hK dL_law_810 ?_
  refine l_sld hJ dL_law_811 hL (by omega) ?_
  refine l_cls hK (cp_wind l g a aK aL aT jc s hs (xs (i + 1))) mv_X3_wind ml_L_88 rfl ⟨rfl, rfl, Nat.le_of_ble_eq_true rfl, Nat.le_of_ble_eq_true rfl⟩ rfl rfl (by decide) dL_law_812 (fun r jc2 hr => ?_)
  refine k_aload_n hK dL_law_815 2 rfl ?_
  refine k_aload_n hK dL_law_816 0 rfl ?_
  refine k_iload_n hK dL_law_817 3 rfl ?_
  refine k_iconst (v := nI 1) hK dL_law_818 (by decide) ?_
  refine n_iadd hK dL_law_819 ?_
  refine l_sld hJ dL_law_820 hL (by omega) ?_
  refine l_mod hK (mp_wind l g b jm s hs (xs (i + 1))) mv_X4_wind ml_L_91 rfl ⟨rfl, rfl, Nat.le_of_ble_eq_true rfl, Nat.le_of_ble_eq_true rfl⟩ rfl rfl (Nat.le_of_ble_eq_true rfl) dL_law_821 (fun r2 jm2 hr2 => ?_)
  exact k_icmp_eq (tgt := 1506) hK dL_law_824 (by decide) (fun _ => k _ _ _ (ok_wind hs (xs (i + 1)))) (fun h => absurd (hr.trans hr2.symm) h)
set_option maxHeartbeats 4000000 in
set_option maxRecDepth 100000 in
theorem lw_c19 (hJ : KLw l room_1 cL_law RL 4 g sc L xs J) (hL : L ≤ 3072) (hi : i + 6 ≤ L) (hs : kOk s) (k : ∀ (s2 : KS) (jc : CJ) (jm : MJ), kOk s2 → J (clsA g a aK aL aT s2 jc ++ modA g b s2 jm) [(0, .ref sc), (1, .ref (a 0)), (2, .ref (b 0)), (3, .int (nI i))] 1506 []) : J (clsA g a aK aL aT s jc ++ modA g b s jm) [(0, .ref sc), (1, .ref (a 0)), (2, .ref (b 0)), (3, .int (nI i))] 829 [] := by
  have hK := hJ.ko
  refine k_aload_n hK dL_law_829 1 rfl ?_
  refine k_aload_n hK dL_law_830 0 rfl ?_
  refine k_iload_n hK dL_law_831 3 rfl ?_
  refine k_iconst (v := nI 1) hK dL_law_832 (by decide) ?_
  refine n_iadd hK dL_law_833 ?_
  refine l_sld hJ dL_law_834 hL (by omega) ?_
  refine l_cls hK (cp_seat l g a aK aL aT jc s hs (xs (i + 1))) mv_X3_seat ml_L_92 rfl ⟨rfl, rfl, Nat.le_of_ble_eq_true rfl, Nat.le_of_ble_eq_true rfl⟩ rfl rfl (by decide) dL_law_835 (fun r jc2 hr => ?_)
  refine k_aload_n hK dL_law_838 2 rfl ?_
  refine k_aload_n hK dL_law_839 0 rfl ?_
  refine k_iload_n hK dL_law_840 3 rfl ?_
  refine k_iconst (v := nI 1) hK dL_law_841 (by decide) ?_
  refine n_iadd hK dL_law_842 ?_
  refine l_sld hJ dL_law_843 hL (by omega) ?_
  refine l_mod hK (mp_seat l g b jm s hs (xs (i + 1))) mv_X4_seat ml_L_95 rfl ⟨rfl, rfl, Nat.le_of_ble_eq_true rfl, Nat.le_of_ble_eq_true rfl⟩ rfl rfl (Nat.le_of_ble_eq_true rfl) dL_law_844 (fun r2 jm2 hr2 => ?_)
  exact k_icmp_eq (tgt := 1506) hK dL_law_847 (by decide) (fun _ => k _ _ _ (ok_seat hs (xs (i + 1)))) (fun h => absurd (hr.trans hr2.symm) h)
set_option maxHeartbeats 4000000 in
set_option maxRecDepth 100000 in
theorem lw_c20 (hJ : KLw l room_1 cL_law RL 4 g sc L xs J) (hL : L ≤ 3072) (hi : i + 6 ≤ L) (hs : kOk s) (k : ∀ (s2 : KS) (jc : CJ) (jm : MJ), kOk s2 → J (clsA g a aK aL aT s2 jc ++ modA g b s2 jm) [(0, .ref sc), (1, .ref (a 0)), (2, .ref (b 0)), (3, .int (nI i))] 1506 []) : J (clsA g a aK aL aT s jc ++ modA g b s jm) [(0, .ref sc), (1, .ref (a 0)), (2, .ref (b 0)), (3, .int (nI i))] 852 [] := by
  have hK := hJ.ko
  refine k_aload_n hK dL_law_852 1 rfl ?_
  refine k_aload_n hK dL_law_853 0 rfl ?_
  refine k_iload_n hK dL_law_854 3 rfl ?_
  refine k_iconst (v := nI 1) hK dL_law_855 (by decide) ?_
  refine n_iadd hK dL_law_856 ?_
  refine l_sld hJ dL_law_857 hL (by omega) ?_
  refine l_cls hK (cp_bath l g a aK aL aT jc s hs (xs (i + 1))) mv_X3_bath ml_L_96 rfl ⟨rfl, rfl, Nat.le_of_ble_eq_true rfl, Nat.le_of_ble_eq_true rfl⟩ rfl rfl (by decide) dL_law_858 (fun r jc2 hr => ?_)
  refine k_aload_n hK dL_law_861 2 rfl ?_
  refine k_aload_n hK dL_law_862 0 rfl ?_
  refine k_iload_n hK dL_law_863 3 rfl ?_
  refine k_iconst (v := nI 1) hK dL_law_864 (by decide) ?_
  refine n_iadd hK dL_law_865 ?_
  refine l_sld hJ dL_law_866 hL (by omega) ?_
  refine l_mod hK (mp_bath l g b jm s hs (xs (i + 1))) mv_X4_bath ml_L_99 rfl ⟨rfl, rfl, Nat.le_of_ble_eq_true rfl, Nat.le_of_ble_eq_true rfl⟩ rfl rfl (Nat.le_of_ble_eq_true rfl) dL_law_867 (fun r2 jm2 hr2 => ?_)
  exact k_icmp_eq (tgt := 1506) hK dL_law_870 (by decide) (fun _ => k _ _ _ (ok_bath hs (xs (i + 1)))) (fun h => absurd (hr.trans hr2.symm) h)
set_option maxHeartbeats 4000000 in
set_option maxRecDepth 100000 in
theorem lw_c21 (hJ : KLw l room_1 cL_law RL 4 g sc L xs J) (hL : L ≤ 3072) (hi : i + 6 ≤ L) (hs : kOk s) (k : ∀ (s2 : KS) (jc : CJ) (jm : MJ), kOk s2 → J (clsA g a aK aL aT s2 jc ++ modA g b s2 jm) [(0, .ref sc), (1, .ref (a 0)), (2, .ref (b 0)), (3, .int (nI i))] 1506 []) : J (clsA g a aK aL aT s jc ++ modA g b s jm) [(0, .ref sc), (1, .ref (a 0)), (2, .ref (b 0)), (3, .int (nI i))] 875 [] := by
  have hK := hJ.ko
  refine k_aload_n hK dL_law_875 1 rfl ?_
  refine k_aload_n hK dL_law_876 0 rfl ?_
  refine k_iload_n hK dL_law_877 3 rfl ?_
  refine k_iconst (v := nI 1) hK dL_law_878 (by decide) ?_
  refine n_iadd hK dL_law_879 ?_
  refine l_sld hJ dL_law_880 hL (by omega) ?_
  refine l_cls hK (cp_kind l g a aK aL aT jc s hs (xs (i + 1))) mv_X3_kind ml_L_100 rfl ⟨rfl, rfl, Nat.le_of_ble_eq_true rfl, Nat.le_of_ble_eq_true rfl⟩ rfl rfl (by decide) dL_law_881 (fun r jc2 hr => ?_)
  refine k_aload_n hK dL_law_884 2 rfl ?_
  refine k_aload_n hK dL_law_885 0 rfl ?_
  refine k_iload_n hK dL_law_886 3 rfl ?_
  refine k_iconst (v := nI 1) hK dL_law_887 (by decide) ?_
  refine n_iadd hK dL_law_888 ?_
  refine l_sld hJ dL_law_889 hL (by omega) ?_
  refine l_mod hK (mp_kind l g b jm s hs (xs (i + 1))) mv_X4_kind ml_L_103 rfl ⟨rfl, rfl, Nat.le_of_ble_eq_true rfl, Nat.le_of_ble_eq_true rfl⟩ rfl rfl (Nat.le_of_ble_eq_true rfl) dL_law_890 (fun r2 jm2 hr2 => ?_)
  exact k_icmp_eq (tgt := 1506) hK dL_law_893 (by decide) (fun _ => k _ _ _ (ok_kind hs (xs (i + 1)))) (fun h => absurd (hr.trans hr2.symm) h)
set_option maxHeartbeats 4000000 in
set_option maxRecDepth 100000 in
theorem lw_c22 (hJ : KLw l room_1 cL_law RL 4 g sc L xs J) (hL : L ≤ 3072) (hi : i + 6 ≤ L) (hs : kOk s) (k : ∀ (s2 : KS) (jc : CJ) (jm : MJ), kOk s2 → J (clsA g a aK aL aT s2 jc ++ modA g b s2 jm) [(0, .ref sc), (1, .ref (a 0)), (2, .ref (b 0)), (3, .int (nI i))] 1506 []) : J (clsA g a aK aL aT s jc ++ modA g b s jm) [(0, .ref sc), (1, .ref (a 0)), (2, .ref (b 0)), (3, .int (nI i))] 898 [] := by
  have hK := hJ.ko
  refine k_aload_n hK dL_law_898 1 rfl ?_
  refine k_aload_n hK dL_law_899 0 rfl ?_
  refine k_iload_n hK dL_law_900 3 rfl ?_
  refine k_iconst (v := nI 1) hK dL_law_901 (by decide) ?_
  refine n_iadd hK dL_law_902 ?_
  refine l_sld hJ dL_law_903 hL (by omega) ?_
  refine l_cls hK (cp_due l g a aK aL aT jc s hs (xs (i + 1))) mv_X3_due ml_L_104 rfl ⟨rfl, rfl, Nat.le_of_ble_eq_true rfl, Nat.le_of_ble_eq_true rfl⟩ rfl rfl (by decide) dL_law_904 (fun r jc2 hr => ?_)
  refine k_aload_n hK dL_law_907 2 rfl ?_
  refine k_aload_n hK dL_law_908 0 rfl ?_
  refine k_iload_n hK dL_law_909 3 rfl ?_
  refine k_iconst (v := nI 1) hK dL_law_910 (by decide) ?_
  refine n_iadd hK dL_law_911 ?_
  refine l_sld hJ dL_law_912 hL (by omega) ?_
  refine l_mod hK (mp_due l g b jm s hs (xs (i + 1))) mv_X4_due ml_L_107 rfl ⟨rfl, rfl, Nat.le_of_ble_eq_true rfl, Nat.le_of_ble_eq_true rfl⟩ rfl rfl (Nat.le_of_ble_eq_true rfl) dL_law_913 (fun r2 jm2 hr2 => ?_)
  exact k_icmp_eq (tgt := 1506) hK dL_law_916 (by decide) (fun _ => k _ _ _ (ok_due hs (xs (i + 1)))) (fun h => absurd (hr.trans hr2.symm) h)
set_option maxHeartbeats 4000000 in
set_option maxRecDepth 100000 in
theorem lw_c23 (hJ : KLw l room_1 cL_law RL 4 g sc L xs J) (hL : L ≤ 3072) (hi : i + 6 ≤ L) (hs : kOk s) (k : ∀ (s2 : KS) (jc : CJ) (jm : MJ), kOk s2 → J (clsA g a aK aL aT s2 jc ++ modA g b s2 jm) [(0, .ref sc), (1, .ref (a 0)), (2, .ref (b 0)), (3, .int (nI i))] 1506 []) : J (clsA g a aK aL aT s jc ++ modA g b s jm) [(0, .ref sc), (1, .ref (a 0)), (2, .ref (b 0)), (3, .int (nI i))] 921 [] := by
  have hK := hJ.ko
  refine k_aload_n hK dL_law_921 1 rfl ?_
  refine k_aload_n hK dL_law_922 0 rfl ?_
  refine k_iload_n hK dL_law_923 3 rfl ?_
  refine k_iconst (v := nI 1) hK dL_law_924 (by decide) ?_
  refine n_iadd hK dL_law_925 ?_
  refine l_sld hJ dL_law_926 hL (by omega) ?_
  refine k_aload_n hK dL_law_927 0 rfl ?_
  refine k_iload_n hK dL_law_928 3 rfl ?_
  refine k_iconst (v := nI 2) hK dL_law_929 (by decide) ?_
  refine n_iadd hK dL_law_930 ?_
  refine l_sld hJ dL_law_931 hL (by omega) ?_
  refine l_cls hK (cp_jury l g a aK aL aT jc s hs (xs (i + 1)) (xs (i + 2))) mv_X3_jury ml_L_108 rfl ⟨rfl, rfl, Nat.le_of_ble_eq_true rfl, Nat.le_of_ble_eq_true rfl⟩ rfl rfl (by decide) dL_law_932 (fun r jc2 hr => ?_)
  refine k_aload_n hK dL_law_935 2 rfl ?_
  refine k_aload_n hK dL_law_936 0 rfl ?_
  refine k_iload_n hK dL_law_937 3 rfl ?_
  refine k_iconst (v := nI 1) hK dL_law_938 (by decide) ?_
  refine n_iadd hK dL_law_939 ?_
  refine l_sld hJ dL_law_940 hL (by omega) ?_
  refine k_aload_n hK dL_law_941 0 rfl ?_
  refine k_iload_n hK dL_law_942 3 rfl ?_
  refine k_iconst (v := nI 2) hK dL_law_943 (by decide) ?_
  refine n_iadd hK dL_law_944 ?_
  refine l_sld hJ dL_law_945 hL (by omega) ?_
  refine l_mod hK (mp_jury l g b jm s hs (xs (i + 1)) (xs (i + 2))) mv_X4_jury ml_L_111 rfl ⟨rfl, rfl, Nat.le_of_ble_eq_true rfl, Nat.le_of_ble_eq_true rfl⟩ rfl rfl (Nat.le_of_ble_eq_true rfl) dL_law_946 (fun r2 jm2 hr2 => ?_)
  exact k_icmp_eq (tgt := 1506) hK dL_law_949 (by decide) (fun _ => k _ _ _ (ok_jury hs (xs (i + 1)) (xs (i + 2)))) (fun h => absurd (hr.trans hr2.symm) h)
set_option maxHeartbeats 4000000 in
set_option maxRecDepth 100000 in
theorem lw_c24 (hJ : KLw l room_1 cL_law RL 4 g sc L xs J) (hL : L ≤ 3072) (hi : i + 6 ≤ L) (hs : kOk s) (k : ∀ (s2 : KS) (jc : CJ) (jm : MJ), kOk s2 → J (clsA g a aK aL aT s2 jc ++ modA g b s2 jm) [(0, .ref sc), (1, .ref (a 0)), (2, .ref (b 0)), (3, .int (nI i))] 1506 []) : J (clsA g a aK aL aT s jc ++ modA g b s jm) [(0, .ref sc), (1, .ref (a 0)), (2, .ref (b 0)), (3, .int (nI i))] 954 [] := by
  have hK := hJ.ko
  refine k_aload_n hK dL_law_954 1 rfl ?_
  refine k_aload_n hK dL_law_955 0 rfl ?_
  refine k_iload_n hK dL_law_956 3 rfl ?_
  refine k_iconst (v := nI 1) hK dL_law_957 (by decide) ?_
  refine n_iadd hK dL_law_958 ?_
  refine l_sld hJ dL_law_959 hL (by omega) ?_
  refine k_aload_n hK dL_law_960 0 rfl ?_
  refine k_iload_n hK dL_law_961 3 rfl ?_
  refine k_iconst (v := nI 2) hK dL_law_962 (by decide) ?_
  refine n_iadd hK dL_law_963 ?_
  refine l_sld hJ dL_law_964 hL (by omega) ?_
  refine l_cls hK (cp_juries l g a aK aL aT jc s hs (xs (i + 1)) (xs (i + 2))) mv_X3_juries ml_L_112 rfl ⟨rfl, rfl, Nat.le_of_ble_eq_true rfl, Nat.le_of_ble_eq_true rfl⟩ rfl rfl (by decide) dL_law_965 (fun r jc2 hr => ?_)
  refine k_aload_n hK dL_law_968 2 rfl ?_
  refine k_aload_n hK dL_law_969 0 rfl ?_
  refine k_iload_n hK dL_law_970 3 rfl ?_
  refine k_iconst (v := nI 1) hK dL_law_971 (by decide) ?_
  refine n_iadd hK dL_law_972 ?_
  refine l_sld hJ dL_law_973 hL (by omega) ?_
  refine k_aload_n hK dL_law_974 0 rfl ?_
  refine k_iload_n hK dL_law_975 3 rfl ?_
  refine k_iconst (v := nI 2) hK dL_law_976 (by decide) ?_
  refine n_iadd hK dL_law_977 ?_
  refine l_sld hJ dL_law_978 hL (by omega) ?_
  refine l_mod hK (mp_juries l g b jm s hs (xs (i + 1)) (xs (i + 2))) mv_X4_juries ml_L_115 rfl ⟨rfl, rfl, Nat.le_of_ble_eq_true rfl, Nat.le_of_ble_eq_true rfl⟩ rfl rfl (Nat.le_of_ble_eq_true rfl) dL_law_979 (fun r2 jm2 hr2 => ?_)
  exact k_icmp_eq (tgt := 1506) hK dL_law_982 (by decide) (fun _ => k _ _ _ (ok_juries hs (xs (i + 1)) (xs (i + 2)))) (fun h => absurd (hr.trans hr2.symm) h)
set_option maxHeartbeats 4000000 in
set_option maxRecDepth 100000 in
theorem lw_c25 (hJ : KLw l room_1 cL_law RL 4 g sc L xs J) (hL : L ≤ 3072) (hi : i + 6 ≤ L) (hs : kOk s) (k : ∀ (s2 : KS) (jc : CJ) (jm : MJ), kOk s2 → J (clsA g a aK aL aT s2 jc ++ modA g b s2 jm) [(0, .ref sc), (1, .ref (a 0)), (2, .ref (b 0)), (3, .int (nI i))] 1506 []) : J (clsA g a aK aL aT s jc ++ modA g b s jm) [(0, .ref sc), (1, .ref (a 0)), (2, .ref (b 0)), (3, .int (nI i))] 987 [] := by
  have hK := hJ.ko
  refine k_aload_n hK dL_law_987 1 rfl ?_
  refine k_aload_n hK dL_law_988 0 rfl ?_
  refine k_iload_n hK dL_law_989 3 rfl ?_
  refine k_iconst (v := nI 1) hK dL_law_990 (by decide) ?_
  refine n_iadd hK dL_law_991 ?_
  refine l_sld hJ dL_law_992 hL (by omega) ?_
  refine k_aload_n hK dL_law_993 0 rfl ?_
  refine k_iload_n hK dL_law_994 3 rfl ?_
  refine k_iconst (v := nI 2) hK dL_law_995 (by decide) ?_
  refine n_iadd hK dL_law_996 ?_
  refine l_sld hJ dL_law_997 hL (by omega) ?_
  refine l_cls hK (cp_from l g a aK aL aT jc s hs (xs (i + 1)) (xs (i + 2))) mv_X3_from ml_L_116 rfl ⟨rfl, rfl, Nat.le_of_ble_eq_true rfl, Nat.le_of_ble_eq_true rfl⟩ rfl rfl (by decide) dL_law_998 (fun r jc2 hr => ?_)
  refine k_aload_n hK dL_law_1001 2 rfl ?_
  refine k_aload_n hK dL_law_1002 0 rfl ?_
  refine k_iload_n hK dL_law_1003 3 rfl ?_
  refine k_iconst (v := nI 1) hK dL_law_1004 (by decide) ?_
  refine n_iadd hK dL_law_1005 ?_
  refine l_sld hJ dL_law_1006 hL (by omega) ?_
  refine k_aload_n hK dL_law_1007 0 rfl ?_
  refine k_iload_n hK dL_law_1008 3 rfl ?_
  refine k_iconst (v := nI 2) hK dL_law_1009 (by decide) ?_
  refine n_iadd hK dL_law_1010 ?_
  refine l_sld hJ dL_law_1011 hL (by omega) ?_
  refine l_mod hK (mp_from l g b jm s hs (xs (i + 1)) (xs (i + 2))) mv_X4_from ml_L_119 rfl ⟨rfl, rfl, Nat.le_of_ble_eq_true rfl, Nat.le_of_ble_eq_true rfl⟩ rfl rfl (Nat.le_of_ble_eq_true rfl) dL_law_1012 (fun r2 jm2 hr2 => ?_)
  exact k_icmp_eq (tgt := 1506) hK dL_law_1015 (by decide) (fun _ => k _ _ _ (ok_from hs (xs (i + 1)) (xs (i + 2)))) (fun h => absurd (hr.trans hr2.symm) h)
set_option maxHeartbeats 4000000 in
set_option maxRecDepth 100000 in
theorem lw_c26 (hJ : KLw l room_1 cL_law RL 4 g sc L xs J) (hL : L ≤ 3072) (hi : i + 6 ≤ L) (hs : kOk s) (k : ∀ (s2 : KS) (jc : CJ) (jm : MJ), kOk s2 → J (clsA g a aK aL aT s2 jc ++ modA g b s2 jm) [(0, .ref sc), (1, .ref (a 0)), (2, .ref (b 0)), (3, .int (nI i))] 1506 []) : J (clsA g a aK aL aT s jc ++ modA g b s jm) [(0, .ref sc), (1, .ref (a 0)), (2, .ref (b 0)), (3, .int (nI i))] 1020 [] := by
  have hK := hJ.ko
  refine k_aload_n hK dL_law_1020 1 rfl ?_
  refine k_aload_n hK dL_law_1021 0 rfl ?_
  refine k_iload_n hK dL_law_1022 3 rfl ?_
  refine k_iconst (v := nI 1) hK dL_law_1023 (by decide) ?_
  refine n_iadd hK dL_law_1024 ?_
  refine l_sld hJ dL_law_1025 hL (by omega) ?_
  refine k_aload_n hK dL_law_1026 0 rfl ?_
  refine k_iload_n hK dL_law_1027 3 rfl ?_
  refine k_iconst (v := nI 2) hK dL_law_1028 (by decide) ?_
  refine n_iadd hK dL_law_1029 ?_
  refine l_sld hJ dL_law_1030 hL (by omega) ?_
  refine l_cls hK (cp_nose l g a aK aL aT jc s hs (xs (i + 1)) (xs (i + 2))) mv_X3_nose ml_L_120 rfl ⟨rfl, rfl, Nat.le_of_ble_eq_true rfl, Nat.le_of_ble_eq_true rfl⟩ rfl rfl (by decide) dL_law_1031 (fun r jc2 hr => ?_)
  refine k_aload_n hK dL_law_1034 2 rfl ?_
  refine k_aload_n hK dL_law_1035 0 rfl ?_
  refine k_iload_n hK dL_law_1036 3 rfl ?_
  refine k_iconst (v := nI 1) hK dL_law_1037 (by decide) ?_
  refine n_iadd hK dL_law_1038 ?_
  refine l_sld hJ dL_law_1039 hL (by omega) ?_
  refine k_aload_n hK dL_law_1040 0 rfl ?_
  refine k_iload_n hK dL_law_1041 3 rfl ?_
  refine k_iconst (v := nI 2) hK dL_law_1042 (by decide) ?_
  refine n_iadd hK dL_law_1043 ?_
  refine l_sld hJ dL_law_1044 hL (by omega) ?_
  refine l_mod hK (mp_nose l g b jm s hs (xs (i + 1)) (xs (i + 2))) mv_X4_nose ml_L_123 rfl ⟨rfl, rfl, Nat.le_of_ble_eq_true rfl, Nat.le_of_ble_eq_true rfl⟩ rfl rfl (Nat.le_of_ble_eq_true rfl) dL_law_1045 (fun r2 jm2 hr2 => ?_)
  exact k_icmp_eq (tgt := 1506) hK dL_law_1048 (by decide) (fun _ => k _ _ _ (ok_nose hs (xs (i + 1)) (xs (i + 2)))) (fun h => absurd (hr.trans hr2.symm) h)
set_option maxHeartbeats 4000000 in
set_option maxRecDepth 100000 in
theorem lw_c27 (hJ : KLw l room_1 cL_law RL 4 g sc L xs J) (hL : L ≤ 3072) (hi : i + 6 ≤ L) (hs : kOk s) (k : ∀ (s2 : KS) (jc : CJ) (jm : MJ), kOk s2 → J (clsA g a aK aL aT s2 jc ++ modA g b s2 jm) [(0, .ref sc), (1, .ref (a 0)), (2, .ref (b 0)), (3, .int (nI i))] 1506 []) : J (clsA g a aK aL aT s jc ++ modA g b s jm) [(0, .ref sc), (1, .ref (a 0)), (2, .ref (b 0)), (3, .int (nI i))] 1053 [] := by
  have hK := hJ.ko
  refine k_aload_n hK dL_law_1053 1 rfl ?_
  refine k_aload_n hK dL_law_1054 0 rfl ?_
  refine k_iload_n hK dL_law_1055 3 rfl ?_
  refine k_iconst (v := nI 1) hK dL_law_1056 (by decide) ?_
  refine n_iadd hK dL_law_1057 ?_
  refine l_sld hJ dL_law_1058 hL (by omega) ?_
  refine k_aload_n hK dL_law_1059 0 rfl ?_
  refine k_iload_n hK dL_law_1060 3 rfl ?_
  refine k_iconst (v := nI 2) hK dL_law_1061 (by decide) ?_
  refine n_iadd hK dL_law_1062 ?_
  refine l_sld hJ dL_law_1063 hL (by omega) ?_
  refine l_cls hK (cp_feed l g a aK aL aT jc s hs (xs (i + 1)) (xs (i + 2))) mv_X3_feed ml_L_124 rfl ⟨rfl, rfl, Nat.le_of_ble_eq_true rfl, Nat.le_of_ble_eq_true rfl⟩ rfl rfl (by decide) dL_law_1064 (fun r jc2 hr => ?_)
  refine k_aload_n hK dL_law_1067 2 rfl ?_
  refine k_aload_n hK dL_law_1068 0 rfl ?_
  refine k_iload_n hK dL_law_1069 3 rfl ?_
  refine k_iconst (v := nI 1) hK dL_law_1070 (by decide) ?_
  refine n_iadd hK dL_law_1071 ?_
  refine l_sld hJ dL_law_1072 hL (by omega) ?_
  refine k_aload_n hK dL_law_1073 0 rfl ?_
  refine k_iload_n hK dL_law_1074 3 rfl ?_
  refine k_iconst (v := nI 2) hK dL_law_1075 (by decide) ?_
  refine n_iadd hK dL_law_1076 ?_
  refine l_sld hJ dL_law_1077 hL (by omega) ?_
  refine l_mod hK (mp_feed l g b jm s hs (xs (i + 1)) (xs (i + 2))) mv_X4_feed ml_L_127 rfl ⟨rfl, rfl, Nat.le_of_ble_eq_true rfl, Nat.le_of_ble_eq_true rfl⟩ rfl rfl (Nat.le_of_ble_eq_true rfl) dL_law_1078 (fun r2 jm2 hr2 => ?_)
  exact k_icmp_eq (tgt := 1506) hK dL_law_1081 (by decide) (fun _ => k _ _ _ (ok_feed hs (xs (i + 1)) (xs (i + 2)))) (fun h => absurd (hr.trans hr2.symm) h)
end LA
