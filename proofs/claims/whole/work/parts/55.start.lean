def kTm (i : Nat) : Term := .string RX2 (kStr.getD i (0, "")).1
abbrev lw_fl : List Cond := flatC (Jvm.Cond.and given_1 narrow_1)
theorem fs_ex : ∀ i, i < 12 → Cond.exactly (kTm i) "java/lang/String" ∈ lw_fl := by decide +kernel
theorem fs_co : ∀ i, i < 12 → Cond.eq (.field (kTm i) "java/lang/String" "coder" "B") (.int 0) ∈ lw_fl := by decide +kernel
theorem fs_ar : ∀ i, i < 12 → Cond.arrayOf (.field (kTm i) "java/lang/String" "value" "[B") .byte ∈ lw_fl := by decide +kernel
theorem fs_le : ∀ i, i < 12 → Cond.eq (.length (.field (kTm i) "java/lang/String" "value" "[B")) (.int (Int32.ofNat (kLen.getD i 0))) ∈ lw_fl := by decide +kernel
theorem fs_el : ∀ i, i < 12 → ∀ j, j < kLen.getD i 0 → Cond.eq (.elem (.field (kTm i) "java/lang/String" "value" "[B") (.int (Int32.ofNat j))) (.int ((kByt.getD i []).getD j 0)) ∈ lw_fl := by decide +kernel
theorem fs_ne : ∀ i, i < 12 → ∀ j, j < 12 → i ≠ j → Cond.not (Cond.eq (kTm i) (kTm j)) ∈ lw_fl ∨ Cond.not (Cond.eq (kTm j) (kTm i)) ∈ lw_fl := by decide +kernel
theorem fs_ln : ∀ i, i < 12 → kLen.getD i 0 < 2 ^ 31 := by decide +kernel
theorem arrOf_prim {t : FieldType} {args : Array Value} {s : State} (h : (Cond.arrayClass t).before args s = true) : ∃ cA, ArrOfT s cA t ∧ s.vm.findClass ("[" ++ t.toString) = some cA := by
  obtain ⟨cA, kA, comp, h1, h2, h3⟩ := Cond.arrayClass_spec (args := args) (first := s) (o := none) (s := s) (idx := []) h
  exact ⟨cA, fun n z => ⟨fun k q => (by cases q), kA, h2, comp, h3⟩, h1⟩
theorem kE2_start {s : State} {args : Array Value} (hts : ∀ w ∈ lw_tbl, w.before args s = true) (hg : (Jvm.Cond.and given_1 narrow_1).before args s = true) : ∃ g : KG, kE2 g (fun q => s.heap.size ≤ q) s := by
  have hfl := flat_of_before _ hg
  have hA : ∀ a : Nat, a < s.heap.size → ¬ (fun q : Nat => s.heap.size ≤ q) a := fun a h => Nat.not_le.mpr h
  obtain ⟨cX0, iX0, kX0⟩ := u_known (C := RX0) (T := TX0) (N := 10) (n := 10) hts li_X0 (hts _ (tl_1 _ (List.mem_of_getElem? (i := 22) rfl)))
  obtain ⟨cX1, iX1, kX1⟩ := u_known (C := RX1) (T := TX1) (N := 3) (n := 3) hts li_X1 (hts _ (tl_1 _ (List.mem_of_getElem? (i := 104) rfl)))
  obtain ⟨cX2, iX2, kX2⟩ := u_known (C := RX2) (T := TX2) (N := 6) (n := 6) hts li_X2 (hts _ (tl_1 _ (List.mem_of_getElem? (i := 77) rfl)))
  obtain ⟨cX3, iX3, kX3⟩ := u_known (C := RX3) (T := TX3) (N := 7) (n := 7) hts li_X3 (hts _ (tl_1 _ (List.mem_of_getElem? (i := 14) rfl)))
  obtain ⟨cX4, iX4, kX4⟩ := u_known (C := RX4) (T := TX4) (N := 19) (n := 19) hts li_X4 (hts _ (tl_3 _ (List.mem_of_getElem? (i := 151) rfl)))
  obtain ⟨cI, hI, nI_⟩ := arrOf_prim (hts _ (tl_1 _ (List.mem_of_getElem? (i := 75) rfl)))
  obtain ⟨cL, hL, nL_⟩ := arrOf_prim (hts _ (tl_1 _ (List.mem_of_getElem? (i := 122) rfl)))
  have hO : va_AOA .int s := va_AOA.of (hts _ (tl_1 _ (List.mem_of_getElem? (i := 28) rfl)))
  have hQ : va_AO RX1 s := va_AO.of (hts _ (tl_1 _ (List.mem_of_getElem? (i := 103) rfl)))
  obtain ⟨compO, cO, kO_, -, -, o3, o4, o5⟩ := hO.spec
  obtain ⟨compS, cS, kS_, s1, -, s3, s4, s5⟩ := Cond.arrayOver_spec hQ
  obtain ⟨adK, adV, hStr, hEv⟩ := vk_Sof (N := 12) (tm := kTm) (len := kLen) (byt := kByt) (A := fun q => s.heap.size ≤ q) (args := args) (s := s) fs_ln (fun i hi => hfl _ (fs_ex i hi)) (fun i hi => hfl _ (fs_co i hi)) (fun i hi => hfl _ (fs_ar i hi)) (fun i hi => hfl _ (fs_le i hi)) (fun i hi j hj => hfl _ (fs_el i hi j hj)) (fun i j hi hj e => (fs_ne i hi j hj e).imp (hfl _) (hfl _)) hA
  refine ⟨((fun c => [cX0, cX1, cX2, cX3, cX4].getD c cX0, fun c => [iX0, iX1, iX2, iX3, iX4].getD c iX0), (cI, cL, cO, cS), adK, adV), ⟨⟨fun c q hq => ?_, fun k q hq => ?_⟩, ?_, ?_, ?_, hStr, fun i q hq => ?_, ?_⟩, hQ, hO⟩
  · match c, hq with
    | 0, hq => cases hq; exact kX0
    | 1, hq => cases hq; exact kX1
    | 2, hq => cases hq; exact kX2
    | 3, hq => cases hq; exact kX3
    | 4, hq => cases hq; exact kX4
    | c + 5, hq => simp [vwCl] at hq
  · match k, hq with
    | 0, hq => cases hq; exact ⟨hI, nI_⟩
    | 1, hq => cases hq; exact ⟨hL, nL_⟩
    | 2, hq => cases hq; exact ⟨fun n z => ⟨fun k q => (by cases q), kO_, o3, compO, o4⟩, o5⟩
    | 3, hq => cases hq; exact ⟨fun n z => ⟨fun k q => (by cases q), kS_, s3, compS, s4⟩, kS_, compS, s3, s4, s1, s5⟩
    | k + 4, hq => simp [kty] at hq
  · exact va_Nw.of rfl (hts _ (tl_2 _ (List.mem_of_getElem? (i := 43) rfl)))
  · exact va_Nw.of rfl (hts _ (tl_2 _ (List.mem_of_getElem? (i := 79) rfl)))
  · exact va_Zof (hts _ (tl_2 _ (List.mem_of_getElem? (i := 227) rfl))) (hts _ (tl_1 _ (List.mem_of_getElem? (i := 9) rfl))) (va_eqt (hfl (Cond.eq (.static "java/lang/String" "COMPACT_STRINGS" "Z") (.int 1)) (by decide +kernel))) hA
  · match i, hq with
    | 0, hq => cases hq; exact vk_R.of (A := args) (hts _ (tl_2 _ (List.mem_of_getElem? (i := 213) rfl))) (hEv 0 (by decide))
    | 1, hq => cases hq; exact vk_R.of (A := args) (hts _ (tl_3 _ (List.mem_of_getElem? (i := 34) rfl))) (hEv 1 (by decide))
    | 2, hq => cases hq; exact vk_R.of (A := args) (hts _ (tl_3 _ (List.mem_of_getElem? (i := 56) rfl))) (hEv 2 (by decide))
    | 3, hq => cases hq; exact vk_R.of (A := args) (hts _ (tl_3 _ (List.mem_of_getElem? (i := 62) rfl))) (hEv 3 (by decide))
    | 4, hq => cases hq; exact vk_R.of (A := args) (hts _ (tl_3 _ (List.mem_of_getElem? (i := 67) rfl))) (hEv 4 (by decide))
    | 5, hq => cases hq; exact vk_R.of (A := args) (hts _ (tl_3 _ (List.mem_of_getElem? (i := 72) rfl))) (hEv 5 (by decide))
    | 6, hq => cases hq; exact vk_R.of (A := args) (hts _ (tl_3 _ (List.mem_of_getElem? (i := 50) rfl))) (hEv 6 (by decide))
    | 7, hq => cases hq; exact vk_R.of (A := args) (hts _ (tl_3 _ (List.mem_of_getElem? (i := 51) rfl))) (hEv 7 (by decide))
    | 8, hq => cases hq; exact vk_R.of (A := args) (hts _ (tl_3 _ (List.mem_of_getElem? (i := 52) rfl))) (hEv 8 (by decide))
    | 9, hq => cases hq; exact vk_R.of (A := args) (hts _ (tl_3 _ (List.mem_of_getElem? (i := 53) rfl))) (hEv 9 (by decide))
    | 10, hq => cases hq; exact vk_R.of (A := args) (hts _ (tl_3 _ (List.mem_of_getElem? (i := 54) rfl))) (hEv 10 (by decide))
    | 11, hq => cases hq; exact vk_R.of (A := args) (hts _ (tl_3 _ (List.mem_of_getElem? (i := 55) rfl))) (hEv 11 (by decide))
    | i + 12, hq => simp [kStr] at hq
  · exact va_Zqof (hts _ (tl_3 _ (List.mem_of_getElem? (i := 3) rfl))) (hts _ (tl_1 _ (List.mem_of_getElem? (i := 11) rfl))) (hfl _ (by decide +kernel)) hA
