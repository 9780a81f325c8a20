-- two words that the printed names use but do not define
def va_AOA (t : FieldType) (U : State) : Prop := (Cond.arrayOver (.array t)).before #[] U = true
theorem va_AOA.of {t : FieldType} {A : Array Value} {U : State} (h : (Cond.arrayOver (.array t)).before A U = true) : va_AOA t U := h
theorem va_AOA.use {t : FieldType} {A : Array Value} {U : State} (h : va_AOA t U) : (Cond.arrayOver (.array t)).before A U = true := h
/-! ===== BEGIN words of one list among another's, by their places ===== -/
theorem goodIn_r {big : List Cond} (ws : List Cond) (ps : List Nat) (hp : ws = ps.filterMap (fun i => big[i]?)) (h : ws.all goodWord = true) : GoodIn big ws := by
  intro w hw
  have h1 := List.all_eq_true.mp h w hw
  rw [hp] at hw
  obtain ⟨i, -, hi⟩ := List.mem_filterMap.mp hw
  have hm : w ∈ big := by first | exact List.mem_of_getElem? hi | exact List.getElem?_mem hi
  exact ⟨hm, good_of_word h1⟩
theorem goodIn_app {big a b : List Cond} (ha : GoodIn big a) (hb : GoodIn big b) : GoodIn big (a ++ b) := fun w h => (List.mem_append.mp h).elim (ha w) (hb w)
theorem goodIn_ca {big a b : List Cond} {c : Cond} (ha : GoodIn big (c :: a)) (hb : GoodIn big b) : GoodIn big (c :: (a ++ b)) := fun w h => (List.mem_cons.mp h).elim (fun e => ha w (List.mem_cons.mpr (Or.inl e))) (fun h => (List.mem_append.mp h).elim (fun h => ha w (List.mem_cons.mpr (Or.inr h))) (hb w))
theorem goodIn_sub {big ws : List Cond} (hm : ∀ w ∈ ws, w ∈ big) (h : ws.all goodWord = true) : GoodIn big ws := fun w hw => ⟨hm w hw, good_of_word (List.all_eq_true.mp h w hw)⟩
/-! ===== END ===== -/

/-! ===== BEGIN new T[n][m]: the outer array a place, the inner ones among the pooled ===== -/
/-- f, but v at every address of l -/
def vr_up {α : Type} (f : Nat → α) (l : List Nat) (v : α) : Nat → α := fun a => if a ∈ l then v else f a
theorem vr_up_in {α : Type} {f : Nat → α} {l : List Nat} {v : α} {a : Nat} (h : a ∈ l) : vr_up f l v a = v := if_pos h
theorem vr_up_ne {α : Type} {f : Nat → α} {l : List Nat} {v : α} {a : Nat} (h : a ∉ l) : vr_up f l v a = f a := if_neg h
theorem vr_rows {L l : List Nat} {f : Nat → va_E} {e : va_E} (h : ∀ a, a ∈ l → a ∉ L) : va_pl L f ++ l.map (fun a => (a, e)) = va_pl (L ++ l) (vr_up f l e) := by
  unfold va_pl
  rw [List.map_append]
  congr 1
  · apply List.map_congr_left
    intro a ha
    rw [vr_up_ne (fun q => h a q ha)]
  · apply List.map_congr_left
    intro a ha
    rw [vr_up_in ha]
theorem vr_lay {X rows : va_W} {x : Nat × va_E} {pl : va_W} {D : va_G} {cl : List vw_C} {H : Heap} (hP : va_P D cl (((X ++ pl) ++ [x]) ++ rows) H) : va_P D cl ((X ++ [x]) ++ (pl ++ rows)) H := by
  rw [List.append_assoc (X ++ pl)] at hP
  have h := va_P.swap hP
  rw [← List.append_assoc X] at h
  have h2 := va_P.swap h
  rw [List.append_assoc (X ++ [x])] at h2
  exact h2
theorem vr_layD {X rows : va_W} {x : Nat × va_E} {pl : va_W} {A : Nat → Prop} (hD : va_D A (((X ++ pl) ++ [x]) ++ rows)) : va_D A ((X ++ [x]) ++ (pl ++ rows)) := by
  rw [List.append_assoc (X ++ pl)] at hD
  have h := va_D.swap hD
  rw [← List.append_assoc X] at h
  have h2 := va_D.swap h
  rw [List.append_assoc (X ++ [x])] at h2
  exact h2
theorem vr_outer (c : ClassId) (N h0 : Nat) : ∀ i : Nat, Jvm.Free.Multi.outerC c N h0 i = arrV c N (fun j => va_rf (if j < i then some (h0 + 1 + j) else none))
  | 0 => by
    show ({ cls := c, slots := Array.replicate N .null, vm := .none } : Cell) = _
    rw [arrV_new]
    refine congrArg (arrV c N) (funext fun j => ?_)
    simp [va_rf]
  | i + 1 => by
    show (Jvm.Free.Multi.outerC c N h0 i).setSlot i (.ref (h0 + 1 + i)) = _
    rw [vr_outer c N h0 i, arrV_store]
    refine congrArg (arrV c N) (funext fun j => ?_)
    by_cases e : j = i
    · subst e
      simp [updV, va_rf]
    · by_cases h : j < i
      · simp [updV, e, h, Nat.lt_succ_of_lt h]
      · simp [updV, e, h, show ¬ j < i + 1 by omega]
section VGM
variable {p : Program} {l : Launch} {e : Env} {R : Room} {s : State} {m : MethodId} {args : Array Value} {below : List Frame} {meth : Method} {c : Code} {H : Heap} {locs : List Loc} {cells slots : Nat} {Q : State → Prop}
variable {cc : ByteArray} {pc : Nat} {ls : Array Slot} {rest : List Value} {D : va_G} {cl : List vw_C} {A : Nat → Prop} {a : Nat} {tys : List (ClassId × FieldType)} {ws : va_W} {H0 : Heap}
theorem va_mna {X : va_W} {L : List Nat} {f : Nat → va_E} {cc : ByteArray} (hexec : p.tables.exec = Jvm.exec) (hb : c.code = cc) {own : String} {index : Nat} {ty : FieldType} {cy : ClassId} (hown : s.vm.findClass own = some m.cls) (hclink : (Cond.classLink own index ("[" ++ (FieldType.array ty).toString)).before args s = true) (hover : va_AOA ty s) (harr : (Cond.arrayClass ty).before args s = true) (hcy : s.vm.findClass (FieldType.array ty).toString = some cy)
    (hK : va_K D cl tys s) (hP : va_P D cl (X ++ va_pl L f) H) (hD : va_D A (X ++ va_pl L f)) (hS : va_S A H0 H locs) (hA : ∀ q, H0.size ≤ q → A q) {n k : Int32} {N' K' : Nat} {z : vp_A} (hn : ¬ n < 0) (hk : ¬ k < 0) (hN : n.toNatClampNeg = N') (hM : k.toNatClampNeg = K')
    (hb1 : N' * 4 ≤ 536870912) (hb2 : K' * componentBytes ty ≤ 536870912) (hb3 : K' ≤ 536870912) (hdf : fits ty (defaultValue ty) = true) (hdd : (defaultValue ty).isDefault = true) (hcells : cells + (1 + N') ≤ R.cells) (hslots : slots + (N' + N' * K') ≤ R.slots) (hz : ∀ c : ClassId, Jvm.Free.Multi.innerC c K' (defaultValue ty) = vp_cell c z) (hdg : decode cc pc = .ok (.multianewarray index 2, 4))
    (kk : ∀ (q : Nat) (r : Nat → Nat) (cA : ClassId) (H1 : Heap), (∀ i j : Nat, i < N' → j < N' → r i = r j → i = j) → (∀ i : Nat, i < N' → r i ∉ L) → va_K D cl (tys ++ [(cA, .array ty)]) s →
      va_P D cl ((X ++ [(q, .inl (cA, N', .inr (.inr (.inr (.inr (fun i => if i < N' then some (r i) else none))))))]) ++ va_pl (L ++ (List.range N').map r) (vr_up f ((List.range N').map r) (.inl (cy, z)))) H1 → va_D A ((X ++ [(q, .inl (cA, N', .inr (.inr (.inr (.inr (fun i => if i < N' then some (r i) else none))))))]) ++ va_pl (L ++ (List.range N').map r) (vr_up f ((List.range N').map r) (.inl (cy, z)))) → va_S A H0 H1 locs →
      W p l e R s m args below meth c H1 locs (cells + 1 + N') (slots + N' + N' * K') Q (F0 m (pc + 4) ls (.ref q :: rest))) : W p l e R s m args below meth c H locs cells slots Q (F0 m pc ls (.int k :: .int n :: rest)) := by
  subst hN
  subst hM
  intro T hT Xs
  obtain ⟨vm₁, cA, comp, -, fA, fC, hO, -, X', step⟩ := Xs.multianewarray2F hexec hown hclink (va_AOA.use hover) harr (g := F0 m pc ls (.int k :: .int n :: rest)) rfl (by rw [hb]; exact hdg) rfl hn hk hb1 hb2 hb3 hdf hdd hcells hslots
  have ec : some cy = some comp := hcy.symm.trans fC
  cases ec
  generalize hF : Jvm.Free.Multi.fill (T.setVm vm₁) cA cy n.toNatClampNeg k.toNatClampNeg (defaultValue ty) n.toNatClampNeg = F at X' step
  have hTh : (T.setVm vm₁).heap = H := hT
  obtain ⟨f1, f2, -, -⟩ := Jvm.Free.Multi.fill_facts (T.setVm vm₁) cA cy n.toNatClampNeg k.toNatClampNeg (defaultValue ty) n.toNatClampNeg
  rw [hF, hTh] at f1 f2
  have hold : ∀ x : Nat, x < H.size → F.heap[x]? = H[x]? := fun x hx => by
    have := Jvm.Free.Multi.fill_old (T.setVm vm₁) cA cy n.toNatClampNeg k.toNatClampNeg (defaultValue ty) (a := x) (by rw [hTh]; exact hx) n.toNatClampNeg
    rw [hF, hTh] at this
    exact this
  have hrow : ∀ j : Nat, j < n.toNatClampNeg → F.heap[H.size + 1 + j]? = some (vp_cell cy z) := fun j hj => by
    have := Jvm.Free.Multi.fill_inner (T.setVm vm₁) cA cy n.toNatClampNeg k.toNatClampNeg (defaultValue ty) n.toNatClampNeg j hj
    rw [hF, hTh, hz] at this
    exact this
  have hout : Jvm.Free.Multi.outerC cA n.toNatClampNeg H.size n.toNatClampNeg = vp_cell cA (n.toNatClampNeg, .inr (.inr (.inr (.inr (fun i => if i < n.toNatClampNeg then some (H.size + 1 + i) else none))))) := by
    rw [vp_cell_q]
    exact vr_outer cA n.toNatClampNeg H.size n.toNatClampNeg
  rw [hout] at f2
  have hlt : ∀ a, a ∈ L → a < H.size := fun a ha => by
    obtain ⟨k9, hk9⟩ := va_pl_get (X := X) (f := f) ha
    exact (hP k9 _ hk9).lt
  have hnl : ∀ i : Nat, i < n.toNatClampNeg → H.size + 1 + i ∉ L := fun i _ h => by
    have := hlt _ h
    omega
  have hnm : ∀ a, a ∈ (List.range n.toNatClampNeg).map (fun i => H.size + 1 + i) → a ∉ L := fun a ha h => by
    obtain ⟨i, -, rfl⟩ := List.mem_map.mp ha
    have := hlt _ h
    omega
  have hP0 : va_P D cl (X ++ va_pl L f) F.heap := hP.kept (fun k9 x hx => hold x.1 ((hP k9 x hx).lt))
  have hP1 : va_P D cl ((X ++ va_pl L f) ++ [(H.size, .inl (cA, n.toNatClampNeg, .inr (.inr (.inr (.inr (fun i => if i < n.toNatClampNeg then some (H.size + 1 + i) else none))))))]) F.heap := hP0.app (fun k9 x hx => by
    have h0 : k9 < 1 := (List.getElem?_eq_some_iff.mp hx).1
    rw [show k9 = 0 by omega] at hx
    cases hx
    exact f2)
  have hP2 : va_P D cl (((X ++ va_pl L f) ++ [(H.size, .inl (cA, n.toNatClampNeg, .inr (.inr (.inr (.inr (fun i => if i < n.toNatClampNeg then some (H.size + 1 + i) else none))))))]) ++ ((List.range n.toNatClampNeg).map (fun i => H.size + 1 + i)).map (fun a => (a, .inl (cy, z)))) F.heap := hP1.app (fun k9 x hx => by
    obtain ⟨a, ha, rfl⟩ := List.mem_map.mp (List.mem_of_getElem? hx)
    obtain ⟨i, hi, rfl⟩ := List.mem_map.mp ha
    exact hrow i (List.mem_range.mp hi))
  have hD2 : va_D A (((X ++ va_pl L f) ++ [(H.size, .inl (cA, n.toNatClampNeg, .inr (.inr (.inr (.inr (fun i => if i < n.toNatClampNeg then some (H.size + 1 + i) else none))))))]) ++ ((List.range n.toNatClampNeg).map (fun i => H.size + 1 + i)).map (fun a => (a, .inl (cy, z)))) := by
    have hD1 := hD.push (e := .inl (cA, n.toNatClampNeg, .inr (.inr (.inr (.inr (fun i => if i < n.toNatClampNeg then some (H.size + 1 + i) else none)))))) hP rfl (hA _ hS.1)
    generalize hW1 : (X ++ va_pl L f) ++ [(H.size, .inl (cA, n.toNatClampNeg, .inr (.inr (.inr (.inr (fun i => if i < n.toNatClampNeg then some (H.size + 1 + i) else none))))))] = W1 at hD1 hP1 ⊢
    have hle : ∀ (k9 : Nat) (x : Nat × va_E), W1[k9]? = some x → x.1 ≤ H.size := fun k9 x hx => by
      rw [← hW1] at hx
      by_cases hl : k9 < (X ++ va_pl L f).length
      · rw [List.getElem?_append_left hl] at hx
        exact Nat.le_of_lt ((hP k9 x hx).lt)
      · rw [List.getElem?_append_right (by omega)] at hx
        have h0 : k9 - (X ++ va_pl L f).length < 1 := (List.getElem?_eq_some_iff.mp hx).1
        rw [show k9 - (X ++ va_pl L f).length = 0 by omega] at hx
        cases hx
        exact Nat.le_refl _
    have hr : ∀ (k9 : Nat) (x : Nat × va_E), (((List.range n.toNatClampNeg).map (fun i => H.size + 1 + i)).map (fun a => ((a, .inl (cy, z)) : Nat × va_E)))[k9]? = some x → x.1 = H.size + 1 + k9 := fun k9 x hx => by
      rw [List.getElem?_map, List.getElem?_map] at hx
      by_cases h9 : k9 < n.toNatClampNeg
      · rw [List.getElem?_range h9] at hx
        cases hx
        rfl
      · have hn0 : (List.range n.toNatClampNeg)[k9]? = none := List.getElem?_eq_none (by rw [List.length_range]; omega)
        rw [hn0] at hx
        cases hx
    refine ⟨fun i j x y hi hj hxy => ?_, fun k9 x hx => ?_⟩
    · by_cases h1 : i < W1.length <;> by_cases h2 : j < W1.length
      · rw [List.getElem?_append_left h1] at hi
        rw [List.getElem?_append_left h2] at hj
        exact hD1.1 i j x y hi hj hxy
      · rw [List.getElem?_append_left h1] at hi
        rw [List.getElem?_append_right (by omega)] at hj
        have := hle _ _ hi
        have := hr _ _ hj
        omega
      · rw [List.getElem?_append_right (by omega)] at hi
        rw [List.getElem?_append_left h2] at hj
        have := hle _ _ hj
        have := hr _ _ hi
        omega
      · rw [List.getElem?_append_right (by omega)] at hi hj
        have := hr _ _ hi
        have := hr _ _ hj
        omega
    · by_cases h1 : k9 < W1.length
      · rw [List.getElem?_append_left h1] at hx
        exact hD1.2 k9 x hx
      · rw [List.getElem?_append_right (by omega)] at hx
        have := hr _ _ hx
        exact hA _ (by have := hS.1; omega)
  have hAr : ArrOfT s cA (.array ty) := fun N9 z9 => by
    obtain ⟨-, k9, hk9, cm9, hkk9⟩ := (hO 0 0 0).1
    exact ⟨(fun q hq => by cases hq), k9, hk9, cm9, hkk9⟩
  have hK2 : va_K D cl (tys ++ [(cA, .array ty)]) s := ⟨hK.1, fun k9 x hx => by
    by_cases hl : k9 < tys.length
    · rw [List.getElem?_append_left hl] at hx
      exact hK.2 k9 x hx
    · rw [List.getElem?_append_right (by omega)] at hx
      have h0 : k9 - tys.length < 1 := (List.getElem?_eq_some_iff.mp hx).1
      rw [show k9 - tys.length = 0 by omega] at hx
      cases hx
      exact ⟨hAr, fA⟩⟩
  obtain ⟨t, a1, b1⟩ := kk H.size (fun i => H.size + 1 + i) cA F.heap (fun i j _ _ h => by have h9 : H.size + 1 + i = H.size + 1 + j := h; omega) hnl hK2 (by rw [← vr_rows hnm]; exact vr_lay hP2) (by rw [← vr_rows hnm]; exact vr_layD hD2) ⟨by rw [f1]; have := hS.1; omega, fun x h1 h2 => (hold x (Nat.lt_of_lt_of_le h1 hS.1)).trans (hS.2.1 x h1 h2), hS.2.2⟩ F rfl X'
  refine ⟨t, step t ?_, b1⟩
  have e : T.heap.size = H.size := by rw [hT]
  rw [e]
  exact a1
end VGM
/-! ===== END ===== -/

/-! ===== BEGIN printed: names, fields, word lists, decode rows ===== -/
def RX0 : String := "NoseJury$Hall"
def TX0 : u_T := fun k => match k with
  | 0 => ("NoseJury$Hall", "wind", "I", false)
  | 1 => ("NoseJury$Hall", "due", "I", false)
  | 2 => ("NoseJury$Hall", "hour", "I", false)
  | 3 => ("NoseJury$Hall", "people", "I", false)
  | 4 => ("NoseJury$Hall", "kinds", "[I", true)
  | 5 => ("NoseJury$Hall", "places", "[I", true)
  | 6 => ("NoseJury$Hall", "noses", "[I", true)
  | 7 => ("NoseJury$Hall", "colds", "[I", true)
  | 8 => ("NoseJury$Hall", "scents", "[[I", true)
  | _ => ("NoseJury$Hall", "later", "[I", true)
def tyX0 : Nat → FieldType := fun k => match k with
  | 0 => .int
  | 1 => .int
  | 2 => .int
  | 3 => .int
  | 4 => .array .int
  | 5 => .array .int
  | 6 => .array .int
  | 7 => .array .int
  | 8 => .array (.array .int)
  | _ => .array .int
abbrev wsX00 : List Cond := u_ws RX0 TX0 10
theorem nmX0 : ∀ a, a < 10 → ∀ b, b < 10 → a ≠ b → (TX0 a).2.1 ≠ (TX0 b).2.1 := by decide +kernel
theorem tyX0_ok : ∀ k, k < 10 → parseFieldDescriptor (TX0 k).2.2.1 = some (tyX0 k) := by decide +kernel
abbrev cX0_init : ByteArray := prog_2_method_1_code
def yX0_init : MethodName := ⟨RX0, "<init>", "()V"⟩
abbrev cX0_become : ByteArray := prog_2_method_2_code
def yX0_become : MethodName := ⟨RX0, "become", "(LNoseJury$Hall;)V"⟩
abbrev cX0_has : ByteArray := prog_2_method_3_code
def yX0_has : MethodName := ⟨RX0, "has", "(I)Z"⟩
abbrev cX0_hasTwo : ByteArray := prog_2_method_4_code
def yX0_hasTwo : MethodName := ⟨RX0, "hasTwo", "(II)Z"⟩
abbrev cX0_everybody : ByteArray := prog_2_method_5_code
def yX0_everybody : MethodName := ⟨RX0, "everybody", "()I"⟩
abbrev cX0_join : ByteArray := prog_2_method_6_code
def yX0_join : MethodName := ⟨RX0, "join", "(II)I"⟩
abbrev cX0_put : ByteArray := prog_2_method_7_code
def yX0_put : MethodName := ⟨RX0, "put", "(III)V"⟩
abbrev cX0_washes : ByteArray := prog_2_method_8_code
def yX0_washes : MethodName := ⟨RX0, "washes", "(I)I"⟩
abbrev cX0_sumOver : ByteArray := prog_2_method_9_code
def yX0_sumOver : MethodName := ⟨RX0, "sumOver", "([I)I"⟩
abbrev cX0_scentsOf : ByteArray := prog_2_method_10_code
def yX0_scentsOf : MethodName := ⟨RX0, "scentsOf", "(I)I"⟩
abbrev cX0_scentsOfAll : ByteArray := prog_2_method_11_code
def yX0_scentsOfAll : MethodName := ⟨RX0, "scentsOfAll", "()I"⟩
abbrev cX0_givesOff : ByteArray := prog_2_method_12_code
def yX0_givesOff : MethodName := ⟨RX0, "givesOff", "(II)I"⟩
abbrev cX0_givenOffBy : ByteArray := prog_2_method_13_code
def yX0_givenOffBy : MethodName := ⟨RX0, "givenOffBy", "(I)I"⟩
abbrev cX0_senses : ByteArray := prog_2_method_14_code
def yX0_senses : MethodName := ⟨RX0, "senses", "(III)I"⟩
abbrev cX0_smelt : ByteArray := prog_2_method_15_code
def yX0_smelt : MethodName := ⟨RX0, "smelt", "(III)I"⟩
abbrev cX0_finds : ByteArray := prog_2_method_16_code
def yX0_finds : MethodName := ⟨RX0, "finds", "(II)Z"⟩
abbrev cX0_finders : ByteArray := prog_2_method_17_code
def yX0_finders : MethodName := ⟨RX0, "finders", "(I)I"⟩
abbrev cX0_foundGuilty : ByteArray := prog_2_method_18_code
def yX0_foundGuilty : MethodName := ⟨RX0, "foundGuilty", "()I"⟩
abbrev cX0_hourGoes : ByteArray := prog_2_method_19_code
def yX0_hourGoes : MethodName := ⟨RX0, "hourGoes", "()V"⟩
abbrev cX0_hourGoesFor : ByteArray := prog_2_method_20_code
def yX0_hourGoesFor : MethodName := ⟨RX0, "hourGoesFor", "(I)V"⟩
abbrev cX0_fade : ByteArray := prog_2_method_21_code
def yX0_fade : MethodName := ⟨RX0, "fade", "(I)V"⟩
abbrev cX0_strongestBeside : ByteArray := prog_2_method_22_code
def yX0_strongestBeside : MethodName := ⟨RX0, "strongestBeside", "(II)I"⟩
abbrev cX0_isDownwind : ByteArray := prog_2_method_23_code
def yX0_isDownwind : MethodName := ⟨RX0, "isDownwind", "(II)Z"⟩
abbrev cX0_apart : ByteArray := prog_2_method_24_code
def yX0_apart : MethodName := ⟨RX0, "apart", "(II)I"⟩
def RX1 : String := "NoseJury$Sheet"
def TX1 : u_T := fun k => match k with
  | 0 => ("NoseJury$Sheet", "bits", "I", false)
  | 1 => ("NoseJury$Sheet", "size", "I", false)
  | _ => ("NoseJury$Sheet", "numbers", "[J", true)
def tyX1 : Nat → FieldType := fun k => match k with
  | 0 => .int
  | 1 => .int
  | _ => .array .long
abbrev wsX10 : List Cond := u_ws RX1 TX1 3
theorem nmX1 : ∀ a, a < 3 → ∀ b, b < 3 → a ≠ b → (TX1 a).2.1 ≠ (TX1 b).2.1 := by decide +kernel
theorem tyX1_ok : ∀ k, k < 3 → parseFieldDescriptor (TX1 k).2.2.1 = some (tyX1 k) := by decide +kernel
abbrev cX1_init : ByteArray := prog_3_method_1_code
def yX1_init : MethodName := ⟨RX1, "<init>", "()V"⟩
abbrev cX1_renew : ByteArray := prog_3_method_2_code
def yX1_renew : MethodName := ⟨RX1, "renew", "(II)V"⟩
abbrev cX1_put : ByteArray := prog_3_method_3_code
def yX1_put : MethodName := ⟨RX1, "put", "(IJ)V"⟩
abbrev cX1_hasRun : ByteArray := prog_3_method_4_code
def yX1_hasRun : MethodName := ⟨RX1, "hasRun", "(II)Z"⟩
def RX2 : String := "NoseJury$Tape"
def TX2 : u_T := fun k => match k with
  | 0 => ("NoseJury$Tape", "length", "I", false)
  | 1 => ("NoseJury$Tape", "bytes", "[I", true)
  | 2 => ("NoseJury$Tape", "next", "I", false)
  | 3 => ("NoseJury$Tape", "token", "I", false)
  | 4 => ("NoseJury$Tape", "start", "I", false)
  | _ => ("NoseJury$Tape", "value", "I", false)
def tyX2 : Nat → FieldType := fun k => match k with
  | 0 => .int
  | 1 => .array .int
  | 2 => .int
  | 3 => .int
  | 4 => .int
  | _ => .int
abbrev wsX20 : List Cond := u_ws RX2 TX2 6
theorem nmX2 : ∀ a, a < 6 → ∀ b, b < 6 → a ≠ b → (TX2 a).2.1 ≠ (TX2 b).2.1 := by decide +kernel
theorem tyX2_ok : ∀ k, k < 6 → parseFieldDescriptor (TX2 k).2.2.1 = some (tyX2 k) := by decide +kernel
abbrev cX2_init : ByteArray := prog_4_method_1_code
def yX2_init : MethodName := ⟨RX2, "<init>", "()V"⟩
abbrev cX2_append : ByteArray := prog_4_method_2_code
def yX2_append : MethodName := ⟨RX2, "append", "(I)V"⟩
abbrev cX2_tellTo : ByteArray := prog_4_method_3_code
def yX2_tellTo : MethodName := ⟨RX2, "tellTo", "(LNoseJury$Hall;)I"⟩
abbrev cX2_takesItem : ByteArray := prog_4_method_4_code
def yX2_takesItem : MethodName := ⟨RX2, "takesItem", "(LNoseJury$Hall;)Z"⟩
abbrev cX2_takesWind : ByteArray := prog_4_method_5_code
def yX2_takesWind : MethodName := ⟨RX2, "takesWind", "(LNoseJury$Hall;)Z"⟩
abbrev cX2_takesDue : ByteArray := prog_4_method_6_code
def yX2_takesDue : MethodName := ⟨RX2, "takesDue", "(LNoseJury$Hall;)Z"⟩
abbrev cX2_takesPerson : ByteArray := prog_4_method_7_code
def yX2_takesPerson : MethodName := ⟨RX2, "takesPerson", "(LNoseJury$Hall;)I"⟩
abbrev cX2_takesNose : ByteArray := prog_4_method_8_code
def yX2_takesNose : MethodName := ⟨RX2, "takesNose", "(LNoseJury$Hall;I)Z"⟩
abbrev cX2_takeCold : ByteArray := prog_4_method_9_code
def yX2_takeCold : MethodName := ⟨RX2, "takeCold", "(LNoseJury$Hall;I)V"⟩
abbrev cX2_takesDeed : ByteArray := prog_4_method_10_code
def yX2_takesDeed : MethodName := ⟨RX2, "takesDeed", "(LNoseJury$Hall;I)Z"⟩
abbrev cX2_takesNumber : ByteArray := prog_4_method_11_code
def yX2_takesNumber : MethodName := ⟨RX2, "takesNumber", "(II)Z"⟩
abbrev cX2_kindNamed : ByteArray := prog_4_method_12_code
def yX2_kindNamed : MethodName := ⟨RX2, "kindNamed", "()I"⟩
abbrev cX2_nameOf : ByteArray := prog_4_method_13_code
def yX2_nameOf : MethodName := ⟨RX2, "nameOf", "(I)Ljava/lang/String;"⟩
abbrev cX2_isWord : ByteArray := prog_4_method_14_code
def yX2_isWord : MethodName := ⟨RX2, "isWord", "(Ljava/lang/String;)Z"⟩
abbrev cX2_step : ByteArray := prog_4_method_15_code
def yX2_step : MethodName := ⟨RX2, "step", "()V"⟩
abbrev cX2_passWord : ByteArray := prog_4_method_16_code
def yX2_passWord : MethodName := ⟨RX2, "passWord", "()V"⟩
abbrev cX2_passNumber : ByteArray := prog_4_method_17_code
def yX2_passNumber : MethodName := ⟨RX2, "passNumber", "()V"⟩
abbrev cX2_isLetter : ByteArray := prog_4_method_18_code
def yX2_isLetter : MethodName := ⟨RX2, "isLetter", "(I)Z"⟩
abbrev cX2_isDigit : ByteArray := prog_4_method_19_code
def yX2_isDigit : MethodName := ⟨RX2, "isDigit", "(I)Z"⟩
def RX3 : String := "NoseJury"
def TX3 : u_T := fun k => match k with
  | 0 => ("NoseJury", "live", "LNoseJury$Hall;", true)
  | 1 => ("NoseJury", "kept", "LNoseJury$Hall;", true)
  | 2 => ("NoseJury", "trial", "LNoseJury$Hall;", true)
  | 3 => ("NoseJury", "tape", "LNoseJury$Tape;", true)
  | 4 => ("NoseJury", "sheets", "[LNoseJury$Sheet;", true)
  | 5 => ("NoseJury", "told", "[I", true)
  | _ => ("NoseJury", "anyKept", "Z", false)
def tyX3 : Nat → FieldType := fun k => match k with
  | 0 => .object "NoseJury$Hall"
  | 1 => .object "NoseJury$Hall"
  | 2 => .object "NoseJury$Hall"
  | 3 => .object "NoseJury$Tape"
  | 4 => .array (.object "NoseJury$Sheet")
  | 5 => .array .int
  | _ => .boolean
abbrev wsX30 : List Cond := u_ws RX3 TX3 7
theorem nmX3 : ∀ a, a < 7 → ∀ b, b < 7 → a ≠ b → (TX3 a).2.1 ≠ (TX3 b).2.1 := by decide +kernel
theorem tyX3_ok : ∀ k, k < 7 → parseFieldDescriptor (TX3 k).2.2.1 = some (tyX3 k) := by decide +kernel
abbrev cX3_init : ByteArray := prog_1_method_1_code
def yX3_init : MethodName := ⟨RX3, "<init>", "()V"⟩
abbrev cX3_law : ByteArray := prog_1_method_2_code
def yX3_law : MethodName := ⟨RX3, "law", "(II)I"⟩
abbrev cX3_person : ByteArray := prog_1_method_3_code
def yX3_person : MethodName := ⟨RX3, "person", "(II)I"⟩
abbrev cX3_of : ByteArray := prog_1_method_4_code
def yX3_of : MethodName := ⟨RX3, "of", "(II)I"⟩
abbrev cX3_set : ByteArray := prog_1_method_5_code
def yX3_set : MethodName := ⟨RX3, "set", "(III)I"⟩
abbrev cX3_did : ByteArray := prog_1_method_6_code
def yX3_did : MethodName := ⟨RX3, "did", "(III)I"⟩
abbrev cX3_scent : ByteArray := prog_1_method_7_code
def yX3_scent : MethodName := ⟨RX3, "scent", "(III)I"⟩
abbrev cX3_turn : ByteArray := prog_1_method_8_code
def yX3_turn : MethodName := ⟨RX3, "turn", "(II)I"⟩
abbrev cX3_as : ByteArray := prog_1_method_9_code
def yX3_as : MethodName := ⟨RX3, "as", "(II)I"⟩
abbrev cX3_wash : ByteArray := prog_1_method_10_code
def yX3_wash : MethodName := ⟨RX3, "wash", "(I)I"⟩
abbrev cX3_meet : ByteArray := prog_1_method_11_code
def yX3_meet : MethodName := ⟨RX3, "meet", "(II)I"⟩
abbrev cX3_smells : ByteArray := prog_1_method_12_code
def yX3_smells : MethodName := ⟨RX3, "smells", "(III)I"⟩
abbrev cX3_deed : ByteArray := prog_1_method_13_code
def yX3_deed : MethodName := ⟨RX3, "deed", "(II)I"⟩
abbrev cX3_guilty : ByteArray := prog_1_method_14_code
def yX3_guilty : MethodName := ⟨RX3, "guilty", "(I)I"⟩
abbrev cX3_convicts : ByteArray := prog_1_method_15_code
def yX3_convicts : MethodName := ⟨RX3, "convicts", "(II)I"⟩
abbrev cX3_hours : ByteArray := prog_1_method_16_code
def yX3_hours : MethodName := ⟨RX3, "hours", "(I)I"⟩
abbrev cX3_now : ByteArray := prog_1_method_17_code
def yX3_now : MethodName := ⟨RX3, "now", "(I)I"⟩
abbrev cX3_on : ByteArray := prog_1_method_18_code
def yX3_on : MethodName := ⟨RX3, "on", "(III)I"⟩
abbrev cX3_clean : ByteArray := prog_1_method_19_code
def yX3_clean : MethodName := ⟨RX3, "clean", "(I)I"⟩
abbrev cX3_wind : ByteArray := prog_1_method_20_code
def yX3_wind : MethodName := ⟨RX3, "wind", "(I)I"⟩
abbrev cX3_seat : ByteArray := prog_1_method_21_code
def yX3_seat : MethodName := ⟨RX3, "seat", "(I)I"⟩
abbrev cX3_bath : ByteArray := prog_1_method_22_code
def yX3_bath : MethodName := ⟨RX3, "bath", "(I)I"⟩
abbrev cX3_kind : ByteArray := prog_1_method_23_code
def yX3_kind : MethodName := ⟨RX3, "kind", "(I)I"⟩
abbrev cX3_due : ByteArray := prog_1_method_24_code
def yX3_due : MethodName := ⟨RX3, "due", "(I)I"⟩
abbrev cX3_jury : ByteArray := prog_1_method_25_code
def yX3_jury : MethodName := ⟨RX3, "jury", "(II)I"⟩
abbrev cX3_juries : ByteArray := prog_1_method_26_code
def yX3_juries : MethodName := ⟨RX3, "juries", "(II)I"⟩
abbrev cX3_from : ByteArray := prog_1_method_27_code
def yX3_from : MethodName := ⟨RX3, "from", "(II)I"⟩
abbrev cX3_nose : ByteArray := prog_1_method_28_code
def yX3_nose : MethodName := ⟨RX3, "nose", "(II)I"⟩
abbrev cX3_feed : ByteArray := prog_1_method_29_code
def yX3_feed : MethodName := ⟨RX3, "feed", "(II)I"⟩
abbrev cX3_wipe : ByteArray := prog_1_method_30_code
def yX3_wipe : MethodName := ⟨RX3, "wipe", "()I"⟩
abbrev cX3_hall : ByteArray := prog_1_method_31_code
def yX3_hall : MethodName := ⟨RX3, "hall", "()I"⟩
abbrev cX3_sheet : ByteArray := prog_1_method_32_code
def yX3_sheet : MethodName := ⟨RX3, "sheet", "(III)I"⟩
abbrev cX3_write : ByteArray := prog_1_method_33_code
def yX3_write : MethodName := ⟨RX3, "write", "(IIJ)J"⟩
abbrev cX3_copy : ByteArray := prog_1_method_34_code
def yX3_copy : MethodName := ⟨RX3, "copy", "(IIIII)I"⟩
abbrev cX3_lays : ByteArray := prog_1_method_35_code
def yX3_lays : MethodName := ⟨RX3, "lays", "(I)I"⟩
abbrev cX3_book : ByteArray := prog_1_method_36_code
def yX3_book : MethodName := ⟨RX3, "book", "(IIII)I"⟩
abbrev cX3_read : ByteArray := prog_1_method_37_code
def yX3_read : MethodName := ⟨RX3, "read", "(IIII)I"⟩
abbrev cX3_image : ByteArray := prog_1_method_38_code
def yX3_image : MethodName := ⟨RX3, "image", "()I"⟩
abbrev cX3_undo : ByteArray := prog_1_method_39_code
def yX3_undo : MethodName := ⟨RX3, "undo", "()I"⟩
abbrev cX3_tear : ByteArray := prog_1_method_40_code
def yX3_tear : MethodName := ⟨RX3, "tear", "()I"⟩
abbrev cX3_count : ByteArray := prog_1_method_41_code
def yX3_count : MethodName := ⟨RX3, "count", "(I)I"⟩
abbrev cX3_status : ByteArray := prog_1_method_42_code
def yX3_status : MethodName := ⟨RX3, "status", "(I)I"⟩
abbrev cX3_tell : ByteArray := prog_1_method_43_code
def yX3_tell : MethodName := ⟨RX3, "tell", "(I)I"⟩
abbrev cX3_fewestFind : ByteArray := prog_1_method_44_code
def yX3_fewestFind : MethodName := ⟨RX3, "fewestFind", "(III)I"⟩
abbrev cX3_isToldBy : ByteArray := prog_1_method_45_code
def yX3_isToldBy : MethodName := ⟨RX3, "isToldBy", "(LNoseJury$Sheet;III)Z"⟩
abbrev cX3_findingOfSheet : ByteArray := prog_1_method_46_code
def yX3_findingOfSheet : MethodName := ⟨RX3, "findingOfSheet", "(I)I"⟩
abbrev cX3_findingOfBook : ByteArray := prog_1_method_47_code
def yX3_findingOfBook : MethodName := ⟨RX3, "findingOfBook", "(IIII)I"⟩
abbrev cX3_exchange : ByteArray := prog_1_method_48_code
def yX3_exchange : MethodName := ⟨RX3, "exchange", "([III)I"⟩
abbrev cX3_within : ByteArray := prog_1_method_49_code
def yX3_within : MethodName := ⟨RX3, "within", "(III)Z"⟩
abbrev cX3_isKind : ByteArray := prog_1_method_50_code
def yX3_isKind : MethodName := ⟨RX3, "isKind", "(I)Z"⟩
abbrev cX3_isPlace : ByteArray := prog_1_method_51_code
def yX3_isPlace : MethodName := ⟨RX3, "isPlace", "(I)Z"⟩
abbrev cX3_isDeed : ByteArray := prog_1_method_52_code
def yX3_isDeed : MethodName := ⟨RX3, "isDeed", "(I)Z"⟩
abbrev cX3_isSheet : ByteArray := prog_1_method_53_code
def yX3_isSheet : MethodName := ⟨RX3, "isSheet", "(I)Z"⟩
abbrev cX3_isUnder : ByteArray := prog_1_method_54_code
def yX3_isUnder : MethodName := ⟨RX3, "isUnder", "(II)Z"⟩
abbrev cX3_isMajority : ByteArray := prog_1_method_55_code
def yX3_isMajority : MethodName := ⟨RX3, "isMajority", "(II)Z"⟩
abbrev cX3_isJuryAgainst : ByteArray := prog_1_method_56_code
def yX3_isJuryAgainst : MethodName := ⟨RX3, "isJuryAgainst", "(IIII)Z"⟩
abbrev cX3_faded : ByteArray := prog_1_method_57_code
def yX3_faded : MethodName := ⟨RX3, "faded", "(II)I"⟩
def RX4 : String := "NoseJuryModel"
def TX4 : u_T := fun k => match k with
  | 0 => ("NoseJuryModel", "s", "[I", true)
  | 1 => ("NoseJuryModel", "keptS", "[I", true)
  | 2 => ("NoseJuryModel", "other", "[I", true)
  | 3 => ("NoseJuryModel", "aside", "[I", true)
  | 4 => ("NoseJuryModel", "statuses", "[I", true)
  | 5 => ("NoseJuryModel", "isKept", "Z", false)
  | 6 => ("NoseJuryModel", "then", "[I", true)
  | 7 => ("NoseJuryModel", "firstJury", "I", false)
  | 8 => ("NoseJuryModel", "manyJuries", "I", false)
  | 9 => ("NoseJuryModel", "tape", "[I", true)
  | 10 => ("NoseJuryModel", "taped", "I", false)
  | 11 => ("NoseJuryModel", "from", "I", false)
  | 12 => ("NoseJuryModel", "to", "I", false)
  | 13 => ("NoseJuryModel", "value", "I", false)
  | 14 => ("NoseJuryModel", "isWrong", "Z", false)
  | 15 => ("NoseJuryModel", "bitsOf", "[I", true)
  | 16 => ("NoseJuryModel", "sizeOf", "[I", true)
  | 17 => ("NoseJuryModel", "numbers", "[J", true)
  | _ => ("NoseJuryModel", "moved", "[J", true)
def tyX4 : Nat → FieldType := fun k => match k with
  | 0 => .array .int
  | 1 => .array .int
  | 2 => .array .int
  | 3 => .array .int
  | 4 => .array .int
  | 5 => .boolean
  | 6 => .array .int
  | 7 => .int
  | 8 => .int
  | 9 => .array .int
  | 10 => .int
  | 11 => .int
  | 12 => .int
  | 13 => .int
  | 14 => .boolean
  | 15 => .array .int
  | 16 => .array .int
  | 17 => .array .long
  | _ => .array .long
abbrev wsX40 : List Cond := u_ws RX4 TX4 19
theorem nmX4 : ∀ a, a < 19 → ∀ b, b < 19 → a ≠ b → (TX4 a).2.1 ≠ (TX4 b).2.1 := by decide +kernel
theorem tyX4_ok : ∀ k, k < 19 → parseFieldDescriptor (TX4 k).2.2.1 = some (tyX4 k) := by decide +kernel
abbrev cX4_init : ByteArray := prog_6_method_1_code
def yX4_init : MethodName := ⟨RX4, "<init>", "()V"⟩
abbrev cX4_in : ByteArray := prog_6_method_2_code
def yX4_in : MethodName := ⟨RX4, "in", "(JJJ)Z"⟩
abbrev cX4_finds : ByteArray := prog_6_method_3_code
def yX4_finds : MethodName := ⟨RX4, "finds", "(I)I"⟩
abbrev cX4_saves : ByteArray := prog_6_method_4_code
def yX4_saves : MethodName := ⟨RX4, "saves", "()V"⟩
abbrev cX4_putsBack : ByteArray := prog_6_method_5_code
def yX4_putsBack : MethodName := ⟨RX4, "putsBack", "()V"⟩
abbrev cX4_laysAside : ByteArray := prog_6_method_6_code
def yX4_laysAside : MethodName := ⟨RX4, "laysAside", "()V"⟩
abbrev cX4_takesBack : ByteArray := prog_6_method_7_code
def yX4_takesBack : MethodName := ⟨RX4, "takesBack", "(I)I"⟩
abbrev cX4_becomes : ByteArray := prog_6_method_8_code
def yX4_becomes : MethodName := ⟨RX4, "becomes", "(II)I"⟩
abbrev cX4_isPlace : ByteArray := prog_6_method_9_code
def yX4_isPlace : MethodName := ⟨RX4, "isPlace", "(I)Z"⟩
abbrev cX4_isPerson : ByteArray := prog_6_method_10_code
def yX4_isPerson : MethodName := ⟨RX4, "isPerson", "(I)Z"⟩
abbrev cX4_areTwo : ByteArray := prog_6_method_11_code
def yX4_areTwo : MethodName := ⟨RX4, "areTwo", "(II)Z"⟩
abbrev cX4_isKind : ByteArray := prog_6_method_12_code
def yX4_isKind : MethodName := ⟨RX4, "isKind", "(I)Z"⟩
abbrev cX4_isDeed : ByteArray := prog_6_method_13_code
def yX4_isDeed : MethodName := ⟨RX4, "isDeed", "(I)Z"⟩
abbrev cX4_spot : ByteArray := prog_6_method_14_code
def yX4_spot : MethodName := ⟨RX4, "spot", "(II)I"⟩
abbrev cX4_its : ByteArray := prog_6_method_15_code
def yX4_its : MethodName := ⟨RX4, "its", "(II)I"⟩
abbrev cX4_law : ByteArray := prog_6_method_16_code
def yX4_law : MethodName := ⟨RX4, "law", "(II)I"⟩
abbrev cX4_adds : ByteArray := prog_6_method_17_code
def yX4_adds : MethodName := ⟨RX4, "adds", "(II)I"⟩
abbrev cX4_person : ByteArray := prog_6_method_18_code
def yX4_person : MethodName := ⟨RX4, "person", "(II)I"⟩
abbrev cX4_givesOff : ByteArray := prog_6_method_19_code
def yX4_givesOff : MethodName := ⟨RX4, "givesOff", "(II)I"⟩
abbrev cX4_scentsOf : ByteArray := prog_6_method_20_code
def yX4_scentsOf : MethodName := ⟨RX4, "scentsOf", "(I)I"⟩
abbrev cX4_givesOffAll : ByteArray := prog_6_method_21_code
def yX4_givesOffAll : MethodName := ⟨RX4, "givesOffAll", "(I)I"⟩
abbrev cX4_of : ByteArray := prog_6_method_22_code
def yX4_of : MethodName := ⟨RX4, "of", "(II)I"⟩
abbrev cX4_set : ByteArray := prog_6_method_23_code
def yX4_set : MethodName := ⟨RX4, "set", "(III)I"⟩
abbrev cX4_did : ByteArray := prog_6_method_24_code
def yX4_did : MethodName := ⟨RX4, "did", "(III)I"⟩
abbrev cX4_scent : ByteArray := prog_6_method_25_code
def yX4_scent : MethodName := ⟨RX4, "scent", "(III)I"⟩
abbrev cX4_turn : ByteArray := prog_6_method_26_code
def yX4_turn : MethodName := ⟨RX4, "turn", "(II)I"⟩
abbrev cX4_isUnder : ByteArray := prog_6_method_27_code
def yX4_isUnder : MethodName := ⟨RX4, "isUnder", "(II)Z"⟩
abbrev cX4_as : ByteArray := prog_6_method_28_code
def yX4_as : MethodName := ⟨RX4, "as", "(II)I"⟩
abbrev cX4_washes : ByteArray := prog_6_method_29_code
def yX4_washes : MethodName := ⟨RX4, "washes", "(I)I"⟩
abbrev cX4_wash : ByteArray := prog_6_method_30_code
def yX4_wash : MethodName := ⟨RX4, "wash", "(I)I"⟩
abbrev cX4_grows : ByteArray := prog_6_method_31_code
def yX4_grows : MethodName := ⟨RX4, "grows", "(II)I"⟩
abbrev cX4_meet : ByteArray := prog_6_method_32_code
def yX4_meet : MethodName := ⟨RX4, "meet", "(II)I"⟩
abbrev cX4_absolute : ByteArray := prog_6_method_33_code
def yX4_absolute : MethodName := ⟨RX4, "absolute", "(I)I"⟩
abbrev cX4_apart : ByteArray := prog_6_method_34_code
def yX4_apart : MethodName := ⟨RX4, "apart", "(II)I"⟩
abbrev cX4_isDownwind : ByteArray := prog_6_method_35_code
def yX4_isDownwind : MethodName := ⟨RX4, "isDownwind", "(II)Z"⟩
abbrev cX4_senses : ByteArray := prog_6_method_36_code
def yX4_senses : MethodName := ⟨RX4, "senses", "(III)I"⟩
abbrev cX4_smell : ByteArray := prog_6_method_37_code
def yX4_smell : MethodName := ⟨RX4, "smell", "(III)I"⟩
abbrev cX4_smells : ByteArray := prog_6_method_38_code
def yX4_smells : MethodName := ⟨RX4, "smells", "(III)I"⟩
abbrev cX4_deed : ByteArray := prog_6_method_39_code
def yX4_deed : MethodName := ⟨RX4, "deed", "(II)I"⟩
abbrev cX4_isFound : ByteArray := prog_6_method_40_code
def yX4_isFound : MethodName := ⟨RX4, "isFound", "(II)Z"⟩
abbrev cX4_finders : ByteArray := prog_6_method_41_code
def yX4_finders : MethodName := ⟨RX4, "finders", "(I)I"⟩
abbrev cX4_ones : ByteArray := prog_6_method_42_code
def yX4_ones : MethodName := ⟨RX4, "ones", "(I)I"⟩
abbrev cX4_findersMany : ByteArray := prog_6_method_43_code
def yX4_findersMany : MethodName := ⟨RX4, "findersMany", "(I)I"⟩
abbrev cX4_guilty : ByteArray := prog_6_method_44_code
def yX4_guilty : MethodName := ⟨RX4, "guilty", "(I)I"⟩
abbrev cX4_isConvicted : ByteArray := prog_6_method_45_code
def yX4_isConvicted : MethodName := ⟨RX4, "isConvicted", "(II)Z"⟩
abbrev cX4_convicts : ByteArray := prog_6_method_46_code
def yX4_convicts : MethodName := ⟨RX4, "convicts", "(II)I"⟩
abbrev cX4_greatestBy : ByteArray := prog_6_method_47_code
def yX4_greatestBy : MethodName := ⟨RX4, "greatestBy", "(II)I"⟩
abbrev cX4_leftOf : ByteArray := prog_6_method_48_code
def yX4_leftOf : MethodName := ⟨RX4, "leftOf", "(II)I"⟩
abbrev cX4_hour : ByteArray := prog_6_method_49_code
def yX4_hour : MethodName := ⟨RX4, "hour", "()V"⟩
abbrev cX4_goesOn : ByteArray := prog_6_method_50_code
def yX4_goesOn : MethodName := ⟨RX4, "goesOn", "(I)V"⟩
abbrev cX4_scentsAll : ByteArray := prog_6_method_51_code
def yX4_scentsAll : MethodName := ⟨RX4, "scentsAll", "()I"⟩
abbrev cX4_hours : ByteArray := prog_6_method_52_code
def yX4_hours : MethodName := ⟨RX4, "hours", "(I)I"⟩
abbrev cX4_allGuilty : ByteArray := prog_6_method_53_code
def yX4_allGuilty : MethodName := ⟨RX4, "allGuilty", "()I"⟩
abbrev cX4_now : ByteArray := prog_6_method_54_code
def yX4_now : MethodName := ⟨RX4, "now", "(I)I"⟩
abbrev cX4_on : ByteArray := prog_6_method_55_code
def yX4_on : MethodName := ⟨RX4, "on", "(III)I"⟩
abbrev cX4_clean : ByteArray := prog_6_method_56_code
def yX4_clean : MethodName := ⟨RX4, "clean", "(I)I"⟩
abbrev cX4_leastBy : ByteArray := prog_6_method_57_code
def yX4_leastBy : MethodName := ⟨RX4, "leastBy", "(III)I"⟩
abbrev cX4_wind : ByteArray := prog_6_method_58_code
def yX4_wind : MethodName := ⟨RX4, "wind", "(I)I"⟩
abbrev cX4_seat : ByteArray := prog_6_method_59_code
def yX4_seat : MethodName := ⟨RX4, "seat", "(I)I"⟩
abbrev cX4_kind : ByteArray := prog_6_method_60_code
def yX4_kind : MethodName := ⟨RX4, "kind", "(I)I"⟩
abbrev cX4_bath : ByteArray := prog_6_method_61_code
def yX4_bath : MethodName := ⟨RX4, "bath", "(I)I"⟩
abbrev cX4_due : ByteArray := prog_6_method_62_code
def yX4_due : MethodName := ⟨RX4, "due", "(I)I"⟩
abbrev cX4_findJuries : ByteArray := prog_6_method_63_code
def yX4_findJuries : MethodName := ⟨RX4, "findJuries", "(II)V"⟩
abbrev cX4_jury : ByteArray := prog_6_method_64_code
def yX4_jury : MethodName := ⟨RX4, "jury", "(II)I"⟩
abbrev cX4_juries : ByteArray := prog_6_method_65_code
def yX4_juries : MethodName := ⟨RX4, "juries", "(II)I"⟩
abbrev cX4_from : ByteArray := prog_6_method_66_code
def yX4_from : MethodName := ⟨RX4, "from", "(II)I"⟩
abbrev cX4_nose : ByteArray := prog_6_method_67_code
def yX4_nose : MethodName := ⟨RX4, "nose", "(II)I"⟩
abbrev cX4_feed : ByteArray := prog_6_method_68_code
def yX4_feed : MethodName := ⟨RX4, "feed", "(II)I"⟩
abbrev cX4_wipe : ByteArray := prog_6_method_69_code
def yX4_wipe : MethodName := ⟨RX4, "wipe", "()I"⟩
abbrev cX4_byteAt : ByteArray := prog_6_method_70_code
def yX4_byteAt : MethodName := ⟨RX4, "byteAt", "(I)I"⟩
abbrev cX4_isLetter : ByteArray := prog_6_method_71_code
def yX4_isLetter : MethodName := ⟨RX4, "isLetter", "(I)Z"⟩
abbrev cX4_isDigit : ByteArray := prog_6_method_72_code
def yX4_isDigit : MethodName := ⟨RX4, "isDigit", "(I)Z"⟩
abbrev cX4_token : ByteArray := prog_6_method_73_code
def yX4_token : MethodName := ⟨RX4, "token", "()V"⟩
abbrev cX4_must : ByteArray := prog_6_method_74_code
def yX4_must : MethodName := ⟨RX4, "must", "(Z)V"⟩
abbrev cX4_word : ByteArray := prog_6_method_75_code
def yX4_word : MethodName := ⟨RX4, "word", "()J"⟩
abbrev cX4_number : ByteArray := prog_6_method_76_code
def yX4_number : MethodName := ⟨RX4, "number", "(II)V"⟩
abbrev cX4_kindHere : ByteArray := prog_6_method_77_code
def yX4_kindHere : MethodName := ⟨RX4, "kindHere", "()I"⟩
abbrev cX4_personItem : ByteArray := prog_6_method_78_code
def yX4_personItem : MethodName := ⟨RX4, "personItem", "(I)V"⟩
abbrev cX4_item : ByteArray := prog_6_method_79_code
def yX4_item : MethodName := ⟨RX4, "item", "()V"⟩
abbrev cX4_hall : ByteArray := prog_6_method_80_code
def yX4_hall : MethodName := ⟨RX4, "hall", "()I"⟩
abbrev cX4_isOne : ByteArray := prog_6_method_81_code
def yX4_isOne : MethodName := ⟨RX4, "isOne", "(I)Z"⟩
abbrev cX4_sheet : ByteArray := prog_6_method_82_code
def yX4_sheet : MethodName := ⟨RX4, "sheet", "(III)I"⟩
abbrev cX4_narrowed : ByteArray := prog_6_method_83_code
def yX4_narrowed : MethodName := ⟨RX4, "narrowed", "(IJ)J"⟩
abbrev cX4_wrongSheet : ByteArray := prog_6_method_84_code
def yX4_wrongSheet : MethodName := ⟨RX4, "wrongSheet", "(I)I"⟩
abbrev cX4_write : ByteArray := prog_6_method_85_code
def yX4_write : MethodName := ⟨RX4, "write", "(IIJ)J"⟩
abbrev cX4_copy : ByteArray := prog_6_method_86_code
def yX4_copy : MethodName := ⟨RX4, "copy", "(IIIII)I"⟩
abbrev cX4_lays : ByteArray := prog_6_method_87_code
def yX4_lays : MethodName := ⟨RX4, "lays", "(I)I"⟩
abbrev cX4_wrongBook : ByteArray := prog_6_method_88_code
def yX4_wrongBook : MethodName := ⟨RX4, "wrongBook", "(IIII)I"⟩
abbrev cX4_book : ByteArray := prog_6_method_89_code
def yX4_book : MethodName := ⟨RX4, "book", "(IIII)I"⟩
abbrev cX4_isBook : ByteArray := prog_6_method_90_code
def yX4_isBook : MethodName := ⟨RX4, "isBook", "(IIII)Z"⟩
abbrev cX4_read : ByteArray := prog_6_method_91_code
def yX4_read : MethodName := ⟨RX4, "read", "(IIII)I"⟩
abbrev cX4_image : ByteArray := prog_6_method_92_code
def yX4_image : MethodName := ⟨RX4, "image", "()I"⟩
abbrev cX4_undo : ByteArray := prog_6_method_93_code
def yX4_undo : MethodName := ⟨RX4, "undo", "()I"⟩
abbrev cX4_tear : ByteArray := prog_6_method_94_code
def yX4_tear : MethodName := ⟨RX4, "tear", "()I"⟩
abbrev cX4_together : ByteArray := prog_6_method_95_code
def yX4_together : MethodName := ⟨RX4, "together", "(I)I"⟩
abbrev cX4_count : ByteArray := prog_6_method_96_code
def yX4_count : MethodName := ⟨RX4, "count", "(I)I"⟩
abbrev cX4_status : ByteArray := prog_6_method_97_code
def yX4_status : MethodName := ⟨RX4, "status", "(I)I"⟩
def RJ6 : String := "java/lang/Integer"
def TJ6 : u_T := fun k => match k with
  | _ => ("", "", "", false)
def tyJ6 : Nat → FieldType := fun k => match k with
  | _ => .int
abbrev wsJ60 : List Cond := u_ws RJ6 TJ6 0
theorem nmJ6 : ∀ a, a < 0 → ∀ b, b < 0 → a ≠ b → (TJ6 a).2.1 ≠ (TJ6 b).2.1 := by decide +kernel
theorem tyJ6_ok : ∀ k, k < 0 → parseFieldDescriptor (TJ6 k).2.2.1 = some (tyJ6 k) := by decide +kernel
abbrev cJ6_bitCount_0f7a4 : ByteArray := prog_7_method_49_code
def yJ6_bitCount_0f7a4 : MethodName := ⟨RJ6, "bitCount", "(I)I"⟩
def RJ9 : String := "java/lang/Math"
def TJ9 : u_T := fun k => match k with
  | _ => ("", "", "", false)
def tyJ9 : Nat → FieldType := fun k => match k with
  | _ => .int
abbrev wsJ90 : List Cond := u_ws RJ9 TJ9 0
theorem nmJ9 : ∀ a, a < 0 → ∀ b, b < 0 → a ≠ b → (TJ9 a).2.1 ≠ (TJ9 b).2.1 := by decide +kernel
theorem tyJ9_ok : ∀ k, k < 0 → parseFieldDescriptor (TJ9 k).2.2.1 = some (tyJ9 k) := by decide +kernel
abbrev cJ9_abs_0f7a4 : ByteArray := prog_8_method_59_code
def yJ9_abs_0f7a4 : MethodName := ⟨RJ9, "abs", "(I)I"⟩
abbrev cJ9_max_7cf53 : ByteArray := prog_8_method_65_code
def yJ9_max_7cf53 : MethodName := ⟨RJ9, "max", "(II)I"⟩
abbrev cJ9_min_7cf53 : ByteArray := prog_8_method_69_code
def yJ9_min_7cf53 : MethodName := ⟨RJ9, "min", "(II)I"⟩
def RJ0 : String := "java/lang/String"
def TJ0 : u_T := fun k => match k with
  | _ => ("", "", "", false)
def tyJ0 : Nat → FieldType := fun k => match k with
  | _ => .int
abbrev wsJ00 : List Cond := u_ws RJ0 TJ0 0
theorem nmJ0 : ∀ a, a < 0 → ∀ b, b < 0 → a ≠ b → (TJ0 a).2.1 ≠ (TJ0 b).2.1 := by decide +kernel
theorem tyJ0_ok : ∀ k, k < 0 → parseFieldDescriptor (TJ0 k).2.2.1 = some (tyJ0 k) := by decide +kernel
abbrev cJ0_length_8abf5 : ByteArray := prog_9_method_54_code
def yJ0_length_8abf5 : MethodName := ⟨RJ0, "length", "()I"⟩
abbrev cJ0_charAt_5068e : ByteArray := prog_9_method_56_code
def yJ0_charAt_5068e : MethodName := ⟨RJ0, "charAt", "(I)C"⟩
abbrev cJ0_coder_7d493 : ByteArray := prog_9_method_152_code
def yJ0_coder_7d493 : MethodName := ⟨RJ0, "coder", "()B"⟩
abbrev cJ0_isLatin1_aae02 : ByteArray := prog_9_method_154_code
def yJ0_isLatin1_aae02 : MethodName := ⟨RJ0, "isLatin1", "()Z"⟩
abbrev cJ0_checkIndex_df160 : ByteArray := prog_9_method_155_code
def yJ0_checkIndex_df160 : MethodName := ⟨RJ0, "checkIndex", "(II)V"⟩
def RJ1 : String := "java/lang/StringLatin1"
def TJ1 : u_T := fun k => match k with
  | _ => ("", "", "", false)
def tyJ1 : Nat → FieldType := fun k => match k with
  | _ => .int
abbrev wsJ10 : List Cond := u_ws RJ1 TJ1 0
theorem nmJ1 : ∀ a, a < 0 → ∀ b, b < 0 → a ≠ b → (TJ1 a).2.1 ≠ (TJ1 b).2.1 := by decide +kernel
theorem tyJ1_ok : ∀ k, k < 0 → parseFieldDescriptor (TJ1 k).2.2.1 = some (tyJ1 k) := by decide +kernel
abbrev cJ1_charAt_3b067 : ByteArray := prog_10_method_2_code
def yJ1_charAt_3b067 : MethodName := ⟨RJ1, "charAt", "([BI)C"⟩
def RJ2 : String := "java/lang/StringUTF16"
def TJ2 : u_T := fun k => match k with
  | _ => ("", "", "", false)
def tyJ2 : Nat → FieldType := fun k => match k with
  | _ => .int
abbrev wsJ20 : List Cond := u_ws RJ2 TJ2 0
theorem nmJ2 : ∀ a, a < 0 → ∀ b, b < 0 → a ≠ b → (TJ2 a).2.1 ≠ (TJ2 b).2.1 := by decide +kernel
theorem tyJ2_ok : ∀ k, k < 0 → parseFieldDescriptor (TJ2 k).2.2.1 = some (tyJ2 k) := by decide +kernel
abbrev cJ2_getChar_3b067 : ByteArray := prog_11_method_5_code
def yJ2_getChar_3b067 : MethodName := ⟨RJ2, "getChar", "([BI)C"⟩
abbrev cJ2_length_9d52b : ByteArray := prog_11_method_6_code
def yJ2_length_9d52b : MethodName := ⟨RJ2, "length", "([B)I"⟩
abbrev cJ2_charAt_3b067 : ByteArray := prog_11_method_83_code
def yJ2_charAt_3b067 : MethodName := ⟨RJ2, "charAt", "([BI)C"⟩
abbrev cJ2_checkIndex_2214a : ByteArray := prog_11_method_91_code
def yJ2_checkIndex_2214a : MethodName := ⟨RJ2, "checkIndex", "(I[B)V"⟩
def RJ10 : String := "java/lang/System"
def TJ10 : u_T := fun k => match k with
  | _ => ("", "", "", false)
def tyJ10 : Nat → FieldType := fun k => match k with
  | _ => .int
abbrev wsJ100 : List Cond := u_ws RJ10 TJ10 0
theorem nmJ10 : ∀ a, a < 0 → ∀ b, b < 0 → a ≠ b → (TJ10 a).2.1 ≠ (TJ10 b).2.1 := by decide +kernel
theorem tyJ10_ok : ∀ k, k < 0 → parseFieldDescriptor (TJ10 k).2.2.1 = some (tyJ10 k) := by decide +kernel
def RJ3 : String := "jdk/internal/util/Preconditions"
def TJ3 : u_T := fun k => match k with
  | _ => ("", "", "", false)
def tyJ3 : Nat → FieldType := fun k => match k with
  | _ => .int
abbrev wsJ30 : List Cond := u_ws RJ3 TJ3 0
theorem nmJ3 : ∀ a, a < 0 → ∀ b, b < 0 → a ≠ b → (TJ3 a).2.1 ≠ (TJ3 b).2.1 := by decide +kernel
theorem tyJ3_ok : ∀ k, k < 0 → parseFieldDescriptor (TJ3 k).2.2.1 = some (tyJ3 k) := by decide +kernel
abbrev cJ3_checkIndex_8e157 : ByteArray := prog_13_method_11_code
def yJ3_checkIndex_8e157 : MethodName := ⟨RJ3, "checkIndex", "(IILjava/util/function/BiFunction;)I"⟩
def RL : String := "NoseJuryLaw"
abbrev cL_law : ByteArray := code
def yL_law : MethodName := ⟨RL, "law", "([I)Z"⟩
def wsJ0_coder_7d493 : List Cond := .code yJ0_coder_7d493 cJ0_coder_7d493 1 (some .byte) :: ([.fieldLink RJ0 38 "java/lang/String" "COMPACT_STRINGS" "Z", .fieldLink RJ0 15 "java/lang/String" "coder" "B"])
def wsJ0_length_8abf5 : List Cond := .code yJ0_length_8abf5 cJ0_length_8abf5 1 (some .int) :: ([.fieldLink RJ0 9 "java/lang/String" "value" "[B", .methodLink RJ0 335 yJ0_coder_7d493, .instanceMethod yJ0_coder_7d493, .selects RJ0 yJ0_coder_7d493 yJ0_coder_7d493, .initialized RJ0, .code yJ0_coder_7d493 cJ0_coder_7d493 1 (some .byte), .fieldLink RJ0 38 "java/lang/String" "COMPACT_STRINGS" "Z", .fieldLink RJ0 15 "java/lang/String" "coder" "B"])
def wsJ0_isLatin1_aae02 : List Cond := .code yJ0_isLatin1_aae02 cJ0_isLatin1_aae02 1 (some .boolean) :: ([.fieldLink RJ0 38 "java/lang/String" "COMPACT_STRINGS" "Z", .fieldLink RJ0 15 "java/lang/String" "coder" "B"])
def wsJ3_checkIndex_8e157 : List Cond := .code yJ3_checkIndex_8e157 cJ3_checkIndex_8e157 3 (some .int) :: ([])
def wsJ0_checkIndex_df160 : List Cond := .code yJ0_checkIndex_df160 cJ0_checkIndex_df160 2 none :: ([.fieldLink RJ0 1053 "jdk/internal/util/Preconditions" "SIOOBE_FORMATTER" "Ljava/util/function/BiFunction;", .methodLink RJ0 1059 yJ3_checkIndex_8e157, .static yJ3_checkIndex_8e157, .initialized RJ3, .code yJ3_checkIndex_8e157 cJ3_checkIndex_8e157 3 (some .int)])
def wsJ1_charAt_3b067 : List Cond := .code yJ1_charAt_3b067 cJ1_charAt_3b067 2 (some .char) :: ([.methodLink RJ1 9 yJ0_checkIndex_df160, .static yJ0_checkIndex_df160, .initialized RJ0, .code yJ0_checkIndex_df160 cJ0_checkIndex_df160 2 none, .fieldLink RJ0 1053 "jdk/internal/util/Preconditions" "SIOOBE_FORMATTER" "Ljava/util/function/BiFunction;", .methodLink RJ0 1059 yJ3_checkIndex_8e157, .static yJ3_checkIndex_8e157, .initialized RJ3, .code yJ3_checkIndex_8e157 cJ3_checkIndex_8e157 3 (some .int)])
def wsJ2_length_9d52b : List Cond := .code yJ2_length_9d52b cJ2_length_9d52b 1 (some .int) :: ([])
def wsJ2_checkIndex_2214a : List Cond := .code yJ2_checkIndex_2214a cJ2_checkIndex_2214a 2 none :: ([.methodLink RJ2 48 yJ2_length_9d52b, .static yJ2_length_9d52b, .initialized RJ2, .code yJ2_length_9d52b cJ2_length_9d52b 1 (some .int), .methodLink RJ2 414 yJ0_checkIndex_df160, .static yJ0_checkIndex_df160, .initialized RJ0, .code yJ0_checkIndex_df160 cJ0_checkIndex_df160 2 none, .fieldLink RJ0 1053 "jdk/internal/util/Preconditions" "SIOOBE_FORMATTER" "Ljava/util/function/BiFunction;", .methodLink RJ0 1059 yJ3_checkIndex_8e157, .static yJ3_checkIndex_8e157, .initialized RJ3, .code yJ3_checkIndex_8e157 cJ3_checkIndex_8e157 3 (some .int)])
def wsJ2_getChar_3b067 : List Cond := .code yJ2_getChar_3b067 cJ2_getChar_3b067 2 (some .char) :: ([.fieldLink RJ2 44 "java/lang/StringUTF16" "$assertionsDisabled" "Z", .fieldLink RJ2 59 "java/lang/StringUTF16" "HI_BYTE_SHIFT" "I", .fieldLink RJ2 63 "java/lang/StringUTF16" "LO_BYTE_SHIFT" "I", .methodLink RJ2 48 yJ2_length_9d52b, .static yJ2_length_9d52b, .initialized RJ2, .code yJ2_length_9d52b cJ2_length_9d52b 1 (some .int)])
def wsJ2_charAt_3b067 : List Cond := .code yJ2_charAt_3b067 cJ2_charAt_3b067 2 (some .char) :: ([.methodLink RJ2 67 yJ2_checkIndex_2214a, .static yJ2_checkIndex_2214a, .initialized RJ2, .code yJ2_checkIndex_2214a cJ2_checkIndex_2214a 2 none, .methodLink RJ2 48 yJ2_length_9d52b, .static yJ2_length_9d52b, .code yJ2_length_9d52b cJ2_length_9d52b 1 (some .int), .methodLink RJ2 414 yJ0_checkIndex_df160, .static yJ0_checkIndex_df160, .initialized RJ0, .code yJ0_checkIndex_df160 cJ0_checkIndex_df160 2 none, .fieldLink RJ0 1053 "jdk/internal/util/Preconditions" "SIOOBE_FORMATTER" "Ljava/util/function/BiFunction;", .methodLink RJ0 1059 yJ3_checkIndex_8e157, .static yJ3_checkIndex_8e157, .initialized RJ3, .code yJ3_checkIndex_8e157 cJ3_checkIndex_8e157 3 (some .int), .methodLink RJ2 71 yJ2_getChar_3b067, .static yJ2_getChar_3b067, .code yJ2_getChar_3b067 cJ2_getChar_3b067 2 (some .char), .fieldLink RJ2 44 "java/lang/StringUTF16" "$assertionsDisabled" "Z", .fieldLink RJ2 59 "java/lang/StringUTF16" "HI_BYTE_SHIFT" "I", .fieldLink RJ2 63 "java/lang/StringUTF16" "LO_BYTE_SHIFT" "I"])
def wsJ0_charAt_5068e_r1 : List Cond := [Cond.fieldLink RJ0 9 "java/lang/String" "value" "[B", Cond.methodLink RJ0 492 yJ0_isLatin1_aae02, Cond.instanceMethod yJ0_isLatin1_aae02, Cond.selects RJ0 yJ0_isLatin1_aae02 yJ0_isLatin1_aae02, Cond.initialized RJ0, Cond.code yJ0_isLatin1_aae02 cJ0_isLatin1_aae02 1 (some .boolean), Cond.fieldLink RJ0 38 "java/lang/String" "COMPACT_STRINGS" "Z", Cond.fieldLink RJ0 15 "java/lang/String" "coder" "B", Cond.methodLink RJ0 495 yJ1_charAt_3b067, Cond.static yJ1_charAt_3b067, Cond.initialized RJ1, Cond.code yJ1_charAt_3b067 cJ1_charAt_3b067 2 (some .char), Cond.methodLink RJ1 9 yJ0_checkIndex_df160, Cond.static yJ0_checkIndex_df160, Cond.code yJ0_checkIndex_df160 cJ0_checkIndex_df160 2 none, Cond.fieldLink RJ0 1053 "jdk/internal/util/Preconditions" "SIOOBE_FORMATTER" "Ljava/util/function/BiFunction;", Cond.methodLink RJ0 1059 yJ3_checkIndex_8e157, Cond.static yJ3_checkIndex_8e157, Cond.initialized RJ3, Cond.code yJ3_checkIndex_8e157 cJ3_checkIndex_8e157 3 (some .int), Cond.methodLink RJ0 498 yJ2_charAt_3b067, Cond.static yJ2_charAt_3b067, Cond.initialized RJ2, Cond.code yJ2_charAt_3b067 cJ2_charAt_3b067 2 (some .char)]
def wsJ0_charAt_5068e_r2 : List Cond := [Cond.methodLink RJ2 67 yJ2_checkIndex_2214a, Cond.static yJ2_checkIndex_2214a, Cond.code yJ2_checkIndex_2214a cJ2_checkIndex_2214a 2 none, Cond.methodLink RJ2 48 yJ2_length_9d52b, Cond.static yJ2_length_9d52b, Cond.code yJ2_length_9d52b cJ2_length_9d52b 1 (some .int), Cond.methodLink RJ2 414 yJ0_checkIndex_df160, Cond.methodLink RJ2 71 yJ2_getChar_3b067, Cond.static yJ2_getChar_3b067, Cond.code yJ2_getChar_3b067 cJ2_getChar_3b067 2 (some .char), Cond.fieldLink RJ2 44 "java/lang/StringUTF16" "$assertionsDisabled" "Z", Cond.fieldLink RJ2 59 "java/lang/StringUTF16" "HI_BYTE_SHIFT" "I", Cond.fieldLink RJ2 63 "java/lang/StringUTF16" "LO_BYTE_SHIFT" "I"]
def wsJ0_charAt_5068e : List Cond := .code yJ0_charAt_5068e cJ0_charAt_5068e 2 (some .char) :: ((wsJ0_charAt_5068e_r1 ++ wsJ0_charAt_5068e_r2))
def wsJ6_bitCount_0f7a4 : List Cond := .code yJ6_bitCount_0f7a4 cJ6_bitCount_0f7a4 1 (some .int) :: ([.constant RJ6 265 (1431655765), .constant RJ6 266 (858993459), .constant RJ6 267 (252645135)])
def wsJ9_abs_0f7a4 : List Cond := .code yJ9_abs_0f7a4 cJ9_abs_0f7a4 1 (some .int) :: ([])
def wsJ9_max_7cf53 : List Cond := .code yJ9_max_7cf53 cJ9_max_7cf53 2 (some .int) :: ([])
def wsJ9_min_7cf53 : List Cond := .code yJ9_min_7cf53 cJ9_min_7cf53 2 (some .int) :: ([])
def wsL_law_r1 : List Cond := [Cond.classLink RL 7 RX3, Cond.instantiable RX3 7, Cond.initialized RX3, Cond.classLink RL 10 RX4, Cond.instantiable RX4 19, Cond.initialized RX4, Cond.constantLong RL 141 (4294967295), Cond.methodLink RL 9 yX3_init, Cond.instanceMethod yX3_init, Cond.code yX3_init cX3_init 2 none, Cond.methodLink RX3 1 objectInit, Cond.instanceMethod objectInit, Cond.code objectInit ⟨#[0xb1]⟩ 1 none, Cond.classLink RX3 7 RX0, Cond.instantiable RX0 10, Cond.initialized RX0, Cond.fieldLink RX3 10 "NoseJury" "live" "LNoseJury$Hall;", Cond.fieldLink RX3 16 "NoseJury" "kept" "LNoseJury$Hall;", Cond.fieldLink RX3 19 "NoseJury" "trial" "LNoseJury$Hall;", Cond.classLink RX3 22 RX2, Cond.instantiable RX2 6, Cond.initialized RX2, Cond.fieldLink RX3 25 "NoseJury" "tape" "LNoseJury$Tape;", Cond.classLink RX3 29 RX1]
def wsL_law_r2 : List Cond := [Cond.fieldLink RX3 31 "NoseJury" "sheets" "[LNoseJury$Sheet;", Cond.instantiable RX1 3, Cond.initialized RX1, Cond.arrayClass .int, Cond.fieldLink RX3 36 "NoseJury" "told" "[I", Cond.fieldLink RX3 40 "NoseJury" "anyKept" "Z", Cond.methodLink RX3 9 yX0_init, Cond.instanceMethod yX0_init, Cond.code yX0_init cX0_init 1 none, Cond.methodLink RX0 3 objectInit, Cond.fieldLink RX0 9 "NoseJury$Hall" "wind" "I", Cond.fieldLink RX0 15 "NoseJury$Hall" "due" "I", Cond.fieldLink RX0 18 "NoseJury$Hall" "hour" "I", Cond.fieldLink RX0 21 "NoseJury$Hall" "people" "I", Cond.fieldLink RX0 24 "NoseJury$Hall" "kinds" "[I", Cond.fieldLink RX0 28 "NoseJury$Hall" "places" "[I", Cond.fieldLink RX0 31 "NoseJury$Hall" "noses" "[I", Cond.fieldLink RX0 34 "NoseJury$Hall" "colds" "[I", Cond.classLink RX0 37 "[[I", Cond.fieldLink RX0 39 "NoseJury$Hall" "scents" "[[I", Cond.fieldLink RX0 42 "NoseJury$Hall" "later" "[I", Cond.methodLink RX3 24 yX2_init, Cond.instanceMethod yX2_init, Cond.code yX2_init cX2_init 1 none]
def wsL_law_r3 : List Cond := [Cond.methodLink RX2 3 objectInit, Cond.fieldLink RX2 9 "NoseJury$Tape" "length" "I", Cond.fieldLink RX2 15 "NoseJury$Tape" "bytes" "[I", Cond.fieldLink RX2 19 "NoseJury$Tape" "next" "I", Cond.fieldLink RX2 22 "NoseJury$Tape" "token" "I", Cond.fieldLink RX2 25 "NoseJury$Tape" "start" "I", Cond.fieldLink RX2 28 "NoseJury$Tape" "value" "I", Cond.methodLink RX3 35 yX1_init, Cond.instanceMethod yX1_init, Cond.code yX1_init cX1_init 1 none, Cond.methodLink RX1 3 objectInit, Cond.fieldLink RX1 9 "NoseJury$Sheet" "bits" "I", Cond.fieldLink RX1 15 "NoseJury$Sheet" "size" "I", Cond.arrayClass .long, Cond.fieldLink RX1 18 "NoseJury$Sheet" "numbers" "[J", Cond.methodLink RL 12 yX4_init, Cond.instanceMethod yX4_init, Cond.code yX4_init cX4_init 1 none, Cond.methodLink RX4 1 objectInit, Cond.fieldLink RX4 7 "NoseJuryModel" "s" "[I", Cond.fieldLink RX4 13 "NoseJuryModel" "keptS" "[I", Cond.fieldLink RX4 16 "NoseJuryModel" "other" "[I", Cond.fieldLink RX4 19 "NoseJuryModel" "aside" "[I", Cond.fieldLink RX4 22 "NoseJuryModel" "statuses" "[I"]
def wsL_law_r4 : List Cond := [Cond.fieldLink RX4 25 "NoseJuryModel" "then" "[I", Cond.fieldLink RX4 28 "NoseJuryModel" "tape" "[I", Cond.fieldLink RX4 31 "NoseJuryModel" "bitsOf" "[I", Cond.fieldLink RX4 34 "NoseJuryModel" "sizeOf" "[I", Cond.fieldLink RX4 37 "NoseJuryModel" "numbers" "[J", Cond.fieldLink RX4 41 "NoseJuryModel" "moved" "[J", Cond.methodLink RL 13 yX3_law, Cond.instanceMethod yX3_law, Cond.selects RX3 yX3_law yX3_law, Cond.code yX3_law cX3_law 4 (some .int), Cond.fieldLink RX3 48 "NoseJury$Hall" "wind" "I", Cond.fieldLink RX3 52 "NoseJury$Hall" "due" "I", Cond.constant RX3 55 (-1000000001), Cond.methodLink RX3 44 yX3_within, Cond.static yX3_within, Cond.code yX3_within cX3_within 3 (some .boolean), Cond.methodLink RX3 56 yX3_tell, Cond.instanceMethod yX3_tell, Cond.selects RX3 yX3_tell yX3_tell, Cond.code yX3_tell cX3_tell 3 (some .int), Cond.methodLink RL 17 yX4_law, Cond.instanceMethod yX4_law, Cond.selects RX4 yX4_law yX4_law, Cond.code yX4_law cX4_law 4 (some .int)]
def wsL_law_r5 : List Cond := [Cond.constantLong RX4 61 (4), Cond.constantLong RX4 63 (99), Cond.constant RX4 44 (-1000000001), Cond.methodLink RX4 47 yX4_in, Cond.static yX4_in, Cond.code yX4_in cX4_in 6 (some .boolean), Cond.methodLink RX4 65 yX4_becomes, Cond.instanceMethod yX4_becomes, Cond.selects RX4 yX4_becomes yX4_becomes, Cond.code yX4_becomes cX4_becomes 4 (some .int), Cond.methodLink RX4 68 yX4_finds, Cond.instanceMethod yX4_finds, Cond.selects RX4 yX4_finds yX4_finds, Cond.code yX4_finds cX4_finds 2 (some .int), Cond.methodLink RL 18 yX3_person, Cond.instanceMethod yX3_person, Cond.selects RX3 yX3_person yX3_person, Cond.code yX3_person cX3_person 3 (some .int), Cond.fieldLink RX3 67 "NoseJury$Hall" "people" "I", Cond.constant RX3 70 (-1000000002), Cond.methodLink RX3 60 yX3_isKind, Cond.static yX3_isKind, Cond.code yX3_isKind cX3_isKind 1 (some .boolean), Cond.methodLink RX3 64 yX3_isPlace]
def wsL_law_r6 : List Cond := [Cond.static yX3_isPlace, Cond.code yX3_isPlace cX3_isPlace 1 (some .boolean), Cond.methodLink RX3 71 yX0_join, Cond.instanceMethod yX0_join, Cond.selects RX0 yX0_join yX0_join, Cond.code yX0_join cX0_join 5 (some .int), Cond.methodLink RL 21 yX4_person, Cond.instanceMethod yX4_person, Cond.selects RX4 yX4_person yX4_person, Cond.code yX4_person cX4_person 3 (some .int), Cond.constant RX4 78 (-1000000002), Cond.methodLink RX4 72 yX4_isKind, Cond.static yX4_isKind, Cond.code yX4_isKind cX4_isKind 1 (some .boolean), Cond.constantLong RX4 55 (5), Cond.methodLink RX4 75 yX4_isPlace, Cond.static yX4_isPlace, Cond.code yX4_isPlace cX4_isPlace 1 (some .boolean), Cond.constantLong RX4 45 (47), Cond.methodLink RX4 79 yX4_adds, Cond.instanceMethod yX4_adds, Cond.selects RX4 yX4_adds yX4_adds, Cond.code yX4_adds cX4_adds 5 (some .int), Cond.methodLink RX4 57 yX4_spot]
def wsL_law_r7 : List Cond := [Cond.static yX4_spot, Cond.code yX4_spot cX4_spot 2 (some .int), Cond.methodLink RL 22 yX3_of, Cond.instanceMethod yX3_of, Cond.selects RX3 yX3_of yX3_of, Cond.code yX3_of cX3_of 3 (some .int), Cond.fieldLink RX3 78 "NoseJury$Hall" "kinds" "[I", Cond.fieldLink RX3 81 "NoseJury$Hall" "places" "[I", Cond.fieldLink RX3 84 "NoseJury$Hall" "noses" "[I", Cond.fieldLink RX3 87 "NoseJury$Hall" "colds" "[I", Cond.methodLink RX3 75 yX0_has, Cond.instanceMethod yX0_has, Cond.selects RX0 yX0_has yX0_has, Cond.code yX0_has cX0_has 2 (some .boolean), Cond.methodLink RX3 90 yX0_scentsOf, Cond.instanceMethod yX0_scentsOf, Cond.selects RX0 yX0_scentsOf yX0_scentsOf, Cond.code yX0_scentsOf cX0_scentsOf 4 (some .int), Cond.methodLink RX3 93 yX0_givenOffBy, Cond.instanceMethod yX0_givenOffBy, Cond.selects RX0 yX0_givenOffBy yX0_givenOffBy, Cond.code yX0_givenOffBy cX0_givenOffBy 4 (some .int), Cond.methodLink RX0 65 yX0_givesOff, Cond.instanceMethod yX0_givesOff]
def wsL_law_r8 : List Cond := [Cond.selects RX0 yX0_givesOff yX0_givesOff, Cond.code yX0_givesOff cX0_givesOff 4 (some .int), Cond.methodLink RX0 59 Lib.Math.max.name, Cond.static Lib.Math.max.name, Cond.initialized "java/lang/Math", Cond.code Lib.Math.max.name Lib.Math.max.code 2 (some .int), Cond.methodLink RL 25 yX4_of, Cond.instanceMethod yX4_of, Cond.selects RX4 yX4_of yX4_of, Cond.code yX4_of cX4_of 3 (some .int), Cond.methodLink RX4 51 yX4_isPerson, Cond.instanceMethod yX4_isPerson, Cond.selects RX4 yX4_isPerson yX4_isPerson, Cond.code yX4_isPerson cX4_isPerson 2 (some .boolean), Cond.methodLink RX4 82 yX4_its, Cond.instanceMethod yX4_its, Cond.selects RX4 yX4_its yX4_its, Cond.code yX4_its cX4_its 3 (some .int), Cond.methodLink RX4 88 yX4_scentsOf, Cond.instanceMethod yX4_scentsOf, Cond.selects RX4 yX4_scentsOf yX4_scentsOf, Cond.code yX4_scentsOf cX4_scentsOf 4 (some .int), Cond.methodLink RX4 91 yX4_givesOffAll, Cond.instanceMethod yX4_givesOffAll]
def wsL_law_r9 : List Cond := [Cond.selects RX4 yX4_givesOffAll yX4_givesOffAll, Cond.code yX4_givesOffAll cX4_givesOffAll 4 (some .int), Cond.methodLink RX4 85 yX4_givesOff, Cond.instanceMethod yX4_givesOff, Cond.selects RX4 yX4_givesOff yX4_givesOff, Cond.code yX4_givesOff cX4_givesOff 6 (some .int), Cond.methodLink RL 26 yX3_set, Cond.instanceMethod yX3_set, Cond.selects RX3 yX3_set yX3_set, Cond.code yX3_set cX3_set 4 (some .int), Cond.methodLink RX3 96 yX3_exchange, Cond.static yX3_exchange, Cond.code yX3_exchange cX3_exchange 4 (some .int), Cond.methodLink RL 30 yX4_set, Cond.instanceMethod yX4_set, Cond.selects RX4 yX4_set yX4_set, Cond.code yX4_set cX4_set 5 (some .int), Cond.constantLong RX4 94 (9), Cond.methodLink RL 31 yX3_did, Cond.instanceMethod yX3_did, Cond.selects RX3 yX3_did yX3_did, Cond.code yX3_did cX3_did 4 (some .int), Cond.fieldLink RX3 103 "NoseJury$Hall" "scents" "[[I", Cond.methodLink RX3 100 yX3_isDeed]
def wsL_law_r10 : List Cond := [Cond.static yX3_isDeed, Cond.code yX3_isDeed cX3_isDeed 1 (some .boolean), Cond.methodLink RL 34 yX4_did, Cond.instanceMethod yX4_did, Cond.selects RX4 yX4_did yX4_did, Cond.code yX4_did cX4_did 4 (some .int), Cond.methodLink RX4 96 yX4_isDeed, Cond.static yX4_isDeed, Cond.code yX4_isDeed cX4_isDeed 1 (some .boolean), Cond.methodLink RL 35 yX3_scent, Cond.instanceMethod yX3_scent, Cond.selects RX3 yX3_scent yX3_scent, Cond.code yX3_scent cX3_scent 4 (some .int), Cond.methodLink RX3 107 yX0_givesOff, Cond.methodLink RL 38 yX4_scent, Cond.instanceMethod yX4_scent, Cond.selects RX4 yX4_scent yX4_scent, Cond.code yX4_scent cX4_scent 4 (some .int), Cond.methodLink RL 39 yX3_turn, Cond.instanceMethod yX3_turn, Cond.selects RX3 yX3_turn yX3_turn, Cond.code yX3_turn cX3_turn 3 (some .int), Cond.methodLink RL 42 yX4_turn, Cond.instanceMethod yX4_turn]
def wsL_law_r11 : List Cond := [Cond.selects RX4 yX4_turn yX4_turn, Cond.code yX4_turn cX4_turn 3 (some .int), Cond.methodLink RL 43 yX3_as, Cond.instanceMethod yX3_as, Cond.selects RX3 yX3_as yX3_as, Cond.code yX3_as cX3_as 3 (some .int), Cond.constant RX3 114 (-1000000003), Cond.methodLink RX3 110 yX3_isUnder, Cond.static yX3_isUnder, Cond.code yX3_isUnder cX3_isUnder 2 (some .boolean), Cond.methodLink RL 46 yX4_as, Cond.instanceMethod yX4_as, Cond.selects RX4 yX4_as yX4_as, Cond.code yX4_as cX4_as 3 (some .int), Cond.constant RX4 103 (-1000000003), Cond.methodLink RX4 99 yX4_isUnder, Cond.static yX4_isUnder, Cond.code yX4_isUnder cX4_isUnder 2 (some .boolean), Cond.methodLink RL 47 yX3_wash, Cond.instanceMethod yX3_wash, Cond.selects RX3 yX3_wash yX3_wash, Cond.code yX3_wash cX3_wash 2 (some .int), Cond.methodLink RX3 115 yX0_washes, Cond.instanceMethod yX0_washes]
def wsL_law_r12 : List Cond := [Cond.selects RX0 yX0_washes yX0_washes, Cond.code yX0_washes cX0_washes 5 (some .int), Cond.methodLink RL 51 yX4_wash, Cond.instanceMethod yX4_wash, Cond.selects RX4 yX4_wash yX4_wash, Cond.code yX4_wash cX4_wash 2 (some .int), Cond.methodLink RX4 104 yX4_washes, Cond.instanceMethod yX4_washes, Cond.selects RX4 yX4_washes yX4_washes, Cond.code yX4_washes cX4_washes 5 (some .int), Cond.methodLink RL 52 yX3_meet, Cond.instanceMethod yX3_meet, Cond.selects RX3 yX3_meet yX3_meet, Cond.code yX3_meet cX3_meet 8 (some .int), Cond.methodLink RX3 121 Lib.Math.max.name, Cond.methodLink RX3 118 yX0_hasTwo, Cond.instanceMethod yX0_hasTwo, Cond.selects RX0 yX0_hasTwo yX0_hasTwo, Cond.code yX0_hasTwo cX0_hasTwo 3 (some .boolean), Cond.methodLink RX0 51 yX0_has, Cond.methodLink RL 55 yX4_meet, Cond.instanceMethod yX4_meet, Cond.selects RX4 yX4_meet yX4_meet, Cond.code yX4_meet cX4_meet 8 (some .int)]
def wsL_law_r13 : List Cond := [Cond.methodLink RX4 107 yX4_areTwo, Cond.instanceMethod yX4_areTwo, Cond.selects RX4 yX4_areTwo yX4_areTwo, Cond.code yX4_areTwo cX4_areTwo 3 (some .boolean), Cond.methodLink RX4 110 yX4_grows, Cond.instanceMethod yX4_grows, Cond.selects RX4 yX4_grows yX4_grows, Cond.code yX4_grows cX4_grows 4 (some .int), Cond.methodLink RL 56 yX3_smells, Cond.instanceMethod yX3_smells, Cond.selects RX3 yX3_smells yX3_smells, Cond.code yX3_smells cX3_smells 4 (some .int), Cond.methodLink RX3 126 yX0_smelt, Cond.instanceMethod yX0_smelt, Cond.selects RX0 yX0_smelt yX0_smelt, Cond.code yX0_smelt cX0_smelt 5 (some .int), Cond.methodLink RX0 68 yX0_apart, Cond.static yX0_apart, Cond.code yX0_apart cX0_apart 2 (some .int), Cond.methodLink RX0 102 Lib.Math.abs.name, Cond.static Lib.Math.abs.name, Cond.code Lib.Math.abs.name Lib.Math.abs.code 1 (some .int), Cond.methodLink RX0 71 yX0_senses, Cond.instanceMethod yX0_senses]
def wsL_law_r14 : List Cond := [Cond.selects RX0 yX0_senses yX0_senses, Cond.code yX0_senses cX0_senses 5 (some .int), Cond.methodLink RX0 75 yX0_isDownwind, Cond.instanceMethod yX0_isDownwind, Cond.selects RX0 yX0_isDownwind yX0_isDownwind, Cond.code yX0_isDownwind cX0_isDownwind 3 (some .boolean), Cond.methodLink RL 59 yX4_smells, Cond.instanceMethod yX4_smells, Cond.selects RX4 yX4_smells yX4_smells, Cond.code yX4_smells cX4_smells 4 (some .int), Cond.methodLink RX4 126 yX4_smell, Cond.instanceMethod yX4_smell, Cond.selects RX4 yX4_smell yX4_smell, Cond.code yX4_smell cX4_smell 5 (some .int), Cond.methodLink RX4 116 yX4_apart, Cond.instanceMethod yX4_apart, Cond.selects RX4 yX4_apart yX4_apart, Cond.code yX4_apart cX4_apart 5 (some .int), Cond.methodLink RX4 113 yX4_absolute, Cond.static yX4_absolute, Cond.code yX4_absolute cX4_absolute 1 (some .int), Cond.methodLink RX4 119 yX4_senses, Cond.instanceMethod yX4_senses, Cond.selects RX4 yX4_senses yX4_senses]
def wsL_law_r15 : List Cond := [Cond.code yX4_senses cX4_senses 5 (some .int), Cond.methodLink RX4 123 yX4_isDownwind, Cond.instanceMethod yX4_isDownwind, Cond.selects RX4 yX4_isDownwind yX4_isDownwind, Cond.code yX4_isDownwind cX4_isDownwind 5 (some .boolean), Cond.methodLink RL 60 yX3_deed, Cond.instanceMethod yX3_deed, Cond.selects RX3 yX3_deed yX3_deed, Cond.code yX3_deed cX3_deed 7 (some .int), Cond.constant RX3 130 (-1000000004), Cond.methodLink RL 63 yX4_deed, Cond.instanceMethod yX4_deed, Cond.selects RX4 yX4_deed yX4_deed, Cond.code yX4_deed cX4_deed 7 (some .int), Cond.constant RX4 129 (-1000000004), Cond.methodLink RL 64 yX3_guilty, Cond.instanceMethod yX3_guilty, Cond.selects RX3 yX3_guilty yX3_guilty, Cond.code yX3_guilty cX3_guilty 2 (some .int), Cond.methodLink RX3 131 yX0_finders, Cond.instanceMethod yX0_finders, Cond.selects RX0 yX0_finders yX0_finders, Cond.code yX0_finders cX0_finders 4 (some .int), Cond.methodLink RX0 85 yX0_finds]
def wsL_law_r16 : List Cond := [Cond.instanceMethod yX0_finds, Cond.selects RX0 yX0_finds yX0_finds, Cond.code yX0_finds cX0_finds 4 (some .boolean), Cond.methodLink RX0 82 yX0_smelt, Cond.methodLink RL 67 yX4_guilty, Cond.instanceMethod yX4_guilty, Cond.selects RX4 yX4_guilty yX4_guilty, Cond.code yX4_guilty cX4_guilty 2 (some .int), Cond.methodLink RX4 133 yX4_finders, Cond.instanceMethod yX4_finders, Cond.selects RX4 yX4_finders yX4_finders, Cond.code yX4_finders cX4_finders 4 (some .int), Cond.methodLink RX4 130 yX4_isFound, Cond.instanceMethod yX4_isFound, Cond.selects RX4 yX4_isFound yX4_isFound, Cond.code yX4_isFound cX4_isFound 6 (some .boolean), Cond.methodLink RL 68 yX3_convicts, Cond.instanceMethod yX3_convicts, Cond.selects RX3 yX3_convicts yX3_convicts, Cond.code yX3_convicts cX3_convicts 3 (some .int), Cond.constant RX3 138 (-1000000005), Cond.methodLink RX3 134 yX0_everybody, Cond.instanceMethod yX0_everybody, Cond.selects RX0 yX0_everybody yX0_everybody]
def wsL_law_r17 : List Cond := [Cond.code yX0_everybody cX0_everybody 1 (some .int), Cond.methodLink RX3 139 yX3_isMajority, Cond.static yX3_isMajority, Cond.code yX3_isMajority cX3_isMajority 2 (some .boolean), Cond.methodLink RX3 165 yJ6_bitCount_0f7a4, Cond.static yJ6_bitCount_0f7a4, Cond.initialized RJ6, Cond.code yJ6_bitCount_0f7a4 cJ6_bitCount_0f7a4 1 (some .int), Cond.constant RJ6 265 (1431655765), Cond.constant RJ6 266 (858993459), Cond.constant RJ6 267 (252645135), Cond.methodLink RL 71 yX4_convicts, Cond.instanceMethod yX4_convicts, Cond.selects RX4 yX4_convicts yX4_convicts, Cond.code yX4_convicts cX4_convicts 3 (some .int), Cond.constant RX4 139 (-1000000005), Cond.methodLink RX4 140 yX4_isConvicted, Cond.static yX4_isConvicted, Cond.code yX4_isConvicted cX4_isConvicted 2 (some .boolean), Cond.methodLink RX4 136 yX4_ones, Cond.static yX4_ones, Cond.code yX4_ones cX4_ones 3 (some .int), Cond.methodLink RL 72 yX3_hours, Cond.instanceMethod yX3_hours]
def wsL_law_r18 : List Cond := [Cond.selects RX3 yX3_hours yX3_hours, Cond.code yX3_hours cX3_hours 3 (some .int), Cond.fieldLink RX3 142 "NoseJury$Hall" "hour" "I", Cond.methodLink RX3 145 yX0_hourGoes, Cond.instanceMethod yX0_hourGoes, Cond.selects RX0 yX0_hourGoes yX0_hourGoes, Cond.code yX0_hourGoes cX0_hourGoes 2 none, Cond.methodLink RX0 92 yX0_fade, Cond.instanceMethod yX0_fade, Cond.selects RX0 yX0_fade yX0_fade, Cond.code yX0_fade cX0_fade 6 none, Cond.methodLink RX0 45 arraycopyName, Cond.native arraycopyName, Cond.static arraycopyName, Cond.initialized "java/lang/System", Cond.methodLink RX0 96 yX0_strongestBeside, Cond.instanceMethod yX0_strongestBeside, Cond.selects RX0 yX0_strongestBeside yX0_strongestBeside, Cond.code yX0_strongestBeside cX0_strongestBeside 6 (some .int), Cond.static yX3_faded, Cond.code yX3_faded cX3_faded 2 (some .int), Cond.methodLink RX3 148 yX0_scentsOfAll, Cond.instanceMethod yX0_scentsOfAll, Cond.selects RX0 yX0_scentsOfAll yX0_scentsOfAll]
def wsL_law_r19 : List Cond := [Cond.code yX0_scentsOfAll cX0_scentsOfAll 3 (some .int), Cond.methodLink RX0 55 yX0_sumOver, Cond.instanceMethod yX0_sumOver, Cond.selects RX0 yX0_sumOver yX0_sumOver, Cond.code yX0_sumOver cX0_sumOver 4 (some .int), Cond.methodLink RL 75 yX4_hours, Cond.instanceMethod yX4_hours, Cond.selects RX4 yX4_hours yX4_hours, Cond.code yX4_hours cX4_hours 2 (some .int), Cond.constantLong RX4 152 (60), Cond.methodLink RX4 154 yX4_goesOn, Cond.instanceMethod yX4_goesOn, Cond.selects RX4 yX4_goesOn yX4_goesOn, Cond.code yX4_goesOn cX4_goesOn 3 none, Cond.methodLink RX4 149 yX4_hour, Cond.instanceMethod yX4_hour, Cond.selects RX4 yX4_hour yX4_hour, Cond.code yX4_hour cX4_hour 4 none, Cond.methodLink RX4 143 yX4_leftOf, Cond.instanceMethod yX4_leftOf, Cond.selects RX4 yX4_leftOf yX4_leftOf, Cond.code yX4_leftOf cX4_leftOf 5 (some .int), Cond.methodLink RX4 146 yX4_greatestBy, Cond.instanceMethod yX4_greatestBy]
def wsL_law_r20 : List Cond := [Cond.selects RX4 yX4_greatestBy yX4_greatestBy, Cond.code yX4_greatestBy cX4_greatestBy 6 (some .int), Cond.methodLink RX4 158 yX4_scentsAll, Cond.instanceMethod yX4_scentsAll, Cond.selects RX4 yX4_scentsAll yX4_scentsAll, Cond.code yX4_scentsAll cX4_scentsAll 3 (some .int), Cond.methodLink RL 76 yX3_now, Cond.instanceMethod yX3_now, Cond.selects RX3 yX3_now yX3_now, Cond.code yX3_now cX3_now 2 (some .int), Cond.methodLink RX3 151 yX0_foundGuilty, Cond.instanceMethod yX0_foundGuilty, Cond.selects RX0 yX0_foundGuilty yX0_foundGuilty, Cond.code yX0_foundGuilty cX0_foundGuilty 3 (some .int), Cond.methodLink RX0 88 yX0_finders, Cond.methodLink RL 79 yX4_now, Cond.instanceMethod yX4_now, Cond.selects RX4 yX4_now yX4_now, Cond.code yX4_now cX4_now 2 (some .int), Cond.methodLink RX4 162 yX4_allGuilty, Cond.instanceMethod yX4_allGuilty, Cond.selects RX4 yX4_allGuilty yX4_allGuilty, Cond.code yX4_allGuilty cX4_allGuilty 3 (some .int), Cond.methodLink RL 80 yX3_on]
def wsL_law_r21 : List Cond := [Cond.instanceMethod yX3_on, Cond.selects RX3 yX3_on yX3_on, Cond.code yX3_on cX3_on 5 (some .int), Cond.methodLink RX3 154 yX0_become, Cond.instanceMethod yX0_become, Cond.selects RX0 yX0_become yX0_become, Cond.code yX0_become cX0_become 3 none, Cond.methodLink RX3 158 yX0_hourGoesFor, Cond.instanceMethod yX0_hourGoesFor, Cond.selects RX0 yX0_hourGoesFor yX0_hourGoesFor, Cond.code yX0_hourGoesFor cX0_hourGoesFor 2 none, Cond.methodLink RL 83 yX4_on, Cond.instanceMethod yX4_on, Cond.selects RX4 yX4_on yX4_on, Cond.code yX4_on cX4_on 4 (some .int), Cond.methodLink RX4 165 yX4_laysAside, Cond.instanceMethod yX4_laysAside, Cond.selects RX4 yX4_laysAside yX4_laysAside, Cond.code yX4_laysAside cX4_laysAside 2 none, Cond.methodLink RX4 168 yX4_takesBack, Cond.instanceMethod yX4_takesBack, Cond.selects RX4 yX4_takesBack yX4_takesBack, Cond.code yX4_takesBack cX4_takesBack 3 (some .int), Cond.methodLink RL 84 yX3_clean]
def wsL_law_r22 : List Cond := [Cond.instanceMethod yX3_clean, Cond.selects RX3 yX3_clean yX3_clean, Cond.code yX3_clean cX3_clean 3 (some .int), Cond.methodLink RL 87 yX4_clean, Cond.instanceMethod yX4_clean, Cond.selects RX4 yX4_clean yX4_clean, Cond.code yX4_clean cX4_clean 4 (some .int), Cond.methodLink RL 88 yX3_wind, Cond.instanceMethod yX3_wind, Cond.selects RX3 yX3_wind yX3_wind, Cond.code yX3_wind cX3_wind 2 (some .int), Cond.methodLink RX3 162 yX3_fewestFind, Cond.instanceMethod yX3_fewestFind, Cond.selects RX3 yX3_fewestFind yX3_fewestFind, Cond.code yX3_fewestFind cX3_fewestFind 8 (some .int), Cond.methodLink RX3 242 yX0_put, Cond.instanceMethod yX0_put, Cond.selects RX0 yX0_put yX0_put, Cond.code yX0_put cX0_put 4 none, Cond.methodLink RL 91 yX4_wind, Cond.instanceMethod yX4_wind, Cond.selects RX4 yX4_wind yX4_wind, Cond.code yX4_wind cX4_wind 2 (some .int), Cond.methodLink RX4 174 yX4_leastBy]
def wsL_law_r23 : List Cond := [Cond.instanceMethod yX4_leastBy, Cond.selects RX4 yX4_leastBy yX4_leastBy, Cond.code yX4_leastBy cX4_leastBy 9 (some .int), Cond.methodLink RX4 171 yX4_findersMany, Cond.instanceMethod yX4_findersMany, Cond.selects RX4 yX4_findersMany yX4_findersMany, Cond.code yX4_findersMany cX4_findersMany 2 (some .int), Cond.methodLink RL 92 yX3_seat, Cond.instanceMethod yX3_seat, Cond.selects RX3 yX3_seat yX3_seat, Cond.code yX3_seat cX3_seat 2 (some .int), Cond.methodLink RL 95 yX4_seat, Cond.instanceMethod yX4_seat, Cond.selects RX4 yX4_seat yX4_seat, Cond.code yX4_seat cX4_seat 2 (some .int), Cond.methodLink RL 96 yX3_bath, Cond.instanceMethod yX3_bath, Cond.selects RX3 yX3_bath yX3_bath, Cond.code yX3_bath cX3_bath 6 (some .int), Cond.methodLink RL 99 yX4_bath, Cond.instanceMethod yX4_bath, Cond.selects RX4 yX4_bath yX4_bath, Cond.code yX4_bath cX4_bath 7 (some .int), Cond.methodLink RL 100 yX3_kind]
def wsL_law_r24 : List Cond := [Cond.instanceMethod yX3_kind, Cond.selects RX3 yX3_kind yX3_kind, Cond.code yX3_kind cX3_kind 2 (some .int), Cond.methodLink RL 103 yX4_kind, Cond.instanceMethod yX4_kind, Cond.selects RX4 yX4_kind yX4_kind, Cond.code yX4_kind cX4_kind 2 (some .int), Cond.methodLink RL 104 yX3_due, Cond.instanceMethod yX3_due, Cond.selects RX3 yX3_due yX3_due, Cond.code yX3_due cX3_due 3 (some .int), Cond.methodLink RL 107 yX4_due, Cond.instanceMethod yX4_due, Cond.selects RX4 yX4_due yX4_due, Cond.code yX4_due cX4_due 4 (some .int), Cond.methodLink RL 108 yX3_jury, Cond.instanceMethod yX3_jury, Cond.selects RX3 yX3_jury yX3_jury, Cond.code yX3_jury cX3_jury 5 (some .int), Cond.methodLink RX3 170 yX3_isJuryAgainst, Cond.static yX3_isJuryAgainst, Cond.code yX3_isJuryAgainst cX3_isJuryAgainst 4 (some .boolean), Cond.methodLink RL 111 yX4_jury, Cond.instanceMethod yX4_jury]
def wsL_law_r25 : List Cond := [Cond.selects RX4 yX4_jury yX4_jury, Cond.code yX4_jury cX4_jury 3 (some .int), Cond.constantLong RX4 184 (7), Cond.fieldLink RX4 177 "NoseJuryModel" "firstJury" "I", Cond.methodLink RX4 186 yX4_findJuries, Cond.instanceMethod yX4_findJuries, Cond.selects RX4 yX4_findJuries yX4_findJuries, Cond.code yX4_findJuries cX4_findJuries 5 none, Cond.fieldLink RX4 181 "NoseJuryModel" "manyJuries" "I", Cond.methodLink RL 112 yX3_juries, Cond.instanceMethod yX3_juries, Cond.selects RX3 yX3_juries yX3_juries, Cond.code yX3_juries cX3_juries 6 (some .int), Cond.methodLink RL 115 yX4_juries, Cond.instanceMethod yX4_juries, Cond.selects RX4 yX4_juries yX4_juries, Cond.code yX4_juries cX4_juries 3 (some .int), Cond.methodLink RL 116 yX3_from, Cond.instanceMethod yX3_from, Cond.selects RX3 yX3_from yX3_from, Cond.code yX3_from cX3_from 5 (some .int), Cond.methodLink RX3 174 yX0_strongestBeside, Cond.methodLink RX3 177 yX3_faded, Cond.methodLink RL 119 yX4_from]
def wsL_law_r26 : List Cond := [Cond.instanceMethod yX4_from, Cond.selects RX4 yX4_from yX4_from, Cond.code yX4_from cX4_from 6 (some .int), Cond.methodLink RL 120 yX3_nose, Cond.instanceMethod yX3_nose, Cond.selects RX3 yX3_nose yX3_nose, Cond.code yX3_nose cX3_nose 4 (some .int), Cond.methodLink RX3 180 yX0_finds, Cond.methodLink RL 123 yX4_nose, Cond.instanceMethod yX4_nose, Cond.selects RX4 yX4_nose yX4_nose, Cond.code yX4_nose cX4_nose 6 (some .int), Cond.methodLink RL 124 yX3_feed, Cond.instanceMethod yX3_feed, Cond.selects RX3 yX3_feed yX3_feed, Cond.code yX3_feed cX3_feed 4 (some .int), Cond.fieldLink RX3 183 "NoseJury$Tape" "length" "I", Cond.methodLink RX3 186 yX2_append, Cond.instanceMethod yX2_append, Cond.selects RX2 yX2_append yX2_append, Cond.code yX2_append cX2_append 2 none, Cond.methodLink RL 127 yX4_feed, Cond.instanceMethod yX4_feed, Cond.selects RX4 yX4_feed yX4_feed]
def wsL_law_r27 : List Cond := [Cond.code yX4_feed cX4_feed 4 (some .int), Cond.fieldLink RX4 190 "NoseJuryModel" "taped" "I", Cond.methodLink RL 128 yX3_wipe, Cond.instanceMethod yX3_wipe, Cond.selects RX3 yX3_wipe yX3_wipe, Cond.code yX3_wipe cX3_wipe 2 (some .int), Cond.methodLink RL 132 yX4_wipe, Cond.instanceMethod yX4_wipe, Cond.selects RX4 yX4_wipe yX4_wipe, Cond.code yX4_wipe cX4_wipe 2 (some .int), Cond.methodLink RL 133 yX3_hall, Cond.instanceMethod yX3_hall, Cond.selects RX3 yX3_hall yX3_hall, Cond.code yX3_hall cX3_hall 2 (some .int), Cond.methodLink RX3 189 yX2_tellTo, Cond.instanceMethod yX2_tellTo, Cond.selects RX2 yX2_tellTo yX2_tellTo, Cond.code yX2_tellTo cX2_tellTo 3 (some .int), Cond.methodLink RX2 31 yX2_step, Cond.instanceMethod yX2_step, Cond.selects RX2 yX2_step yX2_step, Cond.code yX2_step cX2_step 1 none, Cond.methodLink RX2 130 yX2_isLetter, Cond.static yX2_isLetter]
def wsL_law_r28 : List Cond := [Cond.code yX2_isLetter cX2_isLetter 1 (some .boolean), Cond.methodLink RX2 134 yX2_passWord, Cond.instanceMethod yX2_passWord, Cond.selects RX2 yX2_passWord yX2_passWord, Cond.code yX2_passWord cX2_passWord 1 none, Cond.methodLink RX2 137 yX2_isDigit, Cond.static yX2_isDigit, Cond.code yX2_isDigit cX2_isDigit 1 (some .boolean), Cond.methodLink RX2 140 yX2_passNumber, Cond.instanceMethod yX2_passNumber, Cond.selects RX2 yX2_passNumber yX2_passNumber, Cond.code yX2_passNumber cX2_passNumber 1 none, Cond.methodLink RX2 143 Lib.Math.min.name, Cond.static Lib.Math.min.name, Cond.code Lib.Math.min.name Lib.Math.min.code 2 (some .int), Cond.methodLink RX2 34 yX2_takesItem, Cond.instanceMethod yX2_takesItem, Cond.selects RX2 yX2_takesItem yX2_takesItem, Cond.code yX2_takesItem cX2_takesItem 3 (some .boolean), Cond.methodLink RX2 40 yX2_isWord, Cond.instanceMethod yX2_isWord, Cond.selects RX2 yX2_isWord yX2_isWord, Cond.code yX2_isWord cX2_isWord 3 (some .boolean), Cond.methodLink RX2 122 yJ0_length_8abf5]
def wsL_law_r29 : List Cond := [Cond.instanceMethod yJ0_length_8abf5, Cond.selects RJ0 yJ0_length_8abf5 yJ0_length_8abf5, Cond.initialized RJ0, Cond.code yJ0_length_8abf5 cJ0_length_8abf5 1 (some .int), Cond.fieldLink RJ0 9 "java/lang/String" "value" "[B", Cond.methodLink RJ0 335 yJ0_coder_7d493, Cond.instanceMethod yJ0_coder_7d493, Cond.selects RJ0 yJ0_coder_7d493 yJ0_coder_7d493, Cond.code yJ0_coder_7d493 cJ0_coder_7d493 1 (some .byte), Cond.fieldLink RJ0 38 "java/lang/String" "COMPACT_STRINGS" "Z", Cond.fieldLink RJ0 15 "java/lang/String" "coder" "B", Cond.methodLink RX2 126 yJ0_charAt_5068e, Cond.instanceMethod yJ0_charAt_5068e, Cond.selects RJ0 yJ0_charAt_5068e yJ0_charAt_5068e, Cond.code yJ0_charAt_5068e cJ0_charAt_5068e 2 (some .char), Cond.methodLink RJ0 492 yJ0_isLatin1_aae02, Cond.instanceMethod yJ0_isLatin1_aae02, Cond.selects RJ0 yJ0_isLatin1_aae02 yJ0_isLatin1_aae02, Cond.code yJ0_isLatin1_aae02 cJ0_isLatin1_aae02 1 (some .boolean), Cond.methodLink RJ0 495 yJ1_charAt_3b067, Cond.static yJ1_charAt_3b067, Cond.initialized RJ1, Cond.code yJ1_charAt_3b067 cJ1_charAt_3b067 2 (some .char), Cond.methodLink RJ1 9 yJ0_checkIndex_df160]
def wsL_law_r30 : List Cond := [Cond.static yJ0_checkIndex_df160, Cond.code yJ0_checkIndex_df160 cJ0_checkIndex_df160 2 none, Cond.fieldLink RJ0 1053 "jdk/internal/util/Preconditions" "SIOOBE_FORMATTER" "Ljava/util/function/BiFunction;", Cond.methodLink RJ0 1059 yJ3_checkIndex_8e157, Cond.static yJ3_checkIndex_8e157, Cond.initialized RJ3, Cond.code yJ3_checkIndex_8e157 cJ3_checkIndex_8e157 3 (some .int), Cond.methodLink RJ0 498 yJ2_charAt_3b067, Cond.static yJ2_charAt_3b067, Cond.initialized RJ2, Cond.code yJ2_charAt_3b067 cJ2_charAt_3b067 2 (some .char), Cond.methodLink RJ2 67 yJ2_checkIndex_2214a, Cond.static yJ2_checkIndex_2214a, Cond.code yJ2_checkIndex_2214a cJ2_checkIndex_2214a 2 none, Cond.methodLink RJ2 48 yJ2_length_9d52b, Cond.static yJ2_length_9d52b, Cond.code yJ2_length_9d52b cJ2_length_9d52b 1 (some .int), Cond.methodLink RJ2 414 yJ0_checkIndex_df160, Cond.methodLink RJ2 71 yJ2_getChar_3b067, Cond.static yJ2_getChar_3b067, Cond.code yJ2_getChar_3b067 cJ2_getChar_3b067 2 (some .char), Cond.fieldLink RJ2 44 "java/lang/StringUTF16" "$assertionsDisabled" "Z", Cond.fieldLink RJ2 59 "java/lang/StringUTF16" "HI_BYTE_SHIFT" "I", Cond.fieldLink RJ2 63 "java/lang/StringUTF16" "LO_BYTE_SHIFT" "I"]
def wsL_law_r31 : List Cond := [Cond.methodLink RX2 44 yX2_takesWind, Cond.instanceMethod yX2_takesWind, Cond.selects RX2 yX2_takesWind yX2_takesWind, Cond.code yX2_takesWind cX2_takesWind 2 (some .boolean), Cond.fieldLink RX2 71 "NoseJury$Hall" "wind" "I", Cond.methodLink RX2 67 yX2_takesNumber, Cond.instanceMethod yX2_takesNumber, Cond.selects RX2 yX2_takesNumber yX2_takesNumber, Cond.code yX2_takesNumber cX2_takesNumber 3 (some .boolean), Cond.methodLink RX2 49 yX2_takesDue, Cond.instanceMethod yX2_takesDue, Cond.selects RX2 yX2_takesDue yX2_takesDue, Cond.code yX2_takesDue cX2_takesDue 2 (some .boolean), Cond.fieldLink RX2 75 "NoseJury$Hall" "due" "I", Cond.methodLink RX2 52 yX2_takesPerson, Cond.instanceMethod yX2_takesPerson, Cond.selects RX2 yX2_takesPerson yX2_takesPerson, Cond.code yX2_takesPerson cX2_takesPerson 4 (some .int), Cond.fieldLink RX2 81 "NoseJury$Hall" "people" "I", Cond.methodLink RX2 77 yX2_kindNamed, Cond.instanceMethod yX2_kindNamed, Cond.selects RX2 yX2_kindNamed yX2_kindNamed, Cond.code yX2_kindNamed cX2_kindNamed 2 (some .int), Cond.methodLink RX2 106 yX2_nameOf]
def wsL_law_r32 : List Cond := [Cond.static yX2_nameOf, Cond.code yX2_nameOf cX2_nameOf 1 (some (.object "java/lang/String")), Cond.methodLink RX2 86 yX0_join, Cond.methodLink RX2 56 yX2_takesNose, Cond.instanceMethod yX2_takesNose, Cond.selects RX2 yX2_takesNose yX2_takesNose, Cond.code yX2_takesNose cX2_takesNose 3 (some .boolean), Cond.fieldLink RX2 92 "NoseJury$Hall" "noses" "[I", Cond.methodLink RX2 60 yX2_takeCold, Cond.instanceMethod yX2_takeCold, Cond.selects RX2 yX2_takeCold yX2_takeCold, Cond.code yX2_takeCold cX2_takeCold 3 none, Cond.fieldLink RX2 97 "NoseJury$Hall" "colds" "[I", Cond.methodLink RX2 64 yX2_takesDeed, Cond.instanceMethod yX2_takesDeed, Cond.selects RX2 yX2_takesDeed yX2_takesDeed, Cond.code yX2_takesDeed cX2_takesDeed 4 (some .boolean), Cond.fieldLink RX2 102 "NoseJury$Hall" "scents" "[[I", Cond.methodLink RL 136 yX4_hall, Cond.instanceMethod yX4_hall, Cond.selects RX4 yX4_hall yX4_hall, Cond.code yX4_hall cX4_hall 2 (some .int), Cond.fieldLink RX4 216 "NoseJuryModel" "isWrong" "Z", Cond.fieldLink RX4 201 "NoseJuryModel" "to" "I"]
def wsL_law_r33 : List Cond := [Cond.fieldLink RX4 204 "NoseJuryModel" "from" "I", Cond.methodLink RX4 271 yX4_saves, Cond.instanceMethod yX4_saves, Cond.selects RX4 yX4_saves yX4_saves, Cond.code yX4_saves cX4_saves 2 none, Cond.methodLink RX4 220 yX4_token, Cond.instanceMethod yX4_token, Cond.selects RX4 yX4_token yX4_token, Cond.code yX4_token cX4_token 3 none, Cond.methodLink RX4 207 yX4_byteAt, Cond.instanceMethod yX4_byteAt, Cond.selects RX4 yX4_byteAt yX4_byteAt, Cond.code yX4_byteAt cX4_byteAt 2 (some .int), Cond.methodLink RX4 210 yX4_isLetter, Cond.static yX4_isLetter, Cond.code yX4_isLetter cX4_isLetter 1 (some .boolean), Cond.constantLong RX4 193 (97), Cond.constantLong RX4 195 (122), Cond.methodLink RX4 213 yX4_isDigit, Cond.static yX4_isDigit, Cond.code yX4_isDigit cX4_isDigit 1 (some .boolean), Cond.constantLong RX4 197 (48), Cond.constantLong RX4 199 (57), Cond.methodLink RX4 274 yX4_item]
def wsL_law_r34 : List Cond := [Cond.instanceMethod yX4_item, Cond.selects RX4 yX4_item yX4_item, Cond.code yX4_item cX4_item 4 none, Cond.constantLong RX4 267 (763332), Cond.fieldLink RX4 227 "NoseJuryModel" "value" "I", Cond.constantLong RX4 269 (4773), Cond.methodLink RX4 261 yX4_kindHere, Cond.instanceMethod yX4_kindHere, Cond.selects RX4 yX4_kindHere yX4_kindHere, Cond.code yX4_kindHere cX4_kindHere 3 (some .int), Cond.constantLong RX4 238 (542723566), Cond.constantLong RX4 240 (114155), Cond.constantLong RX4 242 (2253324406962), Cond.constantLong RX4 244 (4583), Cond.constantLong RX4 246 (555735495858), Cond.constantLong RX4 248 (8902084), Cond.methodLink RX4 234 yX4_word, Cond.instanceMethod yX4_word, Cond.selects RX4 yX4_word yX4_word, Cond.code yX4_word cX4_word 4 (some .long), Cond.constantLong RX4 223 (36028797018963967), Cond.constantLong RX4 225 (32), Cond.methodLink RX4 264 yX4_personItem, Cond.instanceMethod yX4_personItem]
def wsL_law_r35 : List Cond := [Cond.selects RX4 yX4_personItem yX4_personItem, Cond.code yX4_personItem cX4_personItem 4 none, Cond.constantLong RX4 250 (52), Cond.constantLong RX4 255 (474725), Cond.constantLong RX4 257 (114052), Cond.constantLong RX4 259 (4388), Cond.methodLink RX4 230 yX4_must, Cond.instanceMethod yX4_must, Cond.selects RX4 yX4_must yX4_must, Cond.code yX4_must cX4_must 2 none, Cond.methodLink RX4 252 yX4_number, Cond.instanceMethod yX4_number, Cond.selects RX4 yX4_number yX4_number, Cond.code yX4_number cX4_number 6 none, Cond.methodLink RX4 277 yX4_putsBack, Cond.instanceMethod yX4_putsBack, Cond.selects RX4 yX4_putsBack yX4_putsBack, Cond.code yX4_putsBack cX4_putsBack 2 none, Cond.methodLink RL 137 yX3_sheet, Cond.instanceMethod yX3_sheet, Cond.selects RX3 yX3_sheet yX3_sheet, Cond.code yX3_sheet cX3_sheet 4 (some .int), Cond.constant RX3 196 (-1000000007), Cond.fieldLink RX3 201 "NoseJury$Sheet" "size" "I"]
def wsL_law_r36 : List Cond := [Cond.methodLink RX3 193 yX3_isSheet, Cond.static yX3_isSheet, Cond.code yX3_isSheet cX3_isSheet 1 (some .boolean), Cond.methodLink RX3 197 yX1_renew, Cond.instanceMethod yX1_renew, Cond.selects RX1 yX1_renew yX1_renew, Cond.code yX1_renew cX1_renew 4 none, Cond.methodLink RL 140 yX4_sheet, Cond.instanceMethod yX4_sheet, Cond.selects RX4 yX4_sheet yX4_sheet, Cond.code yX4_sheet cX4_sheet 5 (some .int), Cond.constant RX4 285 (-1000000007), Cond.methodLink RX4 282 yX4_isOne, Cond.static yX4_isOne, Cond.code yX4_isOne cX4_isOne 1 (some .boolean), Cond.constantLong RX4 280 (3), Cond.methodLink RL 143 yX3_write, Cond.instanceMethod yX3_write, Cond.selects RX3 yX3_write yX3_write, Cond.code yX3_write cX3_write 9 (some .long), Cond.fieldLink RX3 207 "NoseJury$Sheet" "numbers" "[J", Cond.methodLink RX3 204 yX3_findingOfSheet, Cond.instanceMethod yX3_findingOfSheet, Cond.selects RX3 yX3_findingOfSheet yX3_findingOfSheet]
def wsL_law_r37 : List Cond := [Cond.code yX3_findingOfSheet cX3_findingOfSheet 2 (some .int), Cond.fieldLink RX3 215 "NoseJury$Sheet" "bits" "I", Cond.constant RX3 218 (-1000000006), Cond.methodLink RX3 211 yX1_put, Cond.instanceMethod yX1_put, Cond.selects RX1 yX1_put yX1_put, Cond.code yX1_put cX1_put 4 none, Cond.methodLink RL 147 yX4_write, Cond.instanceMethod yX4_write, Cond.selects RX4 yX4_write yX4_write, Cond.code yX4_write cX4_write 8 (some .long), Cond.methodLink RX4 287 yX4_wrongSheet, Cond.instanceMethod yX4_wrongSheet, Cond.selects RX4 yX4_wrongSheet yX4_wrongSheet, Cond.code yX4_wrongSheet cX4_wrongSheet 2 (some .int), Cond.constant RX4 286 (-1000000006), Cond.methodLink RX4 290 yX4_narrowed, Cond.static yX4_narrowed, Cond.code yX4_narrowed cX4_narrowed 3 (some .long), Cond.methodLink RL 148 yX3_copy, Cond.instanceMethod yX3_copy, Cond.selects RX3 yX3_copy yX3_copy, Cond.code yX3_copy cX3_copy 8 (some .int), Cond.methodLink RX3 222 arraycopyName]
def wsL_law_r38 : List Cond := [Cond.methodLink RX3 219 yX1_hasRun, Cond.instanceMethod yX1_hasRun, Cond.selects RX1 yX1_hasRun yX1_hasRun, Cond.code yX1_hasRun cX1_hasRun 3 (some .boolean), Cond.methodLink RL 152 yX4_copy, Cond.instanceMethod yX4_copy, Cond.selects RX4 yX4_copy yX4_copy, Cond.code yX4_copy cX4_copy 7 (some .int), Cond.methodLink RL 153 yX3_lays, Cond.instanceMethod yX3_lays, Cond.selects RX3 yX3_lays yX3_lays, Cond.code yX3_lays cX3_lays 8 (some .int), Cond.constantLong RX3 228 (48), Cond.methodLink RL 156 yX4_lays, Cond.instanceMethod yX4_lays, Cond.selects RX4 yX4_lays yX4_lays, Cond.code yX4_lays cX4_lays 6 (some .int), Cond.methodLink RL 157 yX3_book, Cond.instanceMethod yX3_book, Cond.selects RX3 yX3_book yX3_book, Cond.code yX3_book cX3_book 8 (some .int), Cond.methodLink RX3 230 yX3_findingOfBook, Cond.instanceMethod yX3_findingOfBook, Cond.selects RX3 yX3_findingOfBook yX3_findingOfBook]
def wsL_law_r39 : List Cond := [Cond.code yX3_findingOfBook cX3_findingOfBook 6 (some .int), Cond.methodLink RL 161 yX4_book, Cond.instanceMethod yX4_book, Cond.selects RX4 yX4_book yX4_book, Cond.code yX4_book cX4_book 7 (some .int), Cond.methodLink RX4 294 yX4_wrongBook, Cond.instanceMethod yX4_wrongBook, Cond.selects RX4 yX4_wrongBook yX4_wrongBook, Cond.code yX4_wrongBook cX4_wrongBook 6 (some .int), Cond.methodLink RL 162 yX3_read, Cond.instanceMethod yX3_read, Cond.selects RX3 yX3_read yX3_read, Cond.code yX3_read cX3_read 8 (some .int), Cond.methodLink RX3 234 yX3_isToldBy, Cond.instanceMethod yX3_isToldBy, Cond.selects RX3 yX3_isToldBy yX3_isToldBy, Cond.code yX3_isToldBy cX3_isToldBy 6 (some .boolean), Cond.methodLink RL 165 yX4_read, Cond.instanceMethod yX4_read, Cond.selects RX4 yX4_read yX4_read, Cond.code yX4_read cX4_read 8 (some .int), Cond.methodLink RX4 298 yX4_isBook, Cond.instanceMethod yX4_isBook, Cond.selects RX4 yX4_isBook yX4_isBook]
def wsL_law_r40 : List Cond := [Cond.code yX4_isBook cX4_isBook 6 (some .boolean), Cond.methodLink RL 166 yX3_image, Cond.instanceMethod yX3_image, Cond.selects RX3 yX3_image yX3_image, Cond.code yX3_image cX3_image 1 (some .int), Cond.methodLink RL 169 yX4_image, Cond.instanceMethod yX4_image, Cond.selects RX4 yX4_image yX4_image, Cond.code yX4_image cX4_image 2 (some .int), Cond.fieldLink RX4 302 "NoseJuryModel" "isKept" "Z", Cond.methodLink RL 170 yX3_undo, Cond.instanceMethod yX3_undo, Cond.selects RX3 yX3_undo yX3_undo, Cond.code yX3_undo cX3_undo 1 (some .int), Cond.methodLink RL 173 yX4_undo, Cond.instanceMethod yX4_undo, Cond.selects RX4 yX4_undo yX4_undo, Cond.code yX4_undo cX4_undo 2 (some .int), Cond.methodLink RL 174 yX3_tear, Cond.instanceMethod yX3_tear, Cond.selects RX3 yX3_tear yX3_tear, Cond.code yX3_tear cX3_tear 2 (some .int), Cond.methodLink RL 177 yX4_tear, Cond.instanceMethod yX4_tear]
def wsL_law_r41 : List Cond := [Cond.selects RX4 yX4_tear yX4_tear, Cond.code yX4_tear cX4_tear 2 (some .int), Cond.methodLink RL 178 yX3_count, Cond.instanceMethod yX3_count, Cond.selects RX3 yX3_count yX3_count, Cond.code yX3_count cX3_count 2 (some .int), Cond.methodLink RX3 238 yX0_sumOver, Cond.methodLink RL 181 yX4_count, Cond.instanceMethod yX4_count, Cond.selects RX4 yX4_count yX4_count, Cond.code yX4_count cX4_count 2 (some .int), Cond.methodLink RX4 305 yX4_together, Cond.instanceMethod yX4_together, Cond.selects RX4 yX4_together yX4_together, Cond.code yX4_together cX4_together 4 (some .int), Cond.methodLink RL 182 yX3_status, Cond.instanceMethod yX3_status, Cond.selects RX3 yX3_status yX3_status, Cond.code yX3_status cX3_status 4 (some .int), Cond.methodLink RL 185 yX4_status, Cond.instanceMethod yX4_status, Cond.selects RX4 yX4_status yX4_status, Cond.code yX4_status cX4_status 4 (some .int), Cond.constantLong RX4 308 (-1)]
def wsL_law_r42 : List Cond := [Cond.constantLong RX4 310 (6)]
def wsL_law : List Cond := (wsL_law_r1 ++ (wsL_law_r2 ++ (wsL_law_r3 ++ (wsL_law_r4 ++ (wsL_law_r5 ++ (wsL_law_r6 ++ (wsL_law_r7 ++ (wsL_law_r8 ++ (wsL_law_r9 ++ (wsL_law_r10 ++ (wsL_law_r11 ++ (wsL_law_r12 ++ (wsL_law_r13 ++ (wsL_law_r14 ++ (wsL_law_r15 ++ (wsL_law_r16 ++ (wsL_law_r17 ++ (wsL_law_r18 ++ (wsL_law_r19 ++ (wsL_law_r20 ++ (wsL_law_r21 ++ (wsL_law_r22 ++ (wsL_law_r23 ++ (wsL_law_r24 ++ (wsL_law_r25 ++ (wsL_law_r26 ++ (wsL_law_r27 ++ (wsL_law_r28 ++ (wsL_law_r29 ++ (wsL_law_r30 ++ (wsL_law_r31 ++ (wsL_law_r32 ++ (wsL_law_r33 ++ (wsL_law_r34 ++ (wsL_law_r35 ++ (wsL_law_r36 ++ (wsL_law_r37 ++ (wsL_law_r38 ++ (wsL_law_r39 ++ (wsL_law_r40 ++ (wsL_law_r41 ++ wsL_law_r42))))))))))))))))))))))))))))))))))))))))) ++ wsX30 ++ wsX40 ++ wsX00 ++ wsX20 ++ wsX10 ++ ([] : List Cond)
theorem inlX0 : ∀ w ∈ wsX00, w ∈ wsL_law := fun _ h => List.mem_append_left _ (List.mem_append_left _ (List.mem_append_left _ (List.mem_append_right _ h)))
theorem inlX1 : ∀ w ∈ wsX10, w ∈ wsL_law := fun _ h => List.mem_append_left _ (List.mem_append_right _ h)
theorem inlX2 : ∀ w ∈ wsX20, w ∈ wsL_law := fun _ h => List.mem_append_left _ (List.mem_append_left _ (List.mem_append_right _ h))
theorem inlX3 : ∀ w ∈ wsX30, w ∈ wsL_law := fun _ h => List.mem_append_left _ (List.mem_append_left _ (List.mem_append_left _ (List.mem_append_left _ (List.mem_append_left _ (List.mem_append_right _ h)))))
theorem inlX4 : ∀ w ∈ wsX40, w ∈ wsL_law := fun _ h => List.mem_append_left _ (List.mem_append_left _ (List.mem_append_left _ (List.mem_append_left _ (List.mem_append_right _ h))))
abbrev vwCl : List vw_C := [(RX0, TX0, 10), (RX1, TX1, 3), (RX2, TX2, 6), (RX3, TX3, 7), (RX4, TX4, 19)]
