section KTab
variable {l : Launch} {R : Room} {cc : ByteArray} {own : String} {nL : Nat} {g : KG} {J : KT} {ws ws2 : va_W} {lv lv1 : List (Nat × Value)} {pc : Nat} {st : List Value}
theorem n_tabIn (hJ : KO l R cc own nL g J) {dflt lo hi : Int} {offs : Array Int} {len : Nat} {v c : Nat} {off : Int} {tgt : Nat} (hd : decode cc pc = .ok (.tableswitch dflt lo hi offs, len)) (h : v = c) (hc : c < 2 ^ 31) (h1 : ¬ (c : Int) < lo) (h2 : ¬ hi < (c : Int)) (ho : offs[((c : Int) - lo).toNat]? = some off) (ht : (pc : Int) + off = (tgt : Int)) (k : J ws lv tgt st) : J ws lv pc (.int (nI v) :: st) := by
  subst h
  exact k_tabIn hJ hd (by rw [nI_toInt hc]; exact h1) (by rw [nI_toInt hc]; exact h2) (by rw [nI_toInt hc]; exact ho) ht k
theorem n_tabOut (hJ : KO l R cc own nL g J) {dflt lo hi : Int} {offs : Array Int} {len : Nat} {v : Nat} {tgt : Nat} (hd : decode cc pc = .ok (.tableswitch dflt lo hi offs, len)) (hv : v < 2 ^ 31) (h : (v : Int) < lo ∨ hi < (v : Int)) (ht : (pc : Int) + dflt = (tgt : Int)) (k : J ws lv tgt st) : J ws lv pc (.int (nI v) :: st) := k_tabOut hJ hd (by rw [nI_toInt hv]; exact h) ht k
theorem r_tabIn (hJ : KO l R cc own nL g J) {dflt lo hi : Int} {offs : Array Int} {len : Nat} {x : Int32} {c : Nat} {off : Int} {tgt : Nat} (hd : decode cc pc = .ok (.tableswitch dflt lo hi offs, len)) (h : x = nI c) (hc : c < 2 ^ 31) (h1 : ¬ (c : Int) < lo) (h2 : ¬ hi < (c : Int)) (ho : offs[((c : Int) - lo).toNat]? = some off) (ht : (pc : Int) + off = (tgt : Int)) (k : J ws lv tgt st) : J ws lv pc (.int x :: st) := by
  subst h
  exact n_tabIn hJ hd rfl hc h1 h2 ho ht k
theorem r_tabOut (hJ : KO l R cc own nL g J) {dflt hi : Int} {offs : Array Int} {len N : Nat} {x : Int32} {tgt : Nat} (hd : decode cc pc = .ok (.tableswitch dflt 0 hi offs, len)) (hN : hi + 1 = (N : Int)) (hb : N < 2 ^ 31) (h : ∀ c, c < N → x ≠ nI c) (ht : (pc : Int) + dflt = (tgt : Int)) (k : J ws lv tgt st) : J ws lv pc (.int x :: st) := by
  refine k_tabOut hJ hd ?_ ht k
  rcases pk_ix x hb with q | q | ⟨j, hj, e⟩
  · left
    have := (Int32.lt_iff_toInt_lt).mp q
    simpa using this
  · right
    have := (Int32.le_iff_toInt_le).mp q
    rw [nI_toInt hb] at this
    omega
  · exact absurd e (h j hj)
end KTab
