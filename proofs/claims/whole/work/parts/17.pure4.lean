/-! pure rows for the methods that write -/
theorem arr_n {n : Int32} (h1 : ¬ n < 1) (h2 : n ≤ 524288) : n = nI n.toNatClampNeg ∧ 1 ≤ n.toNatClampNeg ∧ n.toNatClampNeg ≤ 524288 := by
  have h0 : ¬ n < 0 := fun z => h1 (Int32.lt_trans z (by decide))
  obtain ⟨j, hj, e⟩ := nI_of2 (M := 524288) (n := 524288) (by decide) h0 h2
  have ej : n.toNatClampNeg = j := by rw [e]; exact nI_clamp (by omega)
  refine ⟨by rw [ej]; exact e, ?_, by omega⟩
  rw [ej]
  rcases Nat.eq_zero_or_pos j with z | z
  · subst z
    rw [e] at h1
    exact absurd (by decide : nI 0 < 1) h1
  · exact z
theorem mul_le {a b : Nat} {x : Int64} (ha : a ≤ 524288) (hb : b ≤ 524288) (ex : x = (nI a).toInt64 * (nI b).toInt64) : x = lN (a * b) ∧ (lg_cmp x 524288 ≤ 0 ↔ a * b ≤ 524288) := by
  have e1 : x = lN (a * b) := by rw [ex, nI_l (by omega), nI_l (by omega), lN_mul]
  refine ⟨e1, ?_⟩
  rw [lg_cmp_le, e1]
  have hm : a * b ≤ 524288 * 524288 := Nat.mul_le_mul ha hb
  exact pk_lLE (a := a * b) (b := 524288) (by omega) (by decide)
theorem lkO_some {S : List TyS} {r : Int32} {T : TyS} (h : lkO S r = some T) : lk S r = some T ∧ 3 ≤ tK T ∧ tFi T = false := by
  unfold lkO at h
  cases hl : lk S r with
  | none => rw [hl] at h; cases h
  | some T' =>
    rw [hl] at h
    by_cases c : 3 ≤ tK T' ∧ tFi T' = false
    · simp only [if_pos c] at h
      cases h
      exact ⟨rfl, c.1, c.2⟩
    · simp only [if_neg c] at h
      cases h
theorem DR_noOpen {g : GG} {h : Nat → Option va_E} {x : Nat} {S : List TyS} {kl ka : Nat} {ty : List Nat} {ml ma : Nat → Nat} {mb : Nat → List Nat} (hR : DR0 g h x S kl ka ty ml ma mb) {r : Int32} (hr : lkO S r = none) : noOpen h ty r := by
  cases hl : lk S r with
  | none => exact Or.inl (Or.inl (DR_lkN hR hl))
  | some T =>
    obtain ⟨a, ha1, ha2, ha3, hc⟩ := DR_lk hR hl
    rcases hc with ⟨z1, z2⟩ | ⟨z1, ⟨up, fb, z2, z3⟩, -⟩
    · exact Or.inl (Or.inr ⟨a, _, _, _, _, _, ha1, z2⟩)
    · refine Or.inr ⟨a, ml r.toNatClampNeg, nI (tSz T), nI (tAl T), (if tK T = 4 then 1 else 0), nI (ly T).1, up, fb, ha1, ?_⟩
      unfold lkO at hr
      rw [hl] at hr
      have hf : tFi T = true := by
        cases hh : tFi T with
        | true => rfl
        | false => simp [z1, hh] at hr
      rw [z2, hf]
      rfl
/-- the cell of a record that has one more that is no member -/
theorem cX_rec {h : Nat → Option va_E} {a : Nat} {T' : TyS} {ml : Nat} {mb : List Nat} {up fb : Int32} (hk : 3 ≤ tK T') (ha : h a = some (oCo (nI (tSz T')) (nI (tAl T')) (if tK T' = 4 then 1 else 0) ml (if tFi T' = true then 0 else 1) (nI (ly T').1) up fb)) (hu : uOK (tK T' == 4) (ly T').2.2.1 up fb) (hl : mb.length = (ly T').2.2.2.length) (hm : ∀ (j y : Nat) (m : Nat × Nat × Nat × Nat), mb[j]? = some y → (ly T').2.2.2[j]? = some m → h y = some (oMb (nI m.1) (nI m.2.1) (nI m.2.2.1) (nI m.2.2.2))) : cX h a T' ml mb :=
  Or.inr ⟨hk, ⟨up, fb, ha, hu⟩, hl, hm⟩
theorem uOK_0 (un : Bool) (up : Int32) : uOK un none up 0 := by
  cases un
  · exact Or.inr (Or.inl ⟨rfl, rfl, rfl⟩)
  · exact Or.inl ⟨rfl, rfl⟩
