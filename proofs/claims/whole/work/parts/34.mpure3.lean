theorem set_back {S : List TyS} {r : Nat} {T T1 : TyS} (h : S[r]? = some T) : (S.set r T1).set r T = S := by
  rw [List.set_set]
  apply List.ext_getElem?
  intro i
  by_cases c : r = i
  · subst c
    rw [List.getElem?_set_self (List.getElem?_eq_some_iff.mp h).1, h]
  · rw [List.getElem?_set_ne c]
theorem adOK_fld {S : List TyS} {N t : Nat} {T2 : TyS} (hS : wfS N S) (ht : S[t]? = some T2) (hz : tSz T2 ≠ 0) : adOK S (some t, 0, true, tSz T2, tAl T2) := by
  have hw := (hS.2.2 t T2 ht).1
  have hl := (List.getElem?_eq_some_iff.mp ht).1
  have := hS.2.1
  refine ⟨Nat.zero_le _, hw.2.2.2.1, hw.2.2.2.2.1, fun t' e => ?_⟩
  cases e
  exact ⟨by omega, fun _ => ⟨T2, ht, rfl, rfl, hz⟩⟩
theorem adOK_bit {S : List TyS} {t w : Nat} {b : Bool} (ht : t < 300) (h1 : 1 ≤ w) (h2 : w ≤ 32) : adOK S (some t, w, b, 0, 0) := by
  refine ⟨h2, Nat.zero_le _, Nat.zero_le _, fun t' e => ?_⟩
  cases e
  exact ⟨ht, fun z => absurd (show w = 0 from z) (by omega)⟩
theorem adOK_brk {S : List TyS} : adOK S (none, 0, false, 0, 0) := ⟨by decide, by decide, by decide, fun _ e => by cases e⟩
theorem ly_fldB {T : TyS} {t sz al : Nat} (h1 : (ly T).1 ≤ 524288) (h2 : sz ≤ 524288) (h3 : al ≤ 4) : (ly (tPush T (some t, 0, true, sz, al))).1 ≤ 1100000 ∧ (ly (tPush T (some t, 0, true, sz, al))).2.2.2.length = (ly T).2.2.2.length + 1 := by
  rw [ly_fld]
  have := rup_le (ly T).1 al
  refine ⟨?_, by simp⟩
  show max _ _ ≤ _
  split <;> omega
theorem ly_bitB {T : TyS} {t w : Nat} {b : Bool} (h1 : (ly T).1 ≤ 524288) (hu : ∀ p k, (ly T).2.2.1 = some (p, k) → p + 4 ≤ (ly T).1) (hw : w ≠ 0) : (ly (tPush T (some t, w, b, 0, 0))).1 ≤ 1100000 ∧ (ly (tPush T (some t, w, b, 0, 0))).2.2.2.length = (ly T).2.2.2.length + if b = true then 1 else 0 := by
  rw [ly_push, lyS_bit (P := (lyU (tK T == 4) (ly T).1 (ly T).2.2.1 w).1) (K := (lyU (tK T == 4) (ly T).1 (ly T).2.2.1 w).2) hw rfl]
  have hr := rup_le (ly T).1 4
  have hP : (lyU (tK T == 4) (ly T).1 (ly T).2.2.1 w).1 ≤ 524292 := by
    unfold lyU
    cases hq : (ly T).2.2.1 with
    | none => simp only; split <;> omega
    | some q =>
      obtain ⟨p, k⟩ := q
      have := hu p k hq
      simp only
      split
      · simp only; split <;> omega
      · simp only; omega
  refine ⟨?_, ?_⟩
  · show max _ _ ≤ _
    omega
  · cases b <;> simp
