/-! finding a type; switches -/
theorem sw4 {w : Int32} (h0 : ¬ w = 0) (h1 : ¬ w = 1) (h2 : ¬ w = 2) (h3 : ¬ w = 3) : w.toInt < 0 ∨ 3 < w.toInt := by
  have a0 := lv_neT h0 (show (0 : Int32).toInt = 0 by decide)
  have a1 := lv_neT h1 (show (1 : Int32).toInt = 1 by decide)
  have a2 := lv_neT h2 (show (2 : Int32).toInt = 2 by decide)
  have a3 := lv_neT h3 (show (3 : Int32).toInt = 3 by decide)
  omega
theorem mt_iff {h : Nat → Option va_E} {a : Nat} {T : TyS} {ml : Nat} {mb : List Nat} {N k to_ ln : Nat} (hc : cX h a T ml mb) (hw : wfT N T) (hk : k = 1 ∨ k = 2) (h1 : to_ < 2 ^ 31) (h2 : ln < 2 ^ 31) : mt h (nI k) (nI to_) (nI ln) a ↔ (tK T = k ∧ tTo T = to_ ∧ tLn T = ln) := by
  obtain ⟨w1, w2, w3, -⟩ := hw
  constructor
  · rintro ⟨b0, b1, hz⟩
    rcases hc with ⟨z1, z2⟩ | ⟨z1, ⟨up, fb, z2, z3⟩, -⟩
    · have e := Option.some.inj (hz.symm.trans z2)
      simp only [Sum.inr.injEq, Prod.mk.injEq, List.cons.injEq, Value.int.injEq, and_true, true_and] at e
      obtain ⟨-, -, e1, e2, e3⟩ := e
      have k1 : k = tK T := (nI_eq (by omega) (by omega)).mp e1
      rw [if_neg (by omega)] at e2
      exact ⟨k1.symm, ((nI_eq h1 (by omega)).mp e2).symm, ((nI_eq h2 (by omega)).mp e3).symm⟩
    · rw [hz] at z2
      cases z2
  · rintro ⟨e1, e2, e3⟩
    rcases hc with ⟨z1, z2⟩ | ⟨z1, -⟩
    · refine ⟨nI (tSz T), nI (tAl T), ?_⟩
      rw [z2, if_neg (by omega), e1, e2, e3]
    · omega
theorem DR_fndS {g : GG} {h : Nat → Option va_E} {x : Nat} {S : List TyS} {kl ka : Nat} {ty : List Nat} {ml ma : Nat → Nat} {mb : Nat → List Nat} {N k to_ ln i : Nat} (hR : DR0 g h x S kl ka ty ml ma mb) (hS : wfS N S) (hk : k = 1 ∨ k = 2) (h1 : to_ < 2 ^ 31) (h2 : ln < 2 ^ 31) (hi : i < ty.length) (hm : ∃ a, ty[i]? = some a ∧ mt h (nI k) (nI to_) (nI ln) a) (hn : ∀ j, j < i → ∀ a, ty[j]? = some a → ¬ mt h (nI k) (nI to_) (nI ln) a) : fnd S k to_ ln = some i := by
  obtain ⟨r1, r2, r3, r4, r5⟩ := hR
  unfold fnd
  rw [List.findIdx?_eq_some_iff_getElem]
  refine ⟨by omega, ?_, ?_⟩
  · obtain ⟨a, e1, e2⟩ := hm
    have hs : S[i]? = some (S[i]'(by omega)) := List.getElem?_eq_getElem (by omega)
    exact decide_eq_true ((mt_iff (r5 i _ a hs e1) (hS.2.2 i _ hs).1 hk h1 h2).mp e2)
  · intro j hj
    have hs : S[j]? = some (S[j]'(by omega)) := List.getElem?_eq_getElem (by omega)
    have ht : ty[j]? = some (ty[j]'(by omega)) := List.getElem?_eq_getElem (by omega)
    intro z
    exact hn j hj _ ht ((mt_iff (r5 j _ _ hs ht) (hS.2.2 j _ hs).1 hk h1 h2).mpr (of_decide_eq_true z))
theorem DR_fndN {g : GG} {h : Nat → Option va_E} {x : Nat} {S : List TyS} {kl ka : Nat} {ty : List Nat} {ml ma : Nat → Nat} {mb : Nat → List Nat} {N k to_ ln : Nat} (hR : DR0 g h x S kl ka ty ml ma mb) (hS : wfS N S) (hk : k = 1 ∨ k = 2) (h1 : to_ < 2 ^ 31) (h2 : ln < 2 ^ 31) (hn : ∀ j a : Nat, ty[j]? = some a → ¬ mt h (nI k) (nI to_) (nI ln) a) : fnd S k to_ ln = none := by
  obtain ⟨r1, r2, r3, r4, r5⟩ := hR
  unfold fnd
  rw [List.findIdx?_eq_none_iff]
  intro T hT
  obtain ⟨j, hs⟩ := List.mem_iff_getElem?.mp hT
  have hl := (List.getElem?_eq_some_iff.mp hs).1
  have ht : ty[j]? = some (ty[j]'(by omega)) := List.getElem?_eq_getElem (by omega)
  exact decide_eq_false (fun z => hn j _ ht ((mt_iff (r5 j _ _ hs ht) (hS.2.2 j _ hs).1 hk h1 h2).mpr z))
theorem ty_fresh {h : Nat → Option va_E} {ty : List Nat} {y : Nat} (hT : ∀ a ∈ ty, isTy h a) (hy : h y = none) : y ∉ ty := fun z => by
  rcases hT y z with ⟨b0, b1, b2, b3, b4, b5, b6, b7, e⟩ | ⟨b0, b1, b2, b3, b4, e⟩
  · rw [hy] at e; cases e
  · rw [hy] at e; cases e
