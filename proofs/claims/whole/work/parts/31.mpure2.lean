section MR2
variable {g : GG} {h h' : Nat → Option va_E} {mo : Nat} {S S2 : List TyS} {tl ta : Nat} {ty : List Nat} {al aa : Nat → Nat} {ab : Nat → List Nat} {P : P4} {N : Nat}
theorem layTy {as : List AdS} (hR : MR0 g h mo S2 tl ta ty al aa ab P) (hS : ∀ (t : Nat) (T' : TyS), S[t]? = some T' → tSz T' ≠ 0 → S2[t]? = some T' ∧ (tK T' < 3 ∨ tFi T' = true)) (has : ∀ d ∈ as, adOK S d) : ∀ d ∈ as, ∀ t, d.1 = some t → t < 300 ∧ (d.2.1 = 0 → ∃ (b : Nat) (k2 t2 l2 : Int32) (ad2 : Nat) (f2 : Int32), ty[t]? = some b ∧ h b = some (oTy k2 t2 l2 (nI d.2.2.2.1) (nI d.2.2.2.2) ad2 f2)) := by
  intro d hd t ht
  obtain ⟨a1, a2, a3, a4⟩ := has d hd
  obtain ⟨b1, b2⟩ := a4 t ht
  refine ⟨b1, fun h0 => ?_⟩
  obtain ⟨T', e1, e2, e3, e4⟩ := b2 h0
  obtain ⟨f1, f2⟩ := hS t T' e1 e4
  obtain ⟨r1, r2, r3, r4, r5, r6, r7⟩ := hR
  have hl := (List.getElem?_eq_some_iff.mp f1).1
  have hk : ty[t]? = some (ty[t]'(by omega)) := List.getElem?_eq_getElem (by omega)
  have hc := (r7 t T' _ f1 hk).1
  have hm : mAl T' = nI (tAl T') := by
    unfold mAl
    rw [if_neg]
    rintro ⟨z1, z2⟩
    rcases f2 with z | z
    · omega
    · rw [z2] at z; cases z
  rw [hm, e2, e3] at hc
  exact ⟨_, _, _, _, _, _, hk, hc⟩
theorem wf_szS (hS : wfS N S) : ∀ (t : Nat) (T' : TyS), S[t]? = some T' → tSz T' ≠ 0 → S[t]? = some T' ∧ (tK T' < 3 ∨ tFi T' = true) := fun t T' h1 h2 => ⟨h1, ((hS.2.2 t T' h1).2.1.mp h2).2⟩
theorem wf_bd {k : Nat} {T : TyS} (hS : wfS N S) (hk : S[k]? = some T) : (∀ d ∈ tAd T, d.2.1 ≤ 32 ∧ d.2.2.2.2 ≤ 4) ∧ ∀ d ∈ tAd T, d.2.2.2.1 ≤ 524288 := ⟨fun d hd => ⟨((hS.2.2 k T hk).2.2 d hd).1, ((hS.2.2 k T hk).2.2 d hd).2.2.1⟩, fun d hd => ((hS.2.2 k T hk).2.2 d hd).2.1⟩
theorem MR_lay {L : LyS} (hR : MR0 g h mo S tl ta ty al aa ab P) (hW : LW g h h' mo tl P L) : MR0 g h' mo S tl ta ty al aa ab P := by
  obtain ⟨w1, w2, w3, f0, f1, f2, f3, g0, g1, g2, g3, -⟩ := hW
  exact MR_scr hR ⟨_, _, _, w1⟩ ⟨f0, f1, f2, f3, g0, g1, g2, g3⟩ w2 w3
theorem mtM_iff {a : Nat} {T : TyS} {al' : Nat} {ab' : List Nat} {k to_ ln : Nat} (hc : cM h a T al' ab') (hw : wfT N T) (hk : k = 1 ∨ k = 2) (h1 : to_ < 2 ^ 31) (h2 : ln < 2 ^ 31) : mtM h (nI k) (nI to_) (nI ln) a ↔ (tK T = k ∧ tTo T = to_ ∧ tLn T = ln) := by
  obtain ⟨w1, w2, w3, -⟩ := hw
  constructor
  · rintro ⟨b0, b1, b2, b3, hz⟩
    have e := Option.some.inj (hz.symm.trans hc.1)
    simp only [Sum.inr.injEq, Prod.mk.injEq, List.cons.injEq, Value.int.injEq, and_true, true_and] at e
    obtain ⟨e1, e2, e3, -⟩ := e
    exact ⟨((nI_eq (by omega) (by omega)).mp e1).symm, ((nI_eq h1 (by omega)).mp e2).symm, ((nI_eq h2 (by omega)).mp e3).symm⟩
  · rintro ⟨e1, e2, e3⟩
    refine ⟨nI (tSz T), mAl T, al', if tFi T = true then 1 else 0, ?_⟩
    rw [hc.1, e1, e2, e3]
theorem MR_fndS {k to_ ln i : Nat} (hR : MR0 g h mo S tl ta ty al aa ab P) (hS : wfS N S) (hk : k = 1 ∨ k = 2) (h1 : to_ < 2 ^ 31) (h2 : ln < 2 ^ 31) (hi : i < ty.length) (hm : ∃ a, ty[i]? = some a ∧ mtM h (nI k) (nI to_) (nI ln) a) (hn : ∀ j, j < i → ∀ a, ty[j]? = some a → ¬ mtM h (nI k) (nI to_) (nI ln) a) : fnd S k to_ ln = some i := by
  obtain ⟨r1, r2, r3, r4, r5, r6, r7⟩ := hR
  unfold fnd
  rw [List.findIdx?_eq_some_iff_getElem]
  refine ⟨by omega, ?_, ?_⟩
  · obtain ⟨a, e1, e2⟩ := hm
    have hs : S[i]? = some (S[i]'(by omega)) := List.getElem?_eq_getElem (by omega)
    exact decide_eq_true ((mtM_iff (r7 i _ a hs e1) (hS.2.2 i _ hs).1 hk h1 h2).mp e2)
  · intro j hj
    have hs : S[j]? = some (S[j]'(by omega)) := List.getElem?_eq_getElem (by omega)
    have ht : ty[j]? = some (ty[j]'(by omega)) := List.getElem?_eq_getElem (by omega)
    intro z
    exact hn j hj _ ht ((mtM_iff (r7 j _ _ hs ht) (hS.2.2 j _ hs).1 hk h1 h2).mpr (of_decide_eq_true z))
theorem MR_fndN {k to_ ln : Nat} (hR : MR0 g h mo S tl ta ty al aa ab P) (hS : wfS N S) (hk : k = 1 ∨ k = 2) (h1 : to_ < 2 ^ 31) (h2 : ln < 2 ^ 31) (hn : ∀ j a : Nat, ty[j]? = some a → ¬ mtM h (nI k) (nI to_) (nI ln) a) : fnd S k to_ ln = none := by
  obtain ⟨r1, r2, r3, r4, r5, r6, r7⟩ := hR
  unfold fnd
  rw [List.findIdx?_eq_none_iff]
  intro T hT
  obtain ⟨j, hs⟩ := List.mem_iff_getElem?.mp hT
  have hl := (List.getElem?_eq_some_iff.mp hs).1
  have ht : ty[j]? = some (ty[j]'(by omega)) := List.getElem?_eq_getElem (by omega)
  exact decide_eq_false (fun z => hn j _ ht ((mtM_iff (r7 j _ _ hs ht) (hS.2.2 j _ hs).1 hk h1 h2).mpr z))
theorem lkO_none {r : Int32} (h : lkO S r = none) : lk S r = none ∨ ∃ T, lk S r = some T ∧ (tK T < 3 ∨ tFi T = true) := by
  unfold lkO at h
  cases hl : lk S r with
  | none => exact Or.inl rfl
  | some T =>
    rw [hl] at h
    by_cases c : 3 ≤ tK T ∧ tFi T = false
    · simp only [if_pos c] at h
      cases h
    · refine Or.inr ⟨T, rfl, ?_⟩
      rcases Nat.lt_or_ge (tK T) 3 with z | z
      · exact Or.inl z
      · refine Or.inr ?_
        cases hh : tFi T with
        | true => rfl
        | false => exact absurd ⟨z, hh⟩ c
/-- the last element goes -/
theorem AL_last {a arr x : Nat} {xs : List Nat} (hL : AL g h a arr (xs ++ [x])) : ∃ (mc : Int32) (cap : Nat) (f : Nat → Option Nat), h a = some (oAL mc arr (nI (xs.length + 1))) ∧ h arr = some (arO g cap f) ∧ xs.length < cap ∧ cap ≤ 800 ∧ f xs.length = some x ∧ ∀ i, i < xs.length → f i = xs[i]? := by
  obtain ⟨⟨mc, h1⟩, h2, h3⟩ := hL
  rw [List.length_append, List.length_singleton] at h1
  rcases h3 with ⟨cap, f, e1, e2, e3, e4, e5⟩ | ⟨-, -, e⟩
  · rw [List.length_append, List.length_singleton] at e2 e5
    refine ⟨mc, cap, f, h1, e1, by omega, e4, ?_, fun i hi => ?_⟩
    · rw [e5 _ (by omega)]
      simp
    · rw [e5 i (by omega), List.getElem?_append_left hi]
  · exact absurd e (by simp)
theorem AL_rm {a arr x cap : Nat} {mc : Int32} {xs : List Nat} {f : Nat → Option Nat} (hL : AL g h a arr (xs ++ [x])) (h1 : h a = some (oAL mc arr (nI (xs.length + 1)))) (h2 : h arr = some (arO g cap f)) (h3 : xs.length < cap) (h4 : cap ≤ 800) (h5 : ∀ i, i < xs.length → f i = xs[i]?) : AL g (wu (wu h a (oAL (mc + 1) arr (nI xs.length))) arr (arO g cap (va_up f xs.length none))) a arr xs := by
  have n1 : a ≠ arr := ne_e h1 h2 ne_rl
  refine ⟨⟨mc + 1, by rw [wu_n n1, wu_s]⟩, fun y hy => ?_, Or.inl ⟨cap, _, wu_s _ _ _, by omega, by omega, h4, fun i hi => ?_⟩⟩
  · exact isE_wuA ((wu_n n1.symm).trans h2) (isE_wu0 h1 (hL.2.1 y (List.mem_append_left _ hy)))
  · rw [va_up_ne _ _ (by omega)]
    exact h5 i hi
end MR2
theorem lk_geq {α : Type} {ty : List α} {t : Int32} (h : nI ty.length ≤ t) (hl : ty.length < 2 ^ 31) : lk ty t = none := by
  cases hh : lk ty t with
  | none => rfl
  | some a => exact absurd h (Int32.not_le.mpr (lk_lt hh hl).1)
theorem fMbr_out {S : List TyS} {r k w : Int32} {T : TyS} (ht : lk S r = some T) (hk : 3 ≤ tK T) (hw : w < 0 ∨ 3 < w) : fMbr S r k w = -1 := by
  have n0 : ¬ w = 0 := fun z => by rw [z] at hw; exact absurd hw (by decide)
  have n1 : ¬ w = 1 := fun z => by rw [z] at hw; exact absurd hw (by decide)
  have n2 : ¬ w = 2 := fun z => by rw [z] at hw; exact absurd hw (by decide)
  have n3 : ¬ w = 3 := fun z => by rw [z] at hw; exact absurd hw (by decide)
  simp only [fMbr, ht, if_pos hk]
  cases lk (ly T).2.2.2 k with
  | none => rfl
  | some m => simp only [if_neg n0, if_neg n1, if_neg n2, if_neg n3]
theorem sw_3 {w : Int32} (h1 : ¬ w < 0) (h2 : w ≤ 3) (n0 : ¬ w = 0) (n1 : ¬ w = 1) (n2 : ¬ w = 2) : w = 3 := by
  obtain ⟨j, hj, e⟩ := nI_of2 (M := 3) (n := 3) (by decide) h1 h2
  rcases (by omega : j = 0 ∨ j = 1 ∨ j = 2 ∨ j = 3) with z | z | z | z <;> subst z
  · exact absurd e n0
  · exact absurd e n1
  · exact absurd e n2
  · exact e
