/-! the model's lay: its loop, as mathematics -/
def mtM (h : Nat → Option va_E) (k b n : Int32) (a : Nat) : Prop := ∃ (si al : Int32) (ad : Nat) (fi : Int32), h a = some (oTy k b n si al ad fi)
theorem mtM_no {h : Nat → Option va_E} {k b n ki ba le si al fi : Int32} {a ad : Nat} (ha : h a = some (oTy ki ba le si al ad fi)) (hz : ¬ (ki = k ∧ ba = b ∧ le = n)) : ¬ mtM h k b n a := fun ⟨_, _, _, _, z⟩ => by
  rw [ha] at z
  cases z
  exact hz ⟨rfl, rfl, rfl⟩
theorem ad_cases (d : AdS) : d.1 = none ∨ (∃ t, d.1 = some t ∧ d.2.1 = 0) ∨ ∃ t, d.1 = some t ∧ d.2.1 ≠ 0 := by
  cases h : d.1 with
  | none => exact Or.inl rfl
  | some t =>
    by_cases c : d.2.1 = 0
    · exact Or.inr (Or.inl ⟨t, rfl, c⟩)
    · exact Or.inr (Or.inr ⟨t, rfl, c⟩)
theorem lay_take {U : Bool} {as : List AdS} {i : Nat} {d : AdS} (h : as[i]? = some d) : lay U (as.take (i + 1)) = lyS U (lay U (as.take i)) d := by
  rw [List.take_add_one, h, ← lay_snoc]
  rfl
theorem lyS_mono (U : Bool) (L : LyS) (d : AdS) : L.1 ≤ (lyS U L d).1 ∧ L.2.2.2.length ≤ (lyS U L d).2.2.2.length := by
  unfold lyS
  cases d.1 with
  | none => exact ⟨Nat.le_refl _, Nat.le_refl _⟩
  | some t =>
    simp only
    by_cases c : d.2.1 = 0
    · rw [if_pos c]
      refine ⟨by omega, ?_⟩
      show _ ≤ List.length (_ ++ _)
      rw [List.length_append]
      omega
    · rw [if_neg c]
      refine ⟨by omega, ?_⟩
      show _ ≤ List.length (if _ then _ else _)
      split
      · rw [List.length_append]; omega
      · exact Nat.le_refl _
theorem foldl_mono (U : Bool) : ∀ (as : List AdS) (L : LyS), L.1 ≤ (as.foldl (lyS U) L).1 ∧ L.2.2.2.length ≤ (as.foldl (lyS U) L).2.2.2.length := by
  intro as
  induction as with
  | nil => intro L; exact ⟨Nat.le_refl _, Nat.le_refl _⟩
  | cons d as ih =>
    intro L
    have h1 := lyS_mono U L d
    have h2 := ih (lyS U L d)
    exact ⟨Nat.le_trans h1.1 h2.1, Nat.le_trans h1.2 h2.2⟩
theorem lay_mono (U : Bool) (as : List AdS) (i : Nat) : (lay U (as.take i)).1 ≤ (lay U as).1 ∧ (lay U (as.take i)).2.2.2.length ≤ (lay U as).2.2.2.length := by
  have := foldl_mono U (as.drop i) (lay U (as.take i))
  unfold lay at this ⊢
  rw [← List.foldl_append, List.take_append_drop] at this
  exact this
/-- the numbers of a layout stay small -/
def lyB (L : LyS) : Prop := L.2.1 ≤ 4 ∧ ∀ p k, L.2.2.1 = some (p, k) → k ≤ 32 ∧ p + 4 ≤ L.1
theorem lyU_le {U : Bool} {re w : Nat} {u : Option (Nat × Nat)} (hw : w ≤ 32) : (lyU U re u w).2 + w ≤ 32 := by
  unfold lyU
  cases u with
  | none => simp only; omega
  | some q =>
    obtain ⟨p, k⟩ := q
    simp only
    by_cases c : U = true ∨ 32 < k + w
    · rw [if_pos c]; simp only; omega
    · rw [if_neg c]
      simp only
      have : ¬ 32 < k + w := fun z => c (Or.inr z)
      omega
theorem lyS_B {U : Bool} {L : LyS} {d : AdS} (hL : lyB L) (hw : d.2.1 ≤ 32) (ha : d.2.2.2.2 ≤ 4) : lyB (lyS U L d) := by
  unfold lyS
  cases d.1 with
  | none => exact ⟨hL.1, fun p k z => by cases z⟩
  | some t =>
    simp only
    by_cases c : d.2.1 = 0
    · rw [if_pos c]
      refine ⟨?_, fun p k z => by cases z⟩
      have := hL.1
      show max _ _ ≤ 4
      omega
    · rw [if_neg c]
      refine ⟨?_, fun p k z => ?_⟩
      · have := hL.1
        show max _ _ ≤ 4
        omega
      · cases z
        have h1 := lyU_le (U := U) (re := L.1) (u := L.2.2.1) hw
        refine ⟨h1, ?_⟩
        show _ ≤ max _ _
        omega
theorem lay_B {U : Bool} (as : List AdS) (hd : ∀ d ∈ as, d.2.1 ≤ 32 ∧ d.2.2.2.2 ≤ 4) : ∀ (L : LyS), lyB L → lyB (as.foldl (lyS U) L) := by
  induction as with
  | nil => intro L h; exact h
  | cons d as ih =>
    intro L h
    exact ih (fun e he => hd e (List.mem_cons_of_mem _ he)) _ (lyS_B h (hd d List.mem_cons_self).1 (hd d List.mem_cons_self).2)
theorem lay_bound {U : Bool} {as : List AdS} (hd : ∀ d ∈ as, d.2.1 ≤ 32 ∧ d.2.2.2.2 ≤ 4) (h1 : (lay U as).1 ≤ 1100000) (h2 : (lay U as).2.2.2.length ≤ 100) (i : Nat) : (lay U (as.take i)).1 ≤ 1100000 ∧ (lay U (as.take i)).2.2.2.length ≤ 100 ∧ lyB (lay U (as.take i)) := by
  have hm := lay_mono U as i
  refine ⟨by omega, by omega, lay_B _ (fun d hd' => hd d (List.mem_of_mem_take hd')) _ ⟨Nat.zero_le _, fun p k z => by cases z⟩⟩
/-- the world in the loop -/
def LW (g : GG) (h hh : Nat → Option va_E) (mo tl : Nat) (P : P4) (L : LyS) : Prop :=
  hh mo = some (oMo tl P.1 P.2.1 P.2.2.1 P.2.2.2 (nI L.2.2.2.length) (nI L.1) (nI L.2.1)) ∧ sf mo P h hh ∧ hh (gZ g) = none ∧ ∃ f0 f1 f2 f3 : Nat → Int32, hh P.1 = some (arI g 100 f0) ∧ hh P.2.1 = some (arI g 100 f1) ∧ hh P.2.2.1 = some (arI g 100 f2) ∧ hh P.2.2.2 = some (arI g 100 f3) ∧ ∀ (j : Nat) (mm : Nat × Nat × Nat × Nat), L.2.2.2[j]? = some mm → f0 j = nI mm.1 ∧ f1 j = nI mm.2.1 ∧ f2 j = nI mm.2.2.1 ∧ f3 j = nI mm.2.2.2
theorem sf_tr {mo : Nat} {P : P4} {h h1 h2 : Nat → Option va_E} (a : sf mo P h h1) (b : sf mo P h1 h2) : sf mo P h h2 := fun q e0 e1 e2 e3 e4 => (b q e0 e1 e2 e3 e4).trans (a q e0 e1 e2 e3 e4)
theorem LW_u {g : GG} {h hh : Nat → Option va_E} {mo tl : Nat} {P : P4} {L : LyS} (hW : LW g h hh mo tl P L) (u : Option (Nat × Nat)) : LW g h hh mo tl P (L.1, L.2.1, u, L.2.2.2) := hW
theorem LW_mo {g : GG} {h hh W : Nat → Option va_E} {mo tl r' a' : Nat} {P : P4} {L : LyS} (u : Option (Nat × Nat)) (hW : LW g h hh mo tl P L) (h1 : W mo = some (oMo tl P.1 P.2.1 P.2.2.1 P.2.2.2 (nI L.2.2.2.length) (nI r') (nI a'))) (hf : ∀ q, q ≠ mo → W q = hh q) (hz : W (gZ g) = none) : LW g h W mo tl P (r', a', u, L.2.2.2) := by
  obtain ⟨w1, w2, w3, f0, f1, f2, f3, e0, e1, e2, e3, e4⟩ := hW
  exact ⟨h1, sf_tr w2 (fun q z _ _ _ _ => hf q z), hz, f0, f1, f2, f3, (hf _ (ne_e e0 w1 ne_lr)).trans e0, (hf _ (ne_e e1 w1 ne_lr)).trans e1, (hf _ (ne_e e2 w1 ne_lr)).trans e2, (hf _ (ne_e e3 w1 ne_lr)).trans e3, e4⟩
theorem LW_put {g : GG} {h hh W : Nat → Option va_E} {mo tl : Nat} {P : P4} {L : LyS} {at_ t lo wi : Int32} {f0 f1 f2 f3 : Nat → Int32} (u : Option (Nat × Nat)) (mm : Nat × Nat × Nat × Nat) (hW : LW g h hh mo tl P L) (e4 : ∀ (j : Nat) (mm : Nat × Nat × Nat × Nat), L.2.2.2[j]? = some mm → f0 j = nI mm.1 ∧ f1 j = nI mm.2.1 ∧ f2 j = nI mm.2.2.1 ∧ f3 j = nI mm.2.2.2) (w1 : W mo = some (oMo tl P.1 P.2.1 P.2.2.1 P.2.2.2 (nI (L.2.2.2.length + 1)) (nI L.1) (nI L.2.1))) (w2 : W P.1 = some (arI g 100 (upd f0 L.2.2.2.length at_))) (w3 : W P.2.1 = some (arI g 100 (upd f1 L.2.2.2.length t))) (w4 : W P.2.2.1 = some (arI g 100 (upd f2 L.2.2.2.length lo))) (w5 : W P.2.2.2 = some (arI g 100 (upd f3 L.2.2.2.length wi))) (w6 : ∀ q, q ≠ mo → q ≠ P.1 → q ≠ P.2.1 → q ≠ P.2.2.1 → q ≠ P.2.2.2 → W q = hh q) (hz : W (gZ g) = none)
    (m1 : at_ = nI mm.1) (m2 : t = nI mm.2.1) (m3 : lo = nI mm.2.2.1) (m4 : wi = nI mm.2.2.2) : LW g h W mo tl P (L.1, L.2.1, u, L.2.2.2 ++ [mm]) := by
  refine ⟨by rw [w1]; show _ = some (oMo _ _ _ _ _ (nI (L.2.2.2 ++ [mm]).length) _ _); rw [List.length_append]; rfl, sf_tr hW.2.1 w6, hz, _, _, _, _, w2, w3, w4, w5, ?_⟩
  intro j m9 hj
  rcases Nat.lt_or_ge j L.2.2.2.length with c | c
  · have hj' : L.2.2.2[j]? = some m9 := by rw [← hj]; exact (List.getElem?_append_left c).symm
    have n : j ≠ L.2.2.2.length := by omega
    obtain ⟨a1, a2, a3, a4⟩ := e4 j m9 hj'
    exact ⟨(pk_un n).trans a1, (pk_un n).trans a2, (pk_un n).trans a3, (pk_un n).trans a4⟩
  · have hj' : [mm][j - L.2.2.2.length]? = some m9 := by rw [← hj]; exact (List.getElem?_append_right c).symm
    have e : j = L.2.2.2.length := by
      have := (List.getElem?_eq_some_iff.mp hj').1
      simp at this
      omega
    subst e
    rw [Nat.sub_self] at hj'
    cases hj'
    exact ⟨pk_us.trans m1, pk_us.trans m2, pk_us.trans m3, pk_us.trans m4⟩
/-- the loop's own numbers: unit, used -/
def uM (u : Option (Nat × Nat)) (un us : Int32) : Prop := (u = none ∧ un = -1) ∨ ∃ p k, u = some (p, k) ∧ un = nI p ∧ us = nI k
theorem lyS_fld {U : Bool} {L : LyS} {d : AdS} {t : Nat} (h1 : d.1 = some t) (h2 : d.2.1 = 0) : lyS U L d = (max L.1 ((if U = true then 0 else rup L.1 d.2.2.2.2) + d.2.2.2.1), max L.2.1 d.2.2.2.2, none, L.2.2.2 ++ [((if U = true then 0 else rup L.1 d.2.2.2.2), t, 0, 0)]) := by
  unfold lyS
  rw [h1]
  simp only
  rw [if_pos h2]
theorem lyS_bits {U : Bool} {L : LyS} {d : AdS} {t P K : Nat} (h1 : d.1 = some t) (h2 : d.2.1 ≠ 0) (hU : lyU U L.1 L.2.2.1 d.2.1 = (P, K)) : lyS U L d = (max L.1 (P + 4), max L.2.1 4, some (P, K + d.2.1), if d.2.2.1 = true then L.2.2.2 ++ [(P, t, K, d.2.1)] else L.2.2.2) := by
  unfold lyS
  rw [h1]
  simp only
  rw [if_neg h2, hU]
theorem lyS_brk {U : Bool} {L : LyS} {d : AdS} (h1 : d.1 = none) : lyS U L d = (L.1, L.2.1, none, L.2.2.2) := by
  unfold lyS
  rw [h1]
