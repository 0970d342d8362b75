/-! what every call keeps -/
def wfX (N : Nat) (S : List TyS) : Prop := wfS N S ∧ ∃ T0 : TyS, S[0]? = some T0 ∧ tK T0 = 0
section WFX
variable {S : List TyS} {N : Nat}
theorem wfT_mono {M : Nat} {T : TyS} (h : wfT N T) (hM : N ≤ M) : wfT M T := by
  obtain ⟨h1, h2, h3, h4, h5, h6, h7, h8⟩ := h
  exact ⟨h1, h2, h3, h4, h5, Nat.le_trans h6 hM, h7, h8⟩
theorem wfX_mono {M : Nat} (h : wfX N S) (hM : N ≤ M) : wfX M S := ⟨⟨h.1.1, h.1.2.1, fun k T hk => ⟨wfT_mono (h.1.2.2 k T hk).1 hM, (h.1.2.2 k T hk).2⟩⟩, h.2⟩
theorem adOK_app {T : TyS} {a : AdS} (h : adOK S a) : adOK (S ++ [T]) a := by
  obtain ⟨h1, h2, h3, h4⟩ := h
  refine ⟨h1, h2, h3, fun t e => ⟨(h4 t e).1, fun z => ?_⟩⟩
  obtain ⟨T', z1, z2⟩ := (h4 t e).2 z
  exact ⟨T', by rw [List.getElem?_append_left (List.getElem?_eq_some_iff.mp z1).1]; exact z1, z2⟩
theorem wfX_app {T : TyS} (h : wfX N S) (hl : ¬ 300 ≤ S.length) (hT : wfT N T) (hz : tSz T ≠ 0 ↔ (tK T < 3 ∨ tFi T = true)) (ha : tAd T = []) : wfX N (S ++ [T]) := by
  obtain ⟨⟨h1, h2, h3⟩, T0, t1, t2⟩ := h
  refine ⟨⟨by rw [List.length_append]; omega, by rw [List.length_append, List.length_singleton]; omega, fun k T' hk => ?_⟩, T0, by rw [List.getElem?_append_left (by omega)]; exact t1, t2⟩
  rcases Nat.lt_or_ge k S.length with c | c
  · rw [List.getElem?_append_left c] at hk
    obtain ⟨z1, z2, z3⟩ := h3 k T' hk
    exact ⟨z1, z2, fun a hm => adOK_app (z3 a hm)⟩
  · rw [List.getElem?_append_right c] at hk
    have e : k - S.length = 0 := by
      have := (List.getElem?_eq_some_iff.mp hk).1
      simp at this
      omega
    rw [e] at hk
    cases hk
    exact ⟨hT, ⟨fun z => ⟨by omega, hz.mp z⟩, fun z => hz.mpr z.2⟩, fun a hm => by rw [ha] at hm; cases hm⟩
theorem adOK_set {r : Nat} {T T' : TyS} {a : AdS} (hr : S[r]? = some T) (hz : tSz T = 0) (h : adOK S a) : adOK (S.set r T') a := by
  obtain ⟨h1, h2, h3, h4⟩ := h
  refine ⟨h1, h2, h3, fun t e => ⟨(h4 t e).1, fun z => ?_⟩⟩
  obtain ⟨T2, z1, z2, z3, z4⟩ := (h4 t e).2 z
  have hne : r ≠ t := fun w => by
    subst w
    rw [hr] at z1
    cases z1
    exact z4 hz
  exact ⟨T2, by rw [List.getElem?_set_ne hne]; exact z1, z2, z3, z4⟩
theorem wfX_set {M r : Nat} {T T' : TyS} (h : wfX N S) (hM : N ≤ M) (hr : S[r]? = some T) (hk : 3 ≤ tK T) (hf : tFi T = false) (hT : wfT M T') (hz : tSz T' ≠ 0 ↔ (tK T' < 3 ∨ tFi T' = true)) (ha : ∀ a ∈ tAd T', adOK S a) : wfX M (S.set r T') := by
  obtain ⟨⟨h1, h2, h3⟩, T0, t1, t2⟩ := h
  have hrl := (List.getElem?_eq_some_iff.mp hr).1
  have hr0 : r ≠ 0 := fun e => by
    subst e
    rw [hr] at t1
    cases t1
    omega
  have hz0 : tSz T = 0 := Classical.byContradiction (fun z => by
    rcases ((h3 r T hr).2.1.mp z).2 with y | y
    · omega
    · rw [hf] at y; cases y)
  refine ⟨⟨by rw [List.length_set]; exact h1, by rw [List.length_set]; exact h2, fun k T2 hk2 => ?_⟩, T0, by rw [List.getElem?_set_ne hr0]; exact t1, t2⟩
  by_cases c : r = k
  · subst c
    rw [List.getElem?_set_self hrl] at hk2
    cases hk2
    exact ⟨hT, ⟨fun z => ⟨by omega, hz.mp z⟩, fun z => hz.mpr z.2⟩, fun a hm => adOK_set hr hz0 (ha a hm)⟩
  · rw [List.getElem?_set_ne c] at hk2
    obtain ⟨z1, z2, z3⟩ := h3 k T2 hk2
    exact ⟨wfT_mono z1 hM, z2, fun a hm => adOK_set hr hz0 (z3 a hm)⟩
theorem wfX_0 : wfX 0 baseS := by
  refine ⟨⟨by decide, by decide, fun k T hk => ?_⟩, _, rfl, rfl⟩
  have hl := (List.getElem?_eq_some_iff.mp hk).1
  have hl : k < 11 := hl
  rcases (show k = 0 ∨ k = 1 ∨ k = 2 ∨ k = 3 ∨ k = 4 ∨ k = 5 ∨ k = 6 ∨ k = 7 ∨ k = 8 ∨ k = 9 ∨ k = 10 by omega) with rfl | rfl | rfl | rfl | rfl | rfl | rfl | rfl | rfl | rfl | rfl <;> cases hk <;> exact ⟨⟨by decide, by decide, by decide, by decide, by decide, Nat.le_refl 0, fun _ => rfl, fun z => absurd (show 3 ≤ 0 from z) (by decide)⟩, by decide, fun a hm => by cases hm⟩
theorem wfX_ptr {t : Int32} (h : wfX N S) : wfX N (fPtr S t).2 := by
  unfold fPtr
  split
  · exact h
  · rename_i T ht
    split
    · exact h
    · split
      · exact h
      · rename_i c
        have hl := lk_lt ht (by have := h.1.2.1; omega)
        have := h.1.2.1
        exact wfX_app h c ⟨show 1 ≤ 4 by decide, show t.toNatClampNeg < 300 by omega, Nat.zero_le _, show 4 ≤ 524288 by decide, show 4 ≤ 4 by decide, Nat.zero_le _, fun _ => rfl, fun z => absurd (show 3 ≤ 1 from z) (by decide)⟩ ⟨fun _ => Or.inl (show 1 < 3 by decide), fun _ => (show 4 ≠ 0 by decide)⟩ rfl
theorem wfX_arr {t n : Int32} (h : wfX N S) : wfX N (fArr S t n).2 := by
  unfold fArr
  split
  · exact h
  · rename_i T ht
    split
    · exact h
    · rename_i cn
      split
      · exact h
      · rename_i cs
        split
        · exact h
        · rename_i cm
          split
          · exact h
          · split
            · exact h
            · rename_i c
              have hl := lk_lt ht (by have := h.1.2.1; omega)
              have := h.1.2.1
              have hw := (h.1.2.2 _ _ (lk_ofS ht).2).1
              obtain ⟨en, n1, n2⟩ := arr_n (fun z => cn (Or.inl z)) (Int32.not_lt.mp (fun z => cn (Or.inr z)))
              have hp : 0 < tSz T * n.toNatClampNeg := Nat.mul_pos (by omega) (by omega)
              exact wfX_app h c ⟨show 2 ≤ 4 by decide, show t.toNatClampNeg < 300 by omega, n2, Nat.not_lt.mp cm, hw.2.2.2.2.1, Nat.zero_le _, fun _ => rfl, fun z => absurd (show 3 ≤ 2 from z) (by decide)⟩ ⟨fun _ => Or.inl (show 2 < 3 by decide), fun _ => (show tSz T * n.toNatClampNeg ≠ 0 by omega)⟩ rfl
theorem wfX_rec {k : Int32} (h : wfX N S) : wfX N (fRec S k).2 := by
  unfold fRec
  split
  · exact h
  · rename_i ck
    split
    · exact h
    · rename_i c
      have hk : k.toNatClampNeg = 0 ∨ k.toNatClampNeg = 1 := by
        by_cases z : k = 0
        · subst z; exact Or.inl (by decide)
        · by_cases z1 : k = 1
          · subst z1; exact Or.inr (by decide)
          · exact absurd ⟨z, z1⟩ ck
      exact wfX_app h c ⟨show 3 + k.toNatClampNeg ≤ 4 by omega, show 0 < 300 by decide, Nat.zero_le _, Nat.zero_le _, Nat.zero_le _, Nat.zero_le _, fun _ => rfl, fun _ => ⟨rfl, Nat.zero_le _, Nat.zero_le _, fun p k z => by cases z⟩⟩ ⟨fun z => absurd rfl z, fun z => z.elim (fun y => absurd (show 3 + k.toNatClampNeg < 3 from y) (by omega)) (fun y => by cases y)⟩ rfl
theorem wfX_push {r : Int32} {T : TyS} {d : AdS} (h : wfX N S) (hr : lkO S r = some T) (hd : adOK S d) (h1 : (ly (tPush T d)).1 ≤ 524288) (h2 : (ly (tPush T d)).2.1 ≤ 4) (h3 : (ly (tPush T d)).2.2.2.length ≤ 100) (h4 : ∀ p k, (ly (tPush T d)).2.2.1 = some (p, k) → k ≤ 32 ∧ 1 ≤ k ∧ p + 4 ≤ (ly (tPush T d)).1 ∧ 4 ≤ (ly (tPush T d)).2.1) : wfX (N + 1) (S.set r.toNatClampNeg (tPush T d)) := by
  obtain ⟨ht, hk, hf⟩ := lkO_some hr
  have hS := (lk_ofS ht).2
  obtain ⟨⟨w1, w2, w3, w4, w5, w6, w7, w8⟩, y1, y2⟩ := h.1.2.2 _ _ hS
  refine wfX_set h (Nat.le_succ N) hS hk hf ⟨w1, w2, w3, w4, ?_, ?_, fun z => absurd (show tK T < 3 from z) (by omega), fun _ => ⟨?_, h1, h3, h4⟩⟩ ⟨fun z => ?_, fun z => ?_⟩ (fun a hm => ?_)
  · rw [ly_push] at h2; exact h2
  · show (tAd T ++ [d]).length ≤ N + 1
    rw [List.length_append, List.length_singleton]; omega
  · rw [ly_push]; rfl
  · exact Or.imp id id (y1.mp z).2
  · rcases z with z | z
    · exact absurd (show tK T < 3 from z) (by omega)
    · exact absurd (show tFi T = true from z) (by rw [hf]; decide)
  · rcases List.mem_append.mp (show a ∈ tAd T ++ [d] from hm) with z | z
    · exact y2 a z
    · rw [List.mem_singleton] at z; subst z; exact hd
theorem wfX_sep {r : Int32} (h : wfX N S) : wfX (N + 1) (fSep S r).2 := by
  unfold fSep
  split
  · exact wfX_mono h (Nat.le_succ N)
  · rename_i T hr
    obtain ⟨ht, hk, hf⟩ := lkO_some hr
    obtain ⟨⟨w1, w2, w3, w4, w5, w6, w7, w8⟩, y1, y2⟩ := h.1.2.2 _ _ (lk_ofS ht).2
    obtain ⟨f1, f2, f3, f4⟩ := w8 hk
    have e : ly (tPush T (none, 0, false, 0, 0)) = ((ly T).1, (ly T).2.1, none, (ly T).2.2.2) := ly_push _ _
    exact wfX_push h hr adOK_brk (by rw [e]; exact f2) (by rw [e]; show (ly T).2.1 ≤ 4; omega) (by rw [e]; exact f3) (fun p k z => by rw [e] at z; cases z)
theorem wfX_fld {r t : Int32} (h : wfX N S) : wfX (N + 1) (fFld S r t).2 := by
  unfold fFld
  split
  · rename_i T T2 hr ht2
    split
    · exact wfX_mono h (Nat.le_succ N)
    · rename_i cz
      split
      · exact wfX_mono h (Nat.le_succ N)
      · rename_i cl
        split
        · exact wfX_mono h (Nat.le_succ N)
        · rename_i c
          obtain ⟨ht, hk, hf⟩ := lkO_some hr
          obtain ⟨⟨w1, w2, w3, w4, w5, w6, w7, w8⟩, y1, y2⟩ := h.1.2.2 _ _ (lk_ofS ht).2
          obtain ⟨f1, f2, f3, f4⟩ := w8 hk
          have hw2 := (h.1.2.2 _ _ (lk_ofS ht2).2).1
          have hb := ly_fldB (T := T) (t := t.toNatClampNeg) f2 hw2.2.2.2.1 hw2.2.2.2.2.1
          rw [← ly_push] at c
          refine wfX_push h hr (adOK_fld h.1 (lk_ofS ht2).2 cz) (Nat.not_lt.mp c) ?_ (by rw [hb.2]; omega) ?_
          · rw [ly_fld]
            show max _ _ ≤ 4
            have := hw2.2.2.2.2.1
            omega
          · intro p k z
            rw [ly_fld] at z
            cases z
  · exact wfX_mono h (Nat.le_succ N)
theorem wfX_bit {r t w n : Int32} (h : wfX N S) : wfX (N + 1) (fBit S r t w n).2 := by
  unfold fBit
  split
  · exact wfX_mono h (Nat.le_succ N)
  · rename_i T hr
    split
    · exact wfX_mono h (Nat.le_succ N)
    · rename_i ctw
      split
      · exact wfX_mono h (Nat.le_succ N)
      · rename_i cl
        split
        · exact wfX_mono h (Nat.le_succ N)
        · rename_i c
          have ht56 : t = 5 ∨ t = 6 := Classical.byContradiction (fun z => ctw (Or.inl z))
          obtain ⟨et, t3, t5⟩ := bit_t ht56
          obtain ⟨ew, b1, b2⟩ := bit_w (fun z => ctw (Or.inr (Or.inl z))) (Int32.not_lt.mp (fun z => ctw (Or.inr (Or.inr z))))
          obtain ⟨ht, hk, hf⟩ := lkO_some hr
          obtain ⟨⟨w1, w2, w3, w4, w5, w6, w7, w8⟩, y1, y2⟩ := h.1.2.2 _ _ (lk_ofS ht).2
          obtain ⟨f1, f2, f3, f4⟩ := w8 hk
          have hb := ly_bitB (T := T) (t := t.toNatClampNeg) (w := w.toNatClampNeg) (b := decide (n ≠ 0)) f2 (fun p k z => (f4 p k z).2.2.1) (by omega)
          rw [← ly_push] at c
          have hK : (lyU (tK T == 4) (ly T).1 (ly T).2.2.1 w.toNatClampNeg).2 + w.toNatClampNeg ≤ 32 := by
            unfold lyU
            cases hq : (ly T).2.2.1 with
            | none => simp only; omega
            | some q =>
              obtain ⟨p, k⟩ := q
              simp only
              split
              · simp only; omega
              · rename_i hc
                simp only
                have : ¬ 32 < k + w.toNatClampNeg := fun z => hc (Or.inr z)
                omega
          have e : ly (tPush T (some t.toNatClampNeg, w.toNatClampNeg, decide (n ≠ 0), 0, 0)) = _ := (ly_push _ _).trans (lyS_bit (P := (lyU (tK T == 4) (ly T).1 (ly T).2.2.1 w.toNatClampNeg).1) (K := (lyU (tK T == 4) (ly T).1 (ly T).2.2.1 w.toNatClampNeg).2) (by omega) rfl)
          refine wfX_push h hr (adOK_bit t3 b1 b2) (Nat.not_lt.mp c) ?_ ?_ ?_
          · rw [e]
            show max _ _ ≤ 4
            omega
          · rw [hb.2]
            by_cases z : n = 0
            · rw [if_neg (by simp [z])]; exact f3
            · have : ¬ 100 ≤ (ly T).2.2.2.length := fun y => cl ⟨z, y⟩
              split <;> omega
          · intro p k z
            rw [e] at z ⊢
            cases z
            exact ⟨hK, by omega, Nat.le_max_right _ _, Nat.le_max_right _ _⟩
theorem ly_pos1 {un : Bool} {L : LyS} {a : AdS} (ha : adOK S a) (hL : L.2.2.2 ≠ [] → 0 < L.1) : (lyS un L a).2.2.2 ≠ [] → 0 < (lyS un L a).1 := by
  intro hne
  unfold lyS at hne ⊢
  cases h1 : a.1 with
  | none =>
    rw [h1] at hne
    exact hL hne
  | some t =>
    simp only
    split
    · rename_i hw
      obtain ⟨T, z1, z2, z3, z4⟩ := (ha.2.2.2 t h1).2 hw
      show 0 < max _ _
      omega
    · show 0 < max _ _
      omega
theorem ly_pos2 {un : Bool} : ∀ (as : List AdS) (L : LyS), (∀ a ∈ as, adOK S a) → (L.2.2.2 ≠ [] → 0 < L.1) → (as.foldl (lyS un) L).2.2.2 ≠ [] → 0 < (as.foldl (lyS un) L).1
  | [], _, _, hL => hL
  | a :: as, L, hA, hL => ly_pos2 as (lyS un L a) (fun b hb => hA b (List.mem_cons_of_mem _ hb)) (ly_pos1 (hA a List.mem_cons_self) hL)
theorem ly_pos {un : Bool} (as : List AdS) (hA : ∀ a ∈ as, adOK S a) : (lay un as).2.2.2 ≠ [] → 0 < (lay un as).1 := ly_pos2 as _ hA (fun z => absurd rfl z)
theorem wfX_fin {r : Int32} (h : wfX N S) : wfX N (fFin S r).2 := by
  unfold fFin
  split
  · exact h
  · rename_i T hr
    split
    · exact h
    · rename_i cm
      split
      · exact h
      · rename_i c
        obtain ⟨ht, hk, hf⟩ := lkO_some hr
        obtain ⟨⟨w1, w2, w3, w4, w5, w6, w7, w8⟩, y1, y2⟩ := h.1.2.2 _ _ (lk_ofS ht).2
        have hp := ly_pos (un := tK T == 4) (tAd T) y2 cm
        have hg := rup_ge (ly T).1 (ly T).2.1
        have hp : 0 < (ly T).1 := hp
        exact wfX_set h (Nat.le_refl N) (lk_ofS ht).2 hk hf ⟨w1, w2, w3, Nat.not_lt.mp c, w5, w6, w7, w8⟩ ⟨fun _ => Or.inr rfl, fun _ => (show rup (ly T).1 (ly T).2.1 ≠ 0 by omega)⟩ y2
end WFX
