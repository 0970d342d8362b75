/-! a member more; bit-fields -/
theorem kp_mem {g : GG} {h W : Nat → Option va_E} {a q : Nat} {fs gs : List Value} (ha : h a = some (.inr (1, fs))) (hWa : W a = some (.inr (1, gs))) (hq : h q = none) (hWf : ∀ z, z ≠ a → z ≠ q → W z = h z) (hz : W (gZ g) = none) : kp g h W := by
  refine ⟨fun z e hz0 hk => ?_, fun z hE => ?_, hz⟩
  · rw [hWf z ?_ (ne_n hz0 hq)]
    · exact hz0
    · rcases hk with ⟨y, rfl⟩ | ⟨ys, rfl⟩
      · exact ne_e hz0 ha ne_lr
      · exact ne_e hz0 ha (ne_c (by decide))
  · obtain ⟨ci, ys, e1, e2, e3⟩ := hE
    by_cases c : z = a
    · subst c
      exact ⟨1, gs, hWa, by decide, by decide⟩
    · exact ⟨ci, ys, (hWf z c (ne_n e1 hq)).trans e1, e2, e3⟩
theorem DR_mem {g : GG} {h W h' : Nat → Option va_E} {x : Nat} {S : List TyS} {kl ka : Nat} {ty : List Nat} {ml ma : Nat → Nat} {mb : Nat → List Nat} {r a q m' : Nat} {T T' : TyS} {fs : List Value} {up fb : Int32} {mm : Nat × Nat × Nat × Nat} (hR : DR0 g h x S kl ka ty ml ma mb) (hS : S[r]? = some T) (ha2 : ty[r]? = some a) (hk : 3 ≤ tK T) (ha : h a = some (.inr (1, fs))) (hq : h q = none)
    (hWa : W a = some (oCo (nI (tSz T')) (nI (tAl T')) (if tK T' = 4 then 1 else 0) (ml r) (if tFi T' = true then 0 else 1) (nI (ly T').1) up fb)) (hWq : W q = some (oMb (nI mm.1) (nI mm.2.1) (nI mm.2.2.1) (nI mm.2.2.2))) (hWf : ∀ z, z ≠ a → z ≠ q → W z = h z) (hM : AL g W (ml r) (ma r) (mb r)) (hz : h' (gZ g) = none) (q1 : m' = ma r ∨ W m' = none) (q2 : AL g h' (ml r) m' (mb r ++ [q])) (q3 : ∀ z, z ≠ ml r → z ≠ m' → h' z = W z) (hk' : 3 ≤ tK T') (hu : uOK (tK T' == 4) (ly T').2.2.1 up fb)
    (hold : ∀ (j y : Nat) (m : Nat × Nat × Nat × Nat), (mb r)[j]? = some y → (ly T).2.2.2[j]? = some m → h y = some (oMb (nI m.1) (nI m.2.1) (nI m.2.2.1) (nI m.2.2.2))) (hlen : (mb r).length = (ly T).2.2.2.length) (hmem : (ly T').2.2.2 = (ly T).2.2.2 ++ [mm]) : DR g h' x (S.set r T') := by
  obtain ⟨⟨mc, k0⟩, -, -⟩ := id hM
  have hr : W m' = none ∨ ∃ z, W m' = some (.inl z) := by
    rcases q1 with q1 | q1
    · rw [q1]; exact AL_arr hM
    · exact Or.inl q1
  have keep : ∀ z ci gs, W z = some (.inr (ci, gs)) → ci ≠ 0 → h' z = W z := fun z ci gs e1 e2 => q3 z (ne_e e1 k0 (ne_c e2)) (hr.elim (fun w => ne_n e1 w) (fun w => ne_e e1 w.choose_spec ne_rl))
  have hqa : q ≠ a := (ne_n ha hq).symm
  have ha' := (keep a _ _ hWa (by decide)).trans hWa
  have hq' := (keep q _ _ hWq (by decide)).trans hWq
  have h3 : m' = ma r ∨ h m' = none := by
    rcases q1 with q1 | q1
    · exact Or.inl q1
    · have n1 : m' ≠ a := fun e => by rw [e, hWa] at q1; cases q1
      have n2 : m' ≠ q := fun e => by rw [e, hWq] at q1; cases q1
      exact Or.inr ((hWf m' n1 n2).symm.trans q1)
  refine ⟨_, _, _, _, _, _, DR_add hR hz hS ha2 hk ha ha' hq ⟨2, _, hq', by decide, by decide⟩ h3 q2 (fun z e1 e2 e3 e4 => (q3 z e3 e4).trans (hWf z e1 e2)) (cX_rec hk' ha' hu ?_ ?_)⟩
  · rw [hmem, List.length_append, List.length_append, hlen]
    rfl
  · intro j y m hj hm
    rw [hmem] at hm
    rcases Nat.lt_or_ge j (mb r).length with c | c
    · rw [List.getElem?_append_left c] at hj
      rw [List.getElem?_append_left (by omega)] at hm
      have e1 := hold j y m hj hm
      have ey : W y = h y := hWf y (ne_e e1 ha (ne_c (by decide))) (ne_n e1 hq)
      exact (keep y _ _ (ey.trans e1) (by decide)).trans (ey.trans e1)
    · rw [List.getElem?_append_right c] at hj
      rw [List.getElem?_append_right (by omega)] at hm
      have e0 : j - (mb r).length = 0 := by
        have := (List.getElem?_eq_some_iff.mp hj).1
        simp at this
        omega
      rw [e0] at hj
      rw [← hlen, e0] at hm
      cases hj
      cases hm
      exact hq'
theorem ly_fld (T : TyS) (t sz al : Nat) : ly (tPush T (some t, 0, true, sz, al)) = (max (ly T).1 ((if (tK T == 4) = true then 0 else rup (ly T).1 al) + sz), max (ly T).2.1 al, none, (ly T).2.2.2 ++ [((if (tK T == 4) = true then 0 else rup (ly T).1 al), t, 0, 0)]) := (ly_push _ _).trans rfl
theorem lyS_bit {un : Bool} {L : LyS} {t w P K : Nat} {b : Bool} (hw : w ≠ 0) (hU : lyU un L.1 L.2.2.1 w = (P, K)) : lyS un L (some t, w, b, 0, 0) = (max L.1 (P + 4), max L.2.1 4, some (P, K + w), if b = true then L.2.2.2 ++ [(P, t, K, w)] else L.2.2.2) := by
  unfold lyS
  simp only [if_neg hw, hU]
theorem bitsA {un : Bool} {u : Option (Nat × Nat)} {up fb : Int32} {re w : Nat} (h1 : 1 ≤ w) (h2 : w ≤ 32) (hu : uOK un u up fb) (hk : ∀ p k, u = some (p, k) → k ≤ 32) (hf : nI w ≤ fb) : ∃ p k, un = false ∧ u = some (p, k) ∧ up = nI p ∧ fb = nI (32 - k) ∧ k + w ≤ 32 ∧ lyU un re u w = (p, k) := by
  rcases hu with ⟨-, e⟩ | ⟨-, -, e⟩ | ⟨p, k, e1, e2, e3, e4⟩
  · rw [e] at hf
    exact absurd hf (nI_nle (by omega) (by omega))
  · rw [e] at hf
    exact absurd hf (nI_nle (by omega) (by omega))
  · have hkk := hk p k e2
    rw [e4] at hf
    have hle := (nI_leI (by omega) (by omega)).mp hf
    refine ⟨p, k, e1, e2, e3, e4, by omega, ?_⟩
    rw [e2, e1]
    unfold lyU
    simp only
    rw [if_neg]
    rintro (z | z)
    · cases z
    · omega
theorem bitsB {un : Bool} {u : Option (Nat × Nat)} {up fb : Int32} {re w : Nat} (h1 : 1 ≤ w) (h2 : w ≤ 32) (hu : uOK un u up fb) (hk : ∀ p k, u = some (p, k) → k ≤ 32) (hf : ¬ nI w ≤ fb) : lyU un re u w = ((if un = true then 0 else rup re 4), 0) := by
  unfold lyU
  rcases hu with ⟨e1, -⟩ | ⟨e1, e2, -⟩ | ⟨p, k, e1, e2, e3, e4⟩
  · subst e1
    cases u with
    | none => rfl
    | some q => simp
  · subst e2
    rfl
  · have hkk := hk p k e2
    subst e2
    simp only
    rw [if_pos (Or.inr ?_)]
    rcases Nat.lt_or_ge 32 (k + w) with z | z
    · exact z
    · exact absurd (by rw [e4]; exact nI_le (by omega) (by omega)) hf
theorem ov_if (T : TyS) (x y : Int32) : (if (if tK T = 4 then (1 : Int32) else 0) = 0 then x else y) = if (tK T == 4) = true then y else x := by
  by_cases c : tK T = 4
  · rw [if_pos c, if_neg (by decide), if_pos (by rw [c]; rfl)]
  · rw [if_neg c, if_pos rfl, if_neg (by simpa using c)]
theorem ne_sz {h : Nat → Option va_E} {a b ml ml2 : Nat} {s1 s2 b1 b2 b3 b4 b5 b6 c1 c2 c3 c4 c5 c6 : Int32} (ha : h a = some (oCo s1 b1 b2 ml b3 b4 b5 b6)) (hb : h b = some (oCo s2 c1 c2 ml2 c3 c4 c5 c6)) (hs : s2 ≠ s1) : b ≠ a := fun e => by
  subst e
  rw [ha] at hb
  cases hb
  exact hs rfl
