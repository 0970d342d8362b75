/-! pure rows of lists of objects -/
def gcap (n : Nat) : Nat := n + max 1 (n / 2)
theorem nI_0lt {n : Nat} (h0 : 0 < n) (h : n < 2 ^ 31) : (0 : Int32) < nI n := by
  have := nI_lt h0 h
  rw [nI_0] at this
  exact this
theorem gcap_eq {n : Nat} (hn : n < 100000) : nI n + (if nI 1 < nI (n / 2) then nI (n / 2) else nI 1) = nI (gcap n) := by
  by_cases c : 1 < n / 2
  · rw [if_pos (nI_lt c (by omega)), nI_add]
    congr 1
    unfold gcap
    omega
  · rw [if_neg (nI_nlt (by omega) (by decide)), nI_add]
    congr 1
    unfold gcap
    omega
theorem gcap_lt (n : Nat) : n < gcap n := by unfold gcap; omega
theorem gcap_le {n : Nat} (h : n ≤ 530) : gcap n ≤ 800 := by unfold gcap; omega
theorem isE_wu {h : Nat → Option va_E} {q a : Nat} {e : va_E} (hq : h q = none) (ha : isE h a) : isE (wu h q e) a := by
  obtain ⟨ci, fs, h1, h2, h3⟩ := ha
  exact ⟨ci, fs, (wu_n (ne_n h1 hq)).trans h1, h2, h3⟩
theorem isE_wu0 {h : Nat → Option va_E} {q a : Nat} {e : va_E} {fs : List Value} (hq : h q = some (.inr (0, fs))) (ha : isE h a) : isE (wu h q e) a := by
  obtain ⟨ci, gs, h1, h2, h3⟩ := ha
  exact ⟨ci, gs, (wu_n (ne_e h1 hq (ne_c (by omega)))).trans h1, h2, h3⟩
theorem isE_wuA {h : Nat → Option va_E} {q a : Nat} {e : va_E} {z : ClassId × vp_A} (hq : h q = some (.inl z)) (ha : isE h a) : isE (wu h q e) a := by
  obtain ⟨ci, gs, h1, h2, h3⟩ := ha
  exact ⟨ci, gs, (wu_n (ne_e h1 hq ne_rl)).trans h1, h2, h3⟩
/-- the list a, its array arr, its elements xs -/
def AL (g : GG) (h : Nat → Option va_E) (a arr : Nat) (xs : List Nat) : Prop :=
  (∃ mc : Int32, h a = some (oAL mc arr (nI xs.length))) ∧ (∀ x ∈ xs, isE h x) ∧
  ((∃ (cap : Nat) (f : Nat → Option Nat), h arr = some (arO g cap f) ∧ xs.length ≤ cap ∧ 1 ≤ cap ∧ cap ≤ 800 ∧ ∀ i, i < xs.length → f i = xs[i]?) ∨ (arr = gZ g ∧ h (gZ g) = none ∧ xs = []))
/-- what add asks of the cells -/
def preA (g : GG) (h : Nat → Option va_E) (arr n : Nat) (f : Nat → Option Nat) : Prop :=
  (∃ cap : Nat, h arr = some (arO g cap f) ∧ n < cap ∧ cap ≤ 800) ∨ (h arr = some (arO g n f) ∧ 1 ≤ n ∧ n ≤ 530 ∧ ∀ i, i < n → ∀ y, f i = some y → isE h y) ∨ (arr = gZ g ∧ h (gZ g) = none ∧ n = 0)
theorem AL_pre {g : GG} {h : Nat → Option va_E} {a arr : Nat} {xs : List Nat} (hL : AL g h a arr xs) (hn : xs.length ≤ 530) : ∃ f : Nat → Option Nat, preA g h arr xs.length f ∧ ∀ i, i < xs.length → f i = xs[i]? := by
  obtain ⟨-, hE, hA⟩ := hL
  rcases hA with ⟨cap, f, h1, h2, h3, h4, h5⟩ | ⟨h1, h2, h3⟩
  · refine ⟨f, ?_, h5⟩
    rcases Nat.lt_or_ge xs.length cap with q | q
    · exact Or.inl ⟨cap, h1, q, h4⟩
    · have e : xs.length = cap := by omega
      refine Or.inr (Or.inl ⟨by rw [e]; exact h1, by omega, by omega, fun i hi y hy => ?_⟩)
      rw [h5 i hi] at hy
      exact hE y (List.mem_of_getElem? hy)
  · subst h3
    exact ⟨fun _ => none, Or.inr (Or.inr ⟨h1, h2, rfl⟩), fun i hi => absurd hi (Nat.not_lt_zero i)⟩
theorem preA_arr {g : GG} {h : Nat → Option va_E} {arr n : Nat} {f : Nat → Option Nat} (hp : preA g h arr n f) : h arr = none ∨ ∃ z, h arr = some (.inl z) := by
  rcases hp with ⟨cap, h1, -⟩ | ⟨h1, -⟩ | ⟨h1, h2, -⟩
  · exact Or.inr ⟨_, h1⟩
  · exact Or.inr ⟨_, h1⟩
  · exact Or.inl (h1 ▸ h2)
theorem preA_wu {g : GG} {h : Nat → Option va_E} {a arr n : Nat} {f : Nat → Option Nat} {e : va_E} {fs : List Value} (ha : h a = some (.inr (0, fs))) (hp : preA g h arr n f) : preA g (wu h a e) arr n f := by
  rcases hp with ⟨cap, h1, h2⟩ | ⟨h1, h2, h3, h4⟩ | ⟨h1, h2, h3⟩
  · exact Or.inl ⟨cap, (wu_n (ne_e h1 ha ne_lr)).trans h1, h2⟩
  · exact Or.inr (Or.inl ⟨(wu_n (ne_e h1 ha ne_lr)).trans h1, h2, h3, fun i hi y hy => isE_wu0 ha (h4 i hi y hy)⟩)
  · exact Or.inr (Or.inr ⟨h1, (wu_n (ne_n ha h2).symm).trans h2, h3⟩)
theorem isE_frame {h h' : Nat → Option va_E} {a arr y : Nat} {fs : List Value} (hy : isE h y) (hf : ∀ q, q ≠ a → q ≠ arr → h' q = h q) (ha : h a = some (.inr (0, fs))) (hr : h arr = none ∨ ∃ z, h arr = some (.inl z)) : isE h' y := by
  obtain ⟨ci, gs, h1, h2, h3⟩ := hy
  refine ⟨ci, gs, ?_, h2, h3⟩
  rw [hf y (ne_e h1 ha (ne_c (by omega)))]
  · exact h1
  · rcases hr with hr | ⟨z, hr⟩
    · exact ne_n h1 hr
    · exact ne_e h1 hr ne_rl
/-- what add leaves -/
theorem AL_add {g : GG} {h h' : Nat → Option va_E} {a arr arr' x : Nat} {mc : Int32} {xs : List Nat} {f f' : Nat → Option Nat} {cap' : Nat} {fs : List Value} (ha : h a = some (.inr (0, fs))) (hE : ∀ y ∈ xs, isE h y) (hx : isE h x) (hf0 : ∀ i, i < xs.length → f i = xs[i]?) (hr : h arr = none ∨ ∃ z, h arr = some (.inl z))
    (h1 : arr' = arr ∨ h arr' = none) (h2 : h' a = some (oAL mc arr' (nI (xs.length + 1)))) (h3 : h' arr' = some (arO g cap' f')) (h4 : xs.length + 1 ≤ cap') (h5 : cap' ≤ 800) (h6 : ∀ i, i < xs.length → f' i = f i) (h7 : f' xs.length = some x) (h8 : ∀ q, q ≠ a → q ≠ arr' → h' q = h q) : AL g h' a arr' (xs ++ [x]) := by
  have hr' : h arr' = none ∨ ∃ z, h arr' = some (.inl z) := by
    rcases h1 with h1 | h1
    · subst h1; exact hr
    · exact Or.inl h1
  refine ⟨⟨mc, by rw [h2, List.length_append]; rfl⟩, fun y hy => ?_, Or.inl ⟨cap', f', h3, by rw [List.length_append]; exact h4, by omega, h5, fun i hi => ?_⟩⟩
  · rcases List.mem_append.mp hy with hy | hy
    · exact isE_frame (hE y hy) h8 ha hr'
    · rw [List.mem_singleton] at hy
      subst hy
      exact isE_frame hx h8 ha hr'
  · rw [List.length_append] at hi
    rcases Nat.lt_or_ge i xs.length with q | q
    · rw [h6 i q, hf0 i q, List.getElem?_append_left q]
    · have e : i = xs.length := by simp at hi; omega
      subst e
      rw [h7]
      simp
section WR
variable {s : State} {H : Heap} {locs : List Loc} {g : GG} {A : Nat → Prop} {h : Nat → Option va_E}
theorem w_recvA (hw : wd g A s h H locs) {a n : Nat} {f : Nat → Option Nat} (ha : h a = some (arO g n f)) : ∃ cell : Cell, H[a]? = some cell ∧ cell.vm.isStatics = false ∧ s.vm.findClass "[Ljava/lang/Object;" = some cell.cls := by
  have h1 := (wP_A hw.2.1 ha).2
  obtain ⟨kA, comp, -, -, -, f1⟩ := (hw.1.2 0 _ rfl).2
  exact ⟨_, h1, rfl, f1⟩
end WR
