theorem kU_t {K : Nat} (hK : K ≤ 4) (h : nI K = 4) : (K == 4) = true := by
  have : K = 4 := (nI_eq (b := 4) (by omega) (by decide)).mp h
  rw [this]
  rfl
theorem kU_f {K : Nat} (h : ¬ nI K = 4) : (K == 4) = false := by
  cases hq : (K == 4) with
  | false => rfl
  | true =>
    have : K = 4 := by simpa using hq
    exact absurd (by rw [this]; rfl) h
theorem lyU_un {U : Bool} {re w : Nat} {u : Option (Nat × Nat)} (hU : U = true) : lyU U re u w = (0, 0) := by
  subst hU
  unfold lyU
  cases u with
  | none => rfl
  | some q => simp
theorem lyU_new {U : Bool} {re w : Nat} {u : Option (Nat × Nat)} (hU : U = false) (h : u = none ∨ ∃ p k, u = some (p, k) ∧ 32 < k + w) : lyU U re u w = (rup re 4, 0) := by
  subst hU
  unfold lyU
  rcases h with h | ⟨p, k, h1, h2⟩
  · subst h
    rfl
  · subst h1
    simp only
    rw [if_pos (Or.inr h2)]
    rfl
theorem lyU_fit {U : Bool} {re w p k : Nat} {u : Option (Nat × Nat)} (hU : U = false) (h1 : u = some (p, k)) (h2 : k + w ≤ 32) : lyU U re u w = (p, k) := by
  subst hU
  subst h1
  unfold lyU
  simp only
  rw [if_neg]
  rintro (z | z)
  · cases z
  · omega
