theorem bit_w {w : Int32} (h1 : ¬ w < 1) (h2 : w ≤ 32) : w = nI w.toNatClampNeg ∧ 1 ≤ w.toNatClampNeg ∧ w.toNatClampNeg ≤ 32 := by
  obtain ⟨a, b, c⟩ := arr_n h1 (Int32.le_trans h2 (by decide))
  refine ⟨a, b, ?_⟩
  rw [a] at h2
  exact (nI_leI (b := 32) (by omega) (by decide)).mp h2
theorem bit_t {t : Int32} (h : t = 5 ∨ t = 6) : t = nI t.toNatClampNeg ∧ t.toNatClampNeg < 300 ∧ 5 ≤ t.toNatClampNeg := by
  rcases h with rfl | rfl <;> decide
theorem uOK_bit (un : Bool) (P K w : Nat) {up fb : Int32} (hu : up = nI P) (hk : K + w ≤ 32) (hf : fb = if un = true then 0 else nI (32 - K) - nI w) : uOK un (some (P, K + w)) up fb := by
  cases un with
  | true => exact Or.inl ⟨rfl, by rw [hf]; rfl⟩
  | false =>
    refine Or.inr (Or.inr ⟨P, K + w, rfl, rfl, hu, ?_⟩)
    rw [hf]
    show nI (32 - K) - nI w = nI (32 - (K + w))
    rw [pk_sub (by omega)]
    congr 1
    omega
def baseS : List TyS := [(0, 0, 0, 0, 0, [], false), (0, 0, 0, 1, 1, [], false), (0, 0, 0, 1, 1, [], false), (0, 0, 0, 2, 2, [], false), (0, 0, 0, 2, 2, [], false), (0, 0, 0, 4, 4, [], false), (0, 0, 0, 4, 4, [], false), (0, 0, 0, 8, 4, [], false), (0, 0, 0, 8, 4, [], false), (0, 0, 0, 4, 4, [], false), (0, 0, 0, 8, 4, [], false)]
