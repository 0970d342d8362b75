/-! rounding up; small rows on numbers -/
def rup (p s : Nat) : Nat := if s = 0 then p else (p + s - 1) / s * s
theorem rup_alt {p s : Nat} (hs : 0 < s) : rup p s = if p % s = 0 then p else p + s - p % s := by
  unfold rup
  rw [if_neg (by omega)]
  have h1 := Nat.div_add_mod p s
  have h2 := Nat.mod_lt p hs
  by_cases c : p % s = 0
  · rw [if_pos c]
    have e : p + s - 1 = (s - 1) + s * (p / s) := by omega
    rw [e, Nat.add_mul_div_left _ _ hs, Nat.div_eq_of_lt (by omega), Nat.zero_add, Nat.mul_comm]
    omega
  · rw [if_neg c]
    have e : p + s - 1 = (p % s - 1) + s * (p / s + 1) := by rw [Nat.mul_add]; omega
    rw [e, Nat.add_mul_div_left _ _ hs, Nat.div_eq_of_lt (by omega), Nat.zero_add, Nat.add_mul, Nat.mul_comm]
    omega
theorem rup_ge (p s : Nat) : p ≤ rup p s := by
  by_cases c : s = 0
  · unfold rup; rw [if_pos c]; exact Nat.le_refl _
  · rw [rup_alt (by omega)]
    have := Nat.mod_lt p (show 0 < s by omega)
    split <;> omega
theorem rup_le (p s : Nat) : rup p s ≤ p + s := by
  by_cases c : s = 0
  · unfold rup; rw [if_pos c]; omega
  · rw [rup_alt (by omega)]
    split <;> omega
theorem mx_nI {a b : Nat} (ha : a < 2 ^ 31) (hb : b < 2 ^ 31) : (if nI a < nI b then nI b else nI a) = nI (max a b) := by
  by_cases c : a < b
  · rw [if_pos (nI_lt c hb)]; congr 1; omega
  · rw [if_neg (nI_nlt (by omega) ha)]; congr 1; omega
theorem b01 {v : Int32} (h : v = 0 ∨ v = 1) : narrow .boolean (.int v) = .int v := by rcases h with rfl | rfl <;> rfl
theorem f01 {v : Int32} (h : v = 0 ∨ v = 1) : fits .boolean (.int v) = true := by rcases h with rfl | rfl <;> rfl
/-- a place of a list by an int -/
def lk {α : Type} (ty : List α) (t : Int32) : Option α := if t < 0 then none else ty[t.toNatClampNeg]?
theorem lk_neg {α : Type} {ty : List α} {t : Int32} (h : t < 0) : lk ty t = none := by unfold lk; rw [if_pos h]
theorem lk_ofS {α : Type} {ty : List α} {t : Int32} {a : α} (h : lk ty t = some a) : ¬ t < 0 ∧ ty[t.toNatClampNeg]? = some a := by
  unfold lk at h
  by_cases c : t < 0
  · rw [if_pos c] at h; cases h
  · rw [if_neg c] at h; exact ⟨c, h⟩
theorem lk_lt {α : Type} {ty : List α} {t : Int32} {a : α} (h : lk ty t = some a) (hl : ty.length < 2 ^ 31) : t < nI ty.length ∧ t = nI t.toNatClampNeg ∧ t.toNatClampNeg < ty.length := by
  obtain ⟨h0, h1⟩ := lk_ofS h
  obtain ⟨j, hj, e⟩ := nI_of h0
  have hlt : t.toNatClampNeg < ty.length := (List.getElem?_eq_some_iff.mp h1).1
  have e2 : t.toNatClampNeg = j := by rw [e]; exact nI_clamp hj
  refine ⟨?_, by rw [e2]; exact e, hlt⟩
  rw [e]
  exact nI_lt (by omega) hl
theorem lk_ge {α : Type} {ty : List α} {t : Int32} (h0 : ¬ t < 0) (h : ¬ t < nI ty.length) (hl : ty.length < 2 ^ 31) : lk ty t = none := by
  cases hh : lk ty t with
  | none => rfl
  | some a => exact absurd (lk_lt hh hl).1 h
theorem lk_some {α : Type} {ty : List α} {t : Int32} (h0 : ¬ t < 0) (h : t < nI ty.length) (hl : ty.length < 2 ^ 31) : ∃ a, lk ty t = some a := by
  obtain ⟨j, hj, e⟩ := nI_of h0
  rw [e] at h
  have hlt : j < ty.length := (nI_ltI hj hl).mp h
  refine ⟨ty[j], ?_⟩
  unfold lk
  rw [if_neg h0, e, nI_clamp hj]
  exact List.getElem?_eq_getElem hlt
theorem lk_nI {α : Type} {ty : List α} {i : Nat} (hi : i < 2 ^ 31) : lk ty (nI i) = ty[i]? := by
  unfold lk
  rw [if_neg (nI_pos hi), nI_clamp hi]
theorem AL_len {g : GG} {h : Nat → Option va_E} {a arr : Nat} {xs : List Nat} (hL : AL g h a arr xs) : xs.length ≤ 800 := by
  obtain ⟨-, -, h1⟩ := hL
  rcases h1 with ⟨cap, f, -, h2, -, h3, -⟩ | ⟨-, -, h2⟩
  · omega
  · rw [h2]; exact Nat.zero_le _
theorem AL_get {g : GG} {h : Nat → Option va_E} {a arr : Nat} {xs : List Nat} (hL : AL g h a arr xs) {i : Int32} {y : Nat} (hy : lk xs i = some y) : ∃ (cap : Nat) (f : Nat → Option Nat), h arr = some (arO g cap f) ∧ vp_in i cap ∧ f i.toNatClampNeg = some y ∧ ¬ i < 0 ∧ i < nI xs.length := by
  have hn := AL_len hL
  obtain ⟨h0, h1⟩ := lk_ofS hy
  obtain ⟨h2, h3, h4⟩ := lk_lt hy (by omega)
  obtain ⟨-, -, hA⟩ := hL
  rcases hA with ⟨cap, f, e1, e2, e3, e4, e5⟩ | ⟨-, -, e⟩
  · refine ⟨cap, f, e1, ?_, ?_, h0, h2⟩
    · rw [h3]; exact vp_in_nI (by omega) (by omega)
    · rw [e5 _ h4]; exact h1
  · subst e
    exact absurd h4 (Nat.not_lt_zero _)
theorem AL_arr {g : GG} {h : Nat → Option va_E} {a arr : Nat} {xs : List Nat} (hL : AL g h a arr xs) : h arr = none ∨ ∃ z, h arr = some (.inl z) := by
  obtain ⟨-, -, h1⟩ := hL
  rcases h1 with ⟨cap, f, h2, -⟩ | ⟨h2, h3, -⟩
  · exact Or.inr ⟨_, h2⟩
  · exact Or.inl (by rw [h2]; exact h3)
/-- a type's cell: a Compound, or a Simple -/
def isTy (h : Nat → Option va_E) (a : Nat) : Prop := (∃ (by_ al ov : Int32) (ml : Nat) (op re up fb : Int32), h a = some (oCo by_ al ov ml op re up fb)) ∨ ∃ by_ al ki ba le : Int32, h a = some (oSi by_ al ki ba le)
def mt (h : Nat → Option va_E) (k b n : Int32) (a : Nat) : Prop := ∃ by_ al : Int32, h a = some (oSi by_ al k b n)
theorem mt_co {h : Nat → Option va_E} {k b n : Int32} {a : Nat} {fs : List Value} (ha : h a = some (.inr (1, fs))) : ¬ mt h k b n a := fun ⟨_, _, z⟩ => by
  rw [ha] at z
  cases z
theorem mt_si {h : Nat → Option va_E} {k b n by_ al ki ba le : Int32} {a : Nat} (ha : h a = some (oSi by_ al ki ba le)) (hz : ¬ (ki = k ∧ ba = b ∧ le = n)) : ¬ mt h k b n a := fun ⟨_, _, z⟩ => by
  rw [ha] at z
  cases z
  exact hz ⟨rfl, rfl, rfl⟩
section WT
variable {p : Program} {l : Launch} {e : Env} {R : Room} {s : State} {m : MethodId} {args : Array Value} {below : List Frame} {meth : Method} {c : Code} {H : Heap} {locs : List Loc} {cells slots : Nat} {Q : State → Prop}
variable {cc : ByteArray} {pc : Nat} {ls : Array Slot} {rest : List Value} {g : GG} {A : Nat → Prop} {a : Nat} {h : Nat → Option va_E}
theorem w_castT (hx : p.tables.exec = Jvm.exec) (hb : c.code = cc) {own : String} {index : Nat} (hown : s.vm.findClass own = some m.cls) (hlink : (Cond.classLink own index "LayoutDesk$Type").before args s = true) (hw : wd g A s h H locs) (ha : isTy h a) (hdg : decode cc pc = .ok (.checkcast index, 3))
    (k : W p l e R s m args below meth c H locs cells slots Q (F0 m (pc + 3) ls (.ref a :: rest))) : W p l e R s m args below meth c H locs cells slots Q (F0 m pc ls (.ref a :: rest)) := by
  rcases ha with ⟨b0, b1, b2, b3, b4, b5, b6, b7, ha⟩ | ⟨b0, b1, b2, b3, b4, ha⟩
  · exact va_castY (C := RX0) hx hb hown hlink (w_nwN hw (by decide +kernel)) (w_recv hw ha rfl) hdg k
  · exact va_castY (C := RX2) hx hb hown hlink (w_nwN hw (by decide +kernel)) (w_recv hw ha rfl) hdg k
end WT
