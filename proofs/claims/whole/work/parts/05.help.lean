/-! what a cell of each class holds; small rows -/
abbrev oAL (mc : Int32) (arr : Nat) (n : Int32) : va_E := .inr (0, [.int mc, .ref arr, .int n])
abbrev oCo (by_ al ov : Int32) (ml : Nat) (op re up fb : Int32) : va_E := .inr (1, [.int by_, .int al, .int ov, .ref ml, .int op, .int re, .int up, .int fb])
abbrev oMb (pl ty lo wi : Int32) : va_E := .inr (2, [.int pl, .int ty, .int lo, .int wi])
abbrev oSi (by_ al ki ba le : Int32) : va_E := .inr (3, [.int by_, .int al, .int ki, .int ba, .int le])
abbrev oDk (kl : Nat) : va_E := .inr (4, [.ref kl])
abbrev oAd (ty wi mb : Int32) : va_E := .inr (5, [.int ty, .int wi, .int mb])
abbrev oTy (ki to_ le si al : Int32) (ad : Nat) (fi : Int32) : va_E := .inr (6, [.int ki, .int to_, .int le, .int si, .int al, .ref ad, .int fi])
abbrev oMo (tl p0 p1 p2 p3 : Nat) (mem rea al : Int32) : va_E := .inr (7, [.ref tl, .ref p0, .ref p1, .ref p2, .ref p3, .int mem, .int rea, .int al])
section WH
variable {s : State} {H : Heap} {locs : List Loc} {g : GG} {A : Nat → Prop} {h : Nat → Option va_E}
theorem w_nwN (hw : wd g A s h H locs) {w : Cond} (hm : w ∈ nwL) : va_Nw w s := hw.2.2.2.2.2.2.2.2.2.2.2.1 w hm
theorem w_nw (hw : wd g A s h H locs) {w : Cond} (hm : w ∈ nwL) {av : Array Value} : w.before av s = true := va_Nw.use (nw_on (nwL_is w hm)) (w_nwN hw hm)
theorem w_nc (hw : wd g A s h H locs) {C T : String} (hm : (C, T) ∈ ncL) : va_Nc C T s := hw.2.2.2.2.2.2.2.2.2.2.2.2 (C, T) hm
theorem w_z (hw : wd g A s h H locs) : h (gZ g) = none := by
  cases hh : h (gZ g) with
  | none => rfl
  | some e =>
    obtain ⟨cell, h1, h2, h3, h4, h5, h6, h7⟩ := hw.2.2.2.2.2.1
    exact absurd (wP_A hw.2.1 hh).1 h7
theorem ne_e {a b : Nat} {x y : va_E} (ha : h a = some x) (hb : h b = some y) (hxy : x ≠ y) : a ≠ b := fun q => by
  subst q
  rw [ha] at hb
  exact hxy (Option.some.inj hb)
theorem ne_n {a b : Nat} {x : va_E} (ha : h a = some x) (hb : h b = none) : a ≠ b := fun q => by
  subst q
  rw [ha] at hb
  cases hb
theorem ne_c {ci cj : Nat} {fs gs : List Value} (hc : ci ≠ cj) : (Sum.inr (ci, fs) : va_E) ≠ Sum.inr (cj, gs) := fun q => hc (by cases q; rfl)
theorem ne_lr {x : ClassId × vp_A} {y : Nat × List Value} : (Sum.inl x : va_E) ≠ Sum.inr y := fun q => by cases q
theorem ne_rl {x : ClassId × vp_A} {y : Nat × List Value} : (Sum.inr y : va_E) ≠ Sum.inl x := fun q => by cases q
end WH
