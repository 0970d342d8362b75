/-! THE DESK AS MATHEMATICS: a list of types; a record's layout is a fold over what was added to it -/
abbrev AdS : Type := Option Nat × Nat × Bool × Nat × Nat
abbrev TyS : Type := Nat × Nat × Nat × Nat × Nat × List AdS × Bool
abbrev LyS : Type := Nat × Nat × Option (Nat × Nat) × List (Nat × Nat × Nat × Nat)
abbrev tK (T : TyS) : Nat := T.1
abbrev tTo (T : TyS) : Nat := T.2.1
abbrev tLn (T : TyS) : Nat := T.2.2.1
abbrev tSz (T : TyS) : Nat := T.2.2.2.1
abbrev tAl (T : TyS) : Nat := T.2.2.2.2.1
abbrev tAd (T : TyS) : List AdS := T.2.2.2.2.2.1
abbrev tFi (T : TyS) : Bool := T.2.2.2.2.2.2
/-- the unit of the next bit-field of w bits: its place, its lowest bit -/
def lyU (un : Bool) (re : Nat) (u : Option (Nat × Nat)) (w : Nat) : Nat × Nat := match u with
  | some (p, k) => if un = true ∨ 32 < k + w then (if un then 0 else rup re 4, 0) else (p, k)
  | none => (if un then 0 else rup re 4, 0)
def lyS (un : Bool) (L : LyS) (a : AdS) : LyS := match a.1 with
  | none => (L.1, L.2.1, none, L.2.2.2)
  | some t => if a.2.1 = 0 then (max L.1 ((if un then 0 else rup L.1 a.2.2.2.2) + a.2.2.2.1), max L.2.1 a.2.2.2.2, none, L.2.2.2 ++ [((if un then 0 else rup L.1 a.2.2.2.2), t, 0, 0)])
    else (max L.1 ((lyU un L.1 L.2.2.1 a.2.1).1 + 4), max L.2.1 4, some ((lyU un L.1 L.2.2.1 a.2.1).1, (lyU un L.1 L.2.2.1 a.2.1).2 + a.2.1), if a.2.2.1 then L.2.2.2 ++ [((lyU un L.1 L.2.2.1 a.2.1).1, t, (lyU un L.1 L.2.2.1 a.2.1).2, a.2.1)] else L.2.2.2)
def lay (un : Bool) (as : List AdS) : LyS := as.foldl (lyS un) (0, 0, none, [])
theorem lay_snoc (un : Bool) (as : List AdS) (a : AdS) : lay un (as ++ [a]) = lyS un (lay un as) a := by simp [lay, List.foldl_append]
def ly (T : TyS) : LyS := lay (tK T == 4) (tAd T)
/-- the type with one more added -/
def tPush (T : TyS) (a : AdS) : TyS := (T.1, T.2.1, T.2.2.1, T.2.2.2.1, (lyS (tK T == 4) (ly T) a).2.1, tAd T ++ [a], tFi T)
theorem ly_push (T : TyS) (a : AdS) : ly (tPush T a) = lyS (tK T == 4) (ly T) a := lay_snoc _ _ _
def tEnd (T : TyS) (b : Nat) : TyS := (T.1, T.2.1, T.2.2.1, b, T.2.2.2.2.1, T.2.2.2.2.2.1, true)
def fnd (S : List TyS) (k to_ ln : Nat) : Option Nat := S.findIdx? (fun T => decide (tK T = k ∧ tTo T = to_ ∧ tLn T = ln))
/-- an open record at r -/
def lkO (S : List TyS) (r : Int32) : Option TyS := match lk S r with
  | none => none
  | some T => if 3 ≤ tK T ∧ tFi T = false then some T else none
def fPtr (S : List TyS) (t : Int32) : Int32 × List TyS := match lk S t with
  | none => (-1, S)
  | some _ => match fnd S 1 t.toNatClampNeg 0 with
    | some k => (nI k, S)
    | none => if 300 ≤ S.length then (-2, S) else (nI S.length, S ++ [(1, t.toNatClampNeg, 0, 4, 4, [], false)])
def fArr (S : List TyS) (t n : Int32) : Int32 × List TyS := match lk S t with
  | none => (-1, S)
  | some T => if n < 1 ∨ 524288 < n then (-1, S) else if tSz T = 0 then (-2, S) else if 524288 < tSz T * n.toNatClampNeg then (-3, S) else
    match fnd S 2 t.toNatClampNeg n.toNatClampNeg with
    | some k => (nI k, S)
    | none => if 300 ≤ S.length then (-4, S) else (nI S.length, S ++ [(2, t.toNatClampNeg, n.toNatClampNeg, tSz T * n.toNatClampNeg, tAl T, [], false)])
def fRec (S : List TyS) (k : Int32) : Int32 × List TyS := if k ≠ 0 ∧ k ≠ 1 then (-1, S) else if 300 ≤ S.length then (-2, S) else (nI S.length, S ++ [(3 + k.toNatClampNeg, 0, 0, 0, 0, [], false)])
def fFld (S : List TyS) (r t : Int32) : Int32 × List TyS := match lkO S r, lk S t with
  | some R, some T => if tSz T = 0 then (-2, S) else if 100 ≤ (ly R).2.2.2.length then (-3, S) else
      if 524288 < (lyS (tK R == 4) (ly R) (some t.toNatClampNeg, 0, true, tSz T, tAl T)).1 then (-4, S) else (nI (ly R).2.2.2.length, S.set r.toNatClampNeg (tPush R (some t.toNatClampNeg, 0, true, tSz T, tAl T)))
  | _, _ => (-1, S)
def fBit (S : List TyS) (r t w n : Int32) : Int32 × List TyS := match lkO S r with
  | none => (-1, S)
  | some R => if ¬ (t = 5 ∨ t = 6) ∨ w < 1 ∨ 32 < w then (-2, S) else if n ≠ 0 ∧ 100 ≤ (ly R).2.2.2.length then (-3, S) else
      if 524288 < (lyS (tK R == 4) (ly R) (some t.toNatClampNeg, w.toNatClampNeg, decide (n ≠ 0), 0, 0)).1 then (-4, S) else (if n ≠ 0 then nI (ly R).2.2.2.length else 100, S.set r.toNatClampNeg (tPush R (some t.toNatClampNeg, w.toNatClampNeg, decide (n ≠ 0), 0, 0)))
def fSep (S : List TyS) (r : Int32) : Int32 × List TyS := match lkO S r with
  | none => (0, S)
  | some R => (1, S.set r.toNatClampNeg (tPush R (none, 0, false, 0, 0)))
def fFin (S : List TyS) (r : Int32) : Int32 × List TyS := match lkO S r with
  | none => (-1, S)
  | some R => if (ly R).2.2.2 = [] then (-2, S) else if 524288 < rup (ly R).1 (ly R).2.1 then (-3, S) else (nI (rup (ly R).1 (ly R).2.1), S.set r.toNatClampNeg (tEnd R (rup (ly R).1 (ly R).2.1)))
def fSiz (S : List TyS) (t : Int32) : Int32 := match lk S t with
  | none => -1
  | some T => nI (tSz T)
def fAli (S : List TyS) (t : Int32) : Int32 := match lk S t with
  | none => -1
  | some T => nI (tAl T)
def fMbs (S : List TyS) (r : Int32) : Int32 := match lk S r with
  | none => -1
  | some T => if 3 ≤ tK T then nI (ly T).2.2.2.length else -1
def fMbr (S : List TyS) (r k w : Int32) : Int32 := match lk S r with
  | none => -1
  | some T => if 3 ≤ tK T then match lk (ly T).2.2.2 k with
      | none => -1
      | some m => if w = 0 then nI m.1 else if w = 1 then nI m.2.1 else if w = 2 then nI m.2.2.1 else if w = 3 then nI m.2.2.2 else -1
    else -1
/-- what holds of one type, after at most N calls -/
def wfT (N : Nat) (T : TyS) : Prop := tK T ≤ 4 ∧ tTo T < 300 ∧ tLn T ≤ 524288 ∧ tSz T ≤ 524288 ∧ tAl T ≤ 4 ∧ (tAd T).length ≤ N ∧ (tK T < 3 → tAd T = []) ∧
  (3 ≤ tK T → tAl T = (ly T).2.1 ∧ (ly T).1 ≤ 524288 ∧ (ly T).2.2.2.length ≤ 100 ∧ ∀ p k, (ly T).2.2.1 = some (p, k) → k ≤ 32 ∧ 1 ≤ k ∧ p + 4 ≤ (ly T).1 ∧ 4 ≤ (ly T).2.1)
/-- what was added speaks of types that are there -/
def adOK (S : List TyS) (a : AdS) : Prop := a.2.1 ≤ 32 ∧ a.2.2.2.1 ≤ 524288 ∧ a.2.2.2.2 ≤ 4 ∧ ∀ t, a.1 = some t → t < 300 ∧ (a.2.1 = 0 → ∃ T, S[t]? = some T ∧ tSz T = a.2.2.2.1 ∧ tAl T = a.2.2.2.2 ∧ tSz T ≠ 0)
def wfS (N : Nat) (S : List TyS) : Prop := 11 ≤ S.length ∧ S.length ≤ 300 ∧ ∀ k T, S[k]? = some T → wfT N T ∧ (tSz T ≠ 0 ↔ (0 < k ∧ (tK T < 3 ∨ tFi T = true))) ∧ ∀ a ∈ tAd T, adOK S a
/-! the cells of lists in a world that changes elsewhere -/
def ext (h h' : Nat → Option va_E) : Prop := ∀ q e, h q = some e → h' q = some e
theorem ext_new {h : Nat → Option va_E} {q : Nat} {e : va_E} (hq : h q = none) : ext h (wu h q e) := fun z e' hz => (wu_n (ne_n hz hq)).trans hz
theorem ext_rf (h : Nat → Option va_E) : ext h h := fun _ _ z => z
theorem ext_tr {h h1 h2 : Nat → Option va_E} (a : ext h h1) (b : ext h1 h2) : ext h h2 := fun q e z => b q e (a q e z)
theorem ext_re {h : Nat → Option va_E} {q : Nat} {e : va_E} {h0 : Nat → Option va_E} (h1 : ext h0 h) (hq : h0 q = none) : ext h0 (wu h q e) := fun z e' hz => (wu_n (ne_n hz hq)).trans (h1 z e' hz)
/-- lists, arrays and objects stay what they are, though objects may change within their class -/
def kp (g : GG) (h h' : Nat → Option va_E) : Prop := (∀ q e, h q = some e → ((∃ x, e = .inl x) ∨ ∃ fs, e = .inr (0, fs)) → h' q = some e) ∧ (∀ q, isE h q → isE h' q) ∧ h' (gZ g) = none
theorem kp_ext {g : GG} {h h' : Nat → Option va_E} (he : ext h h') (hz : h' (gZ g) = none) : kp g h h' := ⟨fun q e a _ => he q e a, fun q ⟨ci, fs, a, b, c⟩ => ⟨ci, fs, he _ _ a, b, c⟩, hz⟩
theorem kp_obj {g : GG} {h h' : Nat → Option va_E} {a ci cj : Nat} {fs gs : List Value} (ha : h a = some (.inr (ci, fs))) (h1 : 1 ≤ ci) (ha' : h' a = some (.inr (cj, gs))) (h2 : 1 ≤ cj) (h3 : cj < 8) (hf : ∀ q, q ≠ a → h' q = h q) (hz : h' (gZ g) = none) : kp g h h' := by
  refine ⟨fun q e hq hk => ?_, fun q hq => ?_, hz⟩
  · rw [hf q]
    · exact hq
    · rcases hk with ⟨x, rfl⟩ | ⟨fs', rfl⟩
      · exact ne_e hq ha ne_lr
      · exact ne_e hq ha (ne_c (by omega))
  · by_cases c : q = a
    · subst c
      exact ⟨cj, gs, ha', h2, h3⟩
    · obtain ⟨ck, hs, z1, z2, z3⟩ := hq
      exact ⟨ck, hs, (hf q c).trans z1, z2, z3⟩
theorem AL_kp {g : GG} {h h' : Nat → Option va_E} {a arr : Nat} {xs : List Nat} (hk : kp g h h') (hL : AL g h a arr xs) : AL g h' a arr xs := by
  obtain ⟨⟨mc, h1⟩, h2, h3⟩ := hL
  refine ⟨⟨mc, hk.1 _ _ h1 (Or.inr ⟨_, rfl⟩)⟩, fun x hx => hk.2.1 x (h2 x hx), ?_⟩
  rcases h3 with ⟨cap, f, z1, z2⟩ | ⟨z1, z2, z3⟩
  · exact Or.inl ⟨cap, f, hk.1 _ _ z1 (Or.inl ⟨_, rfl⟩), z2⟩
  · exact Or.inr ⟨z1, hk.2.2, z3⟩
theorem AL_none {g : GG} {h : Nat → Option va_E} {a arr : Nat} {xs : List Nat} (hL : AL g h a arr xs) (hn : h arr = none) : arr = gZ g := by
  obtain ⟨-, -, h3⟩ := hL
  rcases h3 with ⟨cap, f, z1, z2⟩ | ⟨z1, -⟩
  · rw [hn] at z1; cases z1
  · exact z1
/-- behind an add to the list kl: another list -/
theorem AL_frame {g : GG} {h h' : Nat → Option va_E} {kl ka ka' b br : Nat} {xs ys : List Nat} (hL : AL g h kl ka xs) (hb : AL g h b br ys) (h1 : b ≠ kl) (h2 : br = ka → br = gZ g) (h3 : ka' = ka ∨ h ka' = none) (h4 : ∀ q, q ≠ kl → q ≠ ka' → h' q = h q) (hz0 : h (gZ g) = none) (hz : h' (gZ g) = none) : AL g h' b br ys := by
  have hr : h ka' = none ∨ ∃ z, h ka' = some (.inl z) := by
    rcases h3 with h3 | h3
    · subst h3; exact AL_arr hL
    · exact Or.inl h3
  obtain ⟨⟨mc, k0⟩, -, -⟩ := id hL
  obtain ⟨⟨mb, b0⟩, bE, bA⟩ := hb
  refine ⟨⟨mb, ?_⟩, fun x hx => isE_frame (bE x hx) h4 k0 hr, ?_⟩
  · rw [h4 b h1 (hr.elim (fun z => ne_n b0 z) (fun z => ne_e b0 z.choose_spec ne_rl))]
    exact b0
  · rcases bA with ⟨cap, f, z1, z2⟩ | ⟨z1, z2, z3⟩
    · refine Or.inl ⟨cap, f, ?_, z2⟩
      rw [h4 br (ne_e z1 k0 ne_lr)]
      · exact z1
      · rcases h3 with h3 | h3
        · subst h3
          intro e
          rw [h2 e, hz0] at z1
          cases z1
        · exact ne_n z1 h3
    · exact Or.inr ⟨z1, hz, z3⟩
/-- a list of things, some of which own a list -/
def REG (g : GG) (h : Nat → Option va_E) (kl ka : Nat) (ty : List Nat) (ml ma : Nat → Nat) (mb : Nat → List Nat) (has : Nat → Prop) : Prop :=
  AL g h kl ka ty ∧ ty.Nodup ∧ (∀ k, k < ty.length → has k → AL g h (ml k) (ma k) (mb k) ∧ ml k ≠ kl ∧ (ma k = ka → ma k = gZ g)) ∧
  ∀ j k, j < ty.length → k < ty.length → has j → has k → j ≠ k → ml j ≠ ml k ∧ (ma j = ma k → ma j = gZ g)
theorem REG_kp {g : GG} {h h' : Nat → Option va_E} {kl ka : Nat} {ty : List Nat} {ml ma : Nat → Nat} {mb : Nat → List Nat} {has has' : Nat → Prop} (hk : kp g h h') (hh : ∀ k, k < ty.length → has' k → has k) (hR : REG g h kl ka ty ml ma mb has) : REG g h' kl ka ty ml ma mb has' :=
  ⟨AL_kp hk hR.1, hR.2.1, fun k h1 h2 => ⟨AL_kp hk (hR.2.2.1 k h1 (hh k h1 h2)).1, (hR.2.2.1 k h1 (hh k h1 h2)).2⟩, fun j k h1 h2 h3 h4 h5 => hR.2.2.2 j k h1 h2 (hh j h1 h3) (hh k h2 h4) h5⟩
/-- a thing more -/
theorem REG_app {g : GG} {h h' : Nat → Option va_E} {kl ka ka' y : Nat} {ty : List Nat} {ml ma : Nat → Nat} {mb : Nat → List Nat} {has has' : Nat → Prop} (q : Nat) (hR : REG g h kl ka ty ml ma mb has) (hz0 : h (gZ g) = none) (hz : h' (gZ g) = none) (hy : y ∉ ty) (h3 : ka' = ka ∨ h ka' = none) (hA : AL g h' kl ka' (ty ++ [y])) (h4 : ∀ q, q ≠ kl → q ≠ ka' → h' q = h q)
    (hh : ∀ k, k < ty.length → has' k → has k) (hq : has' ty.length → AL g h q (gZ g) [] ∧ q ≠ kl ∧ ∀ k, k < ty.length → has k → q ≠ ml k) : REG g h' kl ka' (ty ++ [y]) (va_up ml ty.length q) (va_up ma ty.length (gZ g)) (va_up mb ty.length []) has' := by
  obtain ⟨r1, r2, r3, r4⟩ := hR
  refine ⟨hA, ?_, ?_, ?_⟩
  · rw [List.nodup_append]
    refine ⟨r2, by simp, ?_⟩
    intro a ha b hb e
    rw [List.mem_singleton] at hb
    subst hb
    subst e
    exact hy ha
  · intro k hk hhas
    rw [List.length_append, List.length_singleton] at hk
    by_cases c : k = ty.length
    · subst c
      rw [va_up_self, va_up_self, va_up_self]
      obtain ⟨q1, q2, q3⟩ := hq hhas
      exact ⟨AL_frame r1 q1 q2 (fun _ => rfl) h3 h4 hz0 hz, q2, fun _ => rfl⟩
    · rw [va_up_ne _ _ c, va_up_ne _ _ c, va_up_ne _ _ c]
      have hk' : k < ty.length := by omega
      obtain ⟨a1, a2, a3⟩ := r3 k hk' (hh k hk' hhas)
      refine ⟨AL_frame r1 a1 a2 a3 h3 h4 hz0 hz, a2, fun e => ?_⟩
      rcases h3 with z | z
      · exact a3 (e.trans z)
      · exact AL_none a1 (by rw [e]; exact z)
  · intro j k hj hk hhj hhk hjk
    rw [List.length_append, List.length_singleton] at hj hk
    by_cases c : j = ty.length
    · subst c
      have c2 : k ≠ ty.length := fun e => hjk e.symm
      rw [va_up_self, va_up_self, va_up_ne _ _ c2, va_up_ne _ _ c2]
      exact ⟨(hq hhj).2.2 k (by omega) (hh k (by omega) hhk), fun _ => rfl⟩
    · by_cases c2 : k = ty.length
      · subst c2
        rw [va_up_self, va_up_self, va_up_ne _ _ c, va_up_ne _ _ c]
        exact ⟨((hq hhk).2.2 j (by omega) (hh j (by omega) hhj)).symm, fun e => e⟩
      · rw [va_up_ne _ _ c, va_up_ne _ _ c, va_up_ne _ _ c2, va_up_ne _ _ c2]
        exact r4 j k (by omega) (by omega) (hh j (by omega) hhj) (hh k (by omega) hhk) hjk
/-- an item more in the list of one thing -/
theorem REG_item {g : GG} {h h' : Nat → Option va_E} {kl ka m' r : Nat} {ty : List Nat} {ml ma : Nat → Nat} {mb : Nat → List Nat} {has : Nat → Prop} {zs : List Nat} (hR : REG g h kl ka ty ml ma mb has) (hr : r < ty.length) (hhas : has r) (h3 : m' = ma r ∨ h m' = none) (hA : AL g h' (ml r) m' zs) (h4 : ∀ q, q ≠ ml r → q ≠ m' → h' q = h q) (hz0 : h (gZ g) = none) (hz : h' (gZ g) = none) : REG g h' kl ka ty ml (va_up ma r m') (va_up mb r zs) has := by
  obtain ⟨r1, r2, r3, r4⟩ := hR
  obtain ⟨a1, a2, a3⟩ := r3 r hr hhas
  refine ⟨AL_frame a1 r1 a2.symm (fun e => e.trans (a3 e.symm)) h3 h4 hz0 hz, r2, ?_, ?_⟩
  · intro k hk hh
    by_cases c : k = r
    · subst c
      rw [va_up_self, va_up_self]
      refine ⟨hA, a2, fun e => ?_⟩
      rcases h3 with z | z
      · exact z.trans (a3 (z.symm.trans e))
      · exact e.trans (AL_none r1 (by rw [← e]; exact z))
    · rw [va_up_ne _ _ c, va_up_ne _ _ c]
      obtain ⟨b1, b2, b3⟩ := r3 k hk hh
      exact ⟨AL_frame a1 b1 (r4 k r hk hr hh hhas c).1 (r4 k r hk hr hh hhas c).2 h3 h4 hz0 hz, b2, b3⟩
  · intro j k hj hk hhj hhk hjk
    by_cases c : j = r
    · subst c
      have c2 : k ≠ j := fun e => hjk e.symm
      rw [va_up_self, va_up_ne _ _ c2]
      refine ⟨(r4 j k hj hk hhj hhk hjk).1, fun e => ?_⟩
      rcases h3 with z | z
      · exact z.trans ((r4 j k hj hk hhj hhk hjk).2 (z.symm.trans e))
      · exact e.trans (AL_none (r3 k hk hhk).1 (by rw [← e]; exact z))
    · by_cases c2 : k = r
      · subst c2
        rw [va_up_self, va_up_ne _ _ c]
        refine ⟨(r4 j k hj hk hhj hhk hjk).1, fun e => ?_⟩
        rcases h3 with z | z
        · exact (r4 j k hj hk hhj hhk hjk).2 (e.trans z)
        · exact AL_none (r3 j hj hhj).1 (by rw [e]; exact z)
      · rw [va_up_ne _ _ c, va_up_ne _ _ c2]
        exact r4 j k hj hk hhj hhk hjk
/-! the desk's cells -/
def uOK (un : Bool) (u : Option (Nat × Nat)) (up fb : Int32) : Prop := (un = true ∧ fb = 0) ∨ (un = false ∧ u = none ∧ fb = 0) ∨ ∃ p k, un = false ∧ u = some (p, k) ∧ up = nI p ∧ fb = nI (32 - k)
def cX (h : Nat → Option va_E) (a : Nat) (T : TyS) (ml : Nat) (mb : List Nat) : Prop :=
  (tK T < 3 ∧ h a = some (oSi (nI (tSz T)) (nI (tAl T)) (nI (tK T)) (if tK T = 0 then -1 else nI (tTo T)) (nI (tLn T)))) ∨
  (3 ≤ tK T ∧ (∃ up fb : Int32, h a = some (oCo (nI (tSz T)) (nI (tAl T)) (if tK T = 4 then 1 else 0) ml (if tFi T = true then 0 else 1) (nI (ly T).1) up fb) ∧ uOK (tK T == 4) (ly T).2.2.1 up fb) ∧ mb.length = (ly T).2.2.2.length ∧ ∀ (j y : Nat) (m : Nat × Nat × Nat × Nat), mb[j]? = some y → (ly T).2.2.2[j]? = some m → h y = some (oMb (nI m.1) (nI m.2.1) (nI m.2.2.1) (nI m.2.2.2)))
theorem cX_keep {h h' : Nat → Option va_E} {a : Nat} {T : TyS} {ml : Nat} {mb : List Nat} (hc : cX h a T ml mb) (h1 : h' a = h a) (h2 : ∀ y pl t lo wi, h y = some (oMb pl t lo wi) → h' y = h y) : cX h' a T ml mb := by
  rcases hc with ⟨z1, z2⟩ | ⟨z1, ⟨up, fb, z2, z3⟩, z4, z5⟩
  · exact Or.inl ⟨z1, h1.trans z2⟩
  · exact Or.inr ⟨z1, ⟨up, fb, h1.trans z2, z3⟩, z4, fun j y m hj hm => (h2 y _ _ _ _ (z5 j y m hj hm)).trans (z5 j y m hj hm)⟩
theorem cX_ty {h : Nat → Option va_E} {a : Nat} {T : TyS} {ml : Nat} {mb : List Nat} (hc : cX h a T ml mb) : isTy h a := by
  rcases hc with ⟨z1, z2⟩ | ⟨z1, ⟨up, fb, z2, z3⟩, z4, z5⟩
  · exact Or.inr ⟨_, _, _, _, _, z2⟩
  · exact Or.inl ⟨_, _, _, _, _, _, _, _, z2⟩
def recd (S : List TyS) (k : Nat) : Prop := ∃ T, S[k]? = some T ∧ 3 ≤ tK T
def DR0 (g : GG) (h : Nat → Option va_E) (x : Nat) (S : List TyS) (kl ka : Nat) (ty : List Nat) (ml ma : Nat → Nat) (mb : Nat → List Nat) : Prop :=
  h x = some (oDk kl) ∧ h (gZ g) = none ∧ REG g h kl ka ty ml ma mb (recd S) ∧ ty.length = S.length ∧ ∀ k T a, S[k]? = some T → ty[k]? = some a → cX h a T (ml k) (mb k)
def DR (g : GG) (h : Nat → Option va_E) (x : Nat) (S : List TyS) : Prop := ∃ (kl ka : Nat) (ty : List Nat) (ml ma : Nat → Nat) (mb : Nat → List Nat), DR0 g h x S kl ka ty ml ma mb
theorem DR_ext {g : GG} {h h' : Nat → Option va_E} {x : Nat} {S : List TyS} {kl ka : Nat} {ty : List Nat} {ml ma : Nat → Nat} {mb : Nat → List Nat} (hR : DR0 g h x S kl ka ty ml ma mb) (he : ext h h') (hz : h' (gZ g) = none) : DR0 g h' x S kl ka ty ml ma mb := by
  obtain ⟨r1, r2, r3, r4, r5⟩ := hR
  refine ⟨he _ _ r1, hz, REG_kp (kp_ext he hz) (fun _ _ z => z) r3, r4, fun k T a h1 h2 => ?_⟩
  have hc := r5 k T a h1 h2
  refine cX_keep hc ?_ (fun y pl t lo wi hy => (he _ _ hy).trans hy.symm)
  rcases cX_ty hc with ⟨b0, b1, b2, b3, b4, b5, b6, b7, z⟩ | ⟨b0, b1, b2, b3, b4, z⟩
  · exact (he _ _ z).trans z.symm
  · exact (he _ _ z).trans z.symm
/-- every type's cell is one -/
theorem DR_ty {g : GG} {h : Nat → Option va_E} {x : Nat} {S : List TyS} {kl ka : Nat} {ty : List Nat} {ml ma : Nat → Nat} {mb : Nat → List Nat} (hR : DR0 g h x S kl ka ty ml ma mb) : ∀ a ∈ ty, isTy h a := by
  intro a ha
  obtain ⟨k, hk⟩ := List.mem_iff_getElem?.mp ha
  have hl := (List.getElem?_eq_some_iff.mp hk).1
  obtain ⟨r1, r2, r3, r4, r5⟩ := hR
  have hs : S[k]? = some S[k] := List.getElem?_eq_getElem (by omega)
  exact cX_ty (r5 k _ a hs hk)
theorem DR_lk {g : GG} {h : Nat → Option va_E} {x : Nat} {S : List TyS} {kl ka : Nat} {ty : List Nat} {ml ma : Nat → Nat} {mb : Nat → List Nat} (hR : DR0 g h x S kl ka ty ml ma mb) {t : Int32} {T : TyS} (ht : lk S t = some T) : ∃ a, lk ty t = some a ∧ ty[t.toNatClampNeg]? = some a ∧ S[t.toNatClampNeg]? = some T ∧ cX h a T (ml t.toNatClampNeg) (mb t.toNatClampNeg) := by
  obtain ⟨h0, h1⟩ := lk_ofS ht
  have hl := (List.getElem?_eq_some_iff.mp h1).1
  obtain ⟨r1, r2, r3, r4, r5⟩ := hR
  have hk : ty[t.toNatClampNeg]? = some (ty[t.toNatClampNeg]'(by omega)) := List.getElem?_eq_getElem (by omega)
  refine ⟨_, ?_, hk, h1, r5 _ T _ h1 hk⟩
  unfold lk
  rw [if_neg h0]
  exact hk
theorem DR_lkN {g : GG} {h : Nat → Option va_E} {x : Nat} {S : List TyS} {kl ka : Nat} {ty : List Nat} {ml ma : Nat → Nat} {mb : Nat → List Nat} (hR : DR0 g h x S kl ka ty ml ma mb) {t : Int32} (ht : lk S t = none) : lk ty t = none := by
  unfold lk at ht ⊢
  by_cases c : t < 0
  · rw [if_pos c]
  · rw [if_neg c] at ht ⊢
    rw [List.getElem?_eq_none_iff] at ht ⊢
    rw [hR.2.2.2.1]
    exact ht
/-- a type more: it stands at y, its list at q -/
theorem DR_app {g : GG} {h h' : Nat → Option va_E} {x : Nat} {S : List TyS} {kl ka ka' y : Nat} {ty : List Nat} {ml ma : Nat → Nat} {mb : Nat → List Nat} {T : TyS} (q : Nat) (hR : DR0 g h x S kl ka ty ml ma mb) (hz : h' (gZ g) = none) (hy : y ∉ ty) (hc : cX h y T q []) (hq : 3 ≤ tK T → AL g h q (gZ g) [] ∧ q ≠ kl ∧ ∀ k, k < ty.length → recd S k → q ≠ ml k)
    (h3 : ka' = ka ∨ h ka' = none) (hA : AL g h' kl ka' (ty ++ [y])) (h4 : ∀ q, q ≠ kl → q ≠ ka' → h' q = h q) : DR0 g h' x (S ++ [T]) kl ka' (ty ++ [y]) (va_up ml S.length q) (va_up ma S.length (gZ g)) (va_up mb S.length []) := by
  obtain ⟨r1, r2, r3, r4, r5⟩ := hR
  obtain ⟨⟨mc, k0⟩, -, -⟩ := id r3.1
  have hr : h ka' = none ∨ ∃ z, h ka' = some (.inl z) := by
    rcases h3 with h3 | h3
    · subst h3; exact AL_arr r3.1
    · exact Or.inl h3
  have keep : ∀ z ci fs, h z = some (.inr (ci, fs)) → ci ≠ 0 → h' z = h z := fun z ci fs hz0 hci => h4 z (ne_e hz0 k0 (ne_c hci)) (hr.elim (fun w => ne_n hz0 w) (fun w => ne_e hz0 w.choose_spec ne_rl))
  have keepT : ∀ a, isTy h a → h' a = h a := by
    intro a ha
    rcases ha with ⟨b0, b1, b2, b3, b4, b5, b6, b7, z⟩ | ⟨b0, b1, b2, b3, b4, z⟩
    · exact keep a _ _ z (by decide)
    · exact keep a _ _ z (by decide)
  refine ⟨(keep x _ _ r1 (by decide)).trans r1, hz, ?_, by rw [List.length_append, List.length_append, r4]; rfl, ?_⟩
  · rw [← r4]
    refine REG_app q r3 r2 hz hy h3 hA h4 ?_ ?_
    · rintro k hk ⟨T', hT, hT3⟩
      rw [List.getElem?_append_left (by omega)] at hT
      exact ⟨T', hT, hT3⟩
    · rintro ⟨T', hT, hT3⟩
      rw [r4, List.getElem?_append_right (Nat.le_refl _), Nat.sub_self] at hT
      cases hT
      exact hq hT3
  · intro k T' a h1 h2
    by_cases c : k < S.length
    · rw [List.getElem?_append_left c] at h1
      rw [List.getElem?_append_left (by omega)] at h2
      rw [va_up_ne _ _ (by omega), va_up_ne _ _ (by omega)]
      have hcx := r5 k T' a h1 h2
      exact cX_keep hcx (keepT a (cX_ty hcx)) (fun y pl t lo wi hy => keep y _ _ hy (by decide))
    · rw [List.getElem?_append_right (by omega)] at h1
      rw [List.getElem?_append_right (by omega)] at h2
      have e1 : k = S.length := by
        have := (List.getElem?_eq_some_iff.mp h1).1
        simp at this
        omega
      subst e1
      rw [Nat.sub_self] at h1
      rw [r4, Nat.sub_self] at h2
      cases h1
      cases h2
      rw [va_up_self, va_up_self]
      exact cX_keep hc (keepT y (cX_ty hc)) (fun y pl t lo wi hy => keep y _ _ hy (by decide))
/-- a record's cell is written -/
theorem DR_set {g : GG} {h h' : Nat → Option va_E} {x : Nat} {S : List TyS} {kl ka : Nat} {ty : List Nat} {ml ma : Nat → Nat} {mb : Nat → List Nat} {r a : Nat} {T T' : TyS} {fs gs : List Value} (hR : DR0 g h x S kl ka ty ml ma mb) (hz : h' (gZ g) = none) (hS : S[r]? = some T) (ha : ty[r]? = some a) (hT : 3 ≤ tK T) (h1 : h a = some (.inr (1, fs))) (h2 : h' a = some (.inr (1, gs))) (hf : ∀ q, q ≠ a → h' q = h q) (hc : cX h' a T' (ml r) (mb r)) : DR0 g h' x (S.set r T') kl ka ty ml ma mb := by
  obtain ⟨r1, r2, r3, r4, r5⟩ := hR
  have hrl : r < S.length := (List.getElem?_eq_some_iff.mp hS).1
  refine ⟨(hf x (ne_e r1 h1 (ne_c (by decide)))).trans r1, hz, REG_kp (kp_obj h1 (by decide) h2 (by decide) (by decide) hf hz) ?_ r3, by rw [List.length_set]; exact r4, ?_⟩
  · rintro k hk ⟨T2, e1, e2⟩
    by_cases c : r = k
    · subst c
      exact ⟨T, hS, hT⟩
    · rw [List.getElem?_set_ne c] at e1
      exact ⟨T2, e1, e2⟩
  · intro k T2 b e1 e2
    by_cases c : r = k
    · subst c
      rw [List.getElem?_set_self hrl] at e1
      cases e1
      rw [ha] at e2
      cases e2
      exact hc
    · rw [List.getElem?_set_ne c] at e1
      have hne : b ≠ a := fun e => by
        subst e
        exact c ((List.getElem?_inj (by omega) r3.2.1).mp (ha.trans e2.symm))
      exact cX_keep (r5 k T2 b e1 e2) (hf b hne) (fun y pl t lo wi hy => hf y (ne_e hy h1 (ne_c (by decide))))
/-- a record's cell is written, and it has a member more -/
theorem DR_add {g : GG} {h h' : Nat → Option va_E} {x : Nat} {S : List TyS} {kl ka : Nat} {ty : List Nat} {ml ma : Nat → Nat} {mb : Nat → List Nat} {r a y m' : Nat} {T T' : TyS} {fs gs : List Value} (hR : DR0 g h x S kl ka ty ml ma mb) (hz : h' (gZ g) = none) (hS : S[r]? = some T) (ha : ty[r]? = some a) (hT : 3 ≤ tK T) (h1 : h a = some (.inr (1, fs))) (h2 : h' a = some (.inr (1, gs))) (hy : h y = none) (hy' : isE h' y) (h3 : m' = ma r ∨ h m' = none) (hA : AL g h' (ml r) m' (mb r ++ [y])) (hf : ∀ q, q ≠ a → q ≠ y → q ≠ ml r → q ≠ m' → h' q = h q) (hc : cX h' a T' (ml r) (mb r ++ [y])) : DR0 g h' x (S.set r T') kl ka ty ml (va_up ma r m') (va_up mb r (mb r ++ [y])) := by
  obtain ⟨r1, r2, r3, r4, r5⟩ := hR
  have hrl : r < S.length := (List.getElem?_eq_some_iff.mp hS).1
  obtain ⟨cy, ys, y1, y2, y3⟩ := hy'
  have hrec : recd S r := ⟨T, hS, hT⟩
  obtain ⟨m1, m2, m3⟩ := r3.2.2.1 r (by omega) hrec
  obtain ⟨⟨mc, k0⟩, -, -⟩ := id m1
  have hr : h m' = none ∨ ∃ z, h m' = some (.inl z) := by
    rcases h3 with h3 | h3
    · rw [h3]; exact AL_arr m1
    · exact Or.inl h3
  have nya : y ≠ a := (ne_n h1 hy).symm
  have nyz : y ≠ gZ g := ne_n y1 hz
  have naz : a ≠ gZ g := ne_n h1 r2
  have nym : y ≠ m' := (AL_arr hA).elim (fun z => ne_n y1 z) (fun z => ne_e y1 z.choose_spec ne_rl)
  have nam : a ≠ m' := (AL_arr hA).elim (fun z => ne_n h2 z) (fun z => ne_e h2 z.choose_spec ne_rl)
  have keep : ∀ z ci gs, h z = some (.inr (ci, gs)) → ci ≠ 0 → z ≠ a → h' z = h z := fun z ci gs hz0 hci hza => hf z hza (ne_n hz0 hy) (ne_e hz0 k0 (ne_c hci)) (hr.elim (fun w => ne_n hz0 w) (fun w => ne_e hz0 w.choose_spec ne_rl))
  have hya : wu h a (.inr (1, gs)) y = none := (wu_n nya).trans hy
  have kp1 : kp g h (wu h a (.inr (1, gs))) := kp_obj h1 (by decide) (wu_s _ _ _) (by decide) (by decide) (fun q hq => wu_n hq) ((wu_n naz.symm).trans r2)
  have hz1 : wu (wu h a (.inr (1, gs))) y (.inr (cy, ys)) (gZ g) = none := (wu_n nyz.symm).trans ((wu_n naz.symm).trans r2)
  have kp2 : kp g (wu h a (.inr (1, gs))) (wu (wu h a (.inr (1, gs))) y (.inr (cy, ys))) := kp_ext (ext_new hya) hz1
  have hR1 : REG g (wu (wu h a (.inr (1, gs))) y (.inr (cy, ys))) kl ka ty ml ma mb (recd (S.set r T')) := by
    refine REG_kp kp2 (fun _ _ z => z) (REG_kp kp1 ?_ r3)
    rintro k hk ⟨T2, e1, e2⟩
    by_cases c : r = k
    · subst c
      exact hrec
    · rw [List.getElem?_set_ne c] at e1
      exact ⟨T2, e1, e2⟩
  have hfr : ∀ q, q ≠ ml r → q ≠ m' → h' q = wu (wu h a (.inr (1, gs))) y (.inr (cy, ys)) q := by
    intro q e1 e2
    by_cases c1 : q = y
    · subst c1
      rw [wu_s]
      exact y1
    · rw [wu_n c1]
      by_cases c2 : q = a
      · subst c2
        rw [wu_s]
        exact h2
      · rw [wu_n c2]
        exact hf q c2 c1 e1 e2
  have h3' : m' = ma r ∨ wu (wu h a (.inr (1, gs))) y (.inr (cy, ys)) m' = none := by
    rcases h3 with h3 | h3
    · exact Or.inl h3
    · exact Or.inr ((wu_n nym.symm).trans ((wu_n nam.symm).trans h3))
  have hTT : 3 ≤ tK T' := by
    rcases hc with ⟨z1, z2⟩ | ⟨z1, -⟩
    · rw [h2] at z2
      cases z2
    · exact z1
  refine ⟨(keep x _ _ r1 (by decide) (ne_e r1 h1 (ne_c (by decide)))).trans r1, hz, REG_item hR1 (by omega) ⟨T', List.getElem?_set_self hrl, hTT⟩ h3' hA hfr hz1 hz, by rw [List.length_set]; exact r4, ?_⟩
  intro k T2 b e1 e2
  by_cases c : r = k
  · subst c
    rw [List.getElem?_set_self hrl] at e1
    cases e1
    rw [ha] at e2
    cases e2
    rw [va_up_self]
    exact hc
  · rw [List.getElem?_set_ne c] at e1
    have hne : b ≠ a := fun e => by
      subst e
      exact c ((List.getElem?_inj (by omega) r3.2.1).mp (ha.trans e2.symm))
    have hcb := r5 k T2 b e1 e2
    rw [va_up_ne _ _ (fun e => c e.symm)]
    refine cX_keep hcb ?_ (fun y pl t lo wi hy => keep y _ _ hy (by decide) (ne_e hy h1 (ne_c (by decide))))
    rcases cX_ty hcb with ⟨b0, b1, b2, b3, b4, b5, b6, b7, z⟩ | ⟨b0, b1, b2, b3, b4, z⟩
    · exact keep b _ _ z (by decide) hne
    · exact keep b _ _ z (by decide) hne
