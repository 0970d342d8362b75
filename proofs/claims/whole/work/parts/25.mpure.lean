/-! the model's cells -/
def adT (d : AdS) : Int32 := match d.1 with
  | none => -1
  | some t => nI t
def mAl (T : TyS) : Int32 := if 3 ≤ tK T ∧ tFi T = false then 0 else nI (tAl T)
def cM (h : Nat → Option va_E) (a : Nat) (T : TyS) (al : Nat) (ab : List Nat) : Prop :=
  h a = some (oTy (nI (tK T)) (nI (tTo T)) (nI (tLn T)) (nI (tSz T)) (mAl T) al (if tFi T = true then 1 else 0)) ∧ ab.length = (tAd T).length ∧ ∀ (j y : Nat) (d : AdS), ab[j]? = some y → (tAd T)[j]? = some d → h y = some (oAd (adT d) (nI d.2.1) (if d.2.2.1 = true then 1 else 0))
theorem cM_keep {h h' : Nat → Option va_E} {a : Nat} {T : TyS} {al : Nat} {ab : List Nat} (hc : cM h a T al ab) (h1 : ∀ y ci fs, h y = some (.inr (ci, fs)) → (ci = 5 ∨ ci = 6) → h' y = h y) : cM h' a T al ab :=
  ⟨(h1 a _ _ hc.1 (Or.inr rfl)).trans hc.1, hc.2.1, fun j y d hj hd => (h1 y _ _ (hc.2.2 j y d hj hd) (Or.inl rfl)).trans (hc.2.2 j y d hj hd)⟩
/-- lists and arrays of references stay, objects stay objects -/
def kq (g : GG) (h h' : Nat → Option va_E) : Prop := (∀ q n f, h q = some (arO g n f) → h' q = some (arO g n f)) ∧ (∀ q fs, h q = some (.inr (0, fs)) → h' q = some (.inr (0, fs))) ∧ (∀ q, isE h q → isE h' q) ∧ h' (gZ g) = none
theorem AL_kq {g : GG} {h h' : Nat → Option va_E} {a arr : Nat} {xs : List Nat} (hk : kq g h h') (hL : AL g h a arr xs) : AL g h' a arr xs := by
  obtain ⟨⟨mc, h1⟩, h2, h3⟩ := hL
  refine ⟨⟨mc, hk.2.1 _ _ h1⟩, fun x hx => hk.2.2.1 x (h2 x hx), ?_⟩
  rcases h3 with ⟨cap, f, z1, z2⟩ | ⟨z1, z2, z3⟩
  · exact Or.inl ⟨cap, f, hk.1 _ _ _ z1, z2⟩
  · exact Or.inr ⟨z1, hk.2.2.2, z3⟩
theorem REG_kq {g : GG} {h h' : Nat → Option va_E} {kl ka : Nat} {ty : List Nat} {ml ma : Nat → Nat} {mb : Nat → List Nat} {has : Nat → Prop} (hk : kq g h h') (hR : REG g h kl ka ty ml ma mb has) : REG g h' kl ka ty ml ma mb has :=
  ⟨AL_kq hk hR.1, hR.2.1, fun k h1 h2 => ⟨AL_kq hk (hR.2.2.1 k h1 h2).1, (hR.2.2.1 k h1 h2).2⟩, hR.2.2.2⟩
abbrev P4 : Type := Nat × Nat × Nat × Nat
def apart4 (P : P4) : Prop := P.1 ≠ P.2.1 ∧ P.1 ≠ P.2.2.1 ∧ P.1 ≠ P.2.2.2 ∧ P.2.1 ≠ P.2.2.1 ∧ P.2.1 ≠ P.2.2.2 ∧ P.2.2.1 ≠ P.2.2.2
def scr (g : GG) (h : Nat → Option va_E) (P : P4) : Prop := ∃ f0 f1 f2 f3 : Nat → Int32, h P.1 = some (arI g 100 f0) ∧ h P.2.1 = some (arI g 100 f1) ∧ h P.2.2.1 = some (arI g 100 f2) ∧ h P.2.2.2 = some (arI g 100 f3)
def MR0 (g : GG) (h : Nat → Option va_E) (m : Nat) (S : List TyS) (tl ta : Nat) (ty : List Nat) (al aa : Nat → Nat) (ab : Nat → List Nat) (P : P4) : Prop :=
  (∃ mem rea ali : Int32, h m = some (oMo tl P.1 P.2.1 P.2.2.1 P.2.2.2 mem rea ali)) ∧ scr g h P ∧ apart4 P ∧ h (gZ g) = none ∧ REG g h tl ta ty al aa ab (fun _ => True) ∧ ty.length = S.length ∧ ∀ k T a, S[k]? = some T → ty[k]? = some a → cM h a T (al k) (ab k)
def MR (g : GG) (h : Nat → Option va_E) (m : Nat) (S : List TyS) : Prop := ∃ (tl ta : Nat) (ty : List Nat) (al aa : Nat → Nat) (ab : Nat → List Nat) (P : P4), MR0 g h m S tl ta ty al aa ab P
def sf (m : Nat) (P : P4) (h h' : Nat → Option va_E) : Prop := ∀ q, q ≠ m → q ≠ P.1 → q ≠ P.2.1 → q ≠ P.2.2.1 → q ≠ P.2.2.2 → h' q = h q
section MRS
variable {g : GG} {h h' : Nat → Option va_E} {m : Nat} {S : List TyS} {tl ta : Nat} {ty : List Nat} {al aa : Nat → Nat} {ab : Nat → List Nat} {P : P4}
theorem scr_obj (hs : scr g h P) {q ci : Nat} {fs : List Value} (hq : h q = some (.inr (ci, fs))) : q ≠ P.1 ∧ q ≠ P.2.1 ∧ q ≠ P.2.2.1 ∧ q ≠ P.2.2.2 := by
  obtain ⟨f0, f1, f2, f3, e0, e1, e2, e3⟩ := hs
  exact ⟨ne_e hq e0 ne_rl, ne_e hq e1 ne_rl, ne_e hq e2 ne_rl, ne_e hq e3 ne_rl⟩
theorem arOI {n k : Nat} {f : Nat → Option Nat} {f' : Nat → Int32} : arO g n f ≠ arI g k f' := fun z => by
  have := Sum.inl.inj z
  simp at this
theorem scr_arr (hs : scr g h P) {q n : Nat} {f : Nat → Option Nat} (hq : h q = some (arO g n f)) : q ≠ P.1 ∧ q ≠ P.2.1 ∧ q ≠ P.2.2.1 ∧ q ≠ P.2.2.2 := by
  obtain ⟨f0, f1, f2, f3, e0, e1, e2, e3⟩ := hs
  exact ⟨ne_e hq e0 arOI, ne_e hq e1 arOI, ne_e hq e2 arOI, ne_e hq e3 arOI⟩
theorem sf_obj (hm : ∃ mem rea ali : Int32, h m = some (oMo tl P.1 P.2.1 P.2.2.1 P.2.2.2 mem rea ali)) (hs : scr g h P) (hf : sf m P h h') {q ci : Nat} {fs : List Value} (hq : h q = some (.inr (ci, fs))) (hc : ci ≠ 7) : h' q = h q := by
  obtain ⟨a1, a2, a3, hm⟩ := hm
  obtain ⟨z1, z2, z3, z4⟩ := scr_obj hs hq
  exact hf q (ne_e hq hm (ne_c hc)) z1 z2 z3 z4
theorem kq_sf (hm : ∃ mem rea ali : Int32, h m = some (oMo tl P.1 P.2.1 P.2.2.1 P.2.2.2 mem rea ali)) (hs : scr g h P) (hf : sf m P h h') (hm' : ∃ mem rea ali : Int32, h' m = some (oMo tl P.1 P.2.1 P.2.2.1 P.2.2.2 mem rea ali)) (hz : h' (gZ g) = none) : kq g h h' := by
  refine ⟨fun q n f hq => ?_, fun q fs hq => (sf_obj hm hs hf hq (by decide)).trans hq, fun q hE => ?_, hz⟩
  · obtain ⟨a1, a2, a3, hm⟩ := hm
    obtain ⟨z1, z2, z3, z4⟩ := scr_arr hs hq
    exact (hf q (ne_e hq hm ne_lr) z1 z2 z3 z4).trans hq
  · obtain ⟨ci, fs, e1, e2, e3⟩ := hE
    by_cases c : q = m
    · subst c
      obtain ⟨b1, b2, b3, hm'⟩ := hm'
      exact ⟨7, _, hm', by decide, by decide⟩
    · obtain ⟨z1, z2, z3, z4⟩ := scr_obj hs e1
      exact ⟨ci, fs, (hf q c z1 z2 z3 z4).trans e1, e2, e3⟩
/-- the scratch changes, nothing else -/
theorem MR_scr (hR : MR0 g h m S tl ta ty al aa ab P) (hm' : ∃ mem rea ali : Int32, h' m = some (oMo tl P.1 P.2.1 P.2.2.1 P.2.2.2 mem rea ali)) (hs' : scr g h' P) (hf : sf m P h h') (hz : h' (gZ g) = none) : MR0 g h' m S tl ta ty al aa ab P := by
  obtain ⟨r1, r2, r3, r4, r5, r6, r7⟩ := hR
  refine ⟨hm', hs', r3, hz, REG_kq (kq_sf r1 r2 hf hm' hz) r5, r6, fun k T a h1 h2 => ?_⟩
  exact cM_keep (r7 k T a h1 h2) (fun y ci fs hy hc => sf_obj r1 r2 hf hy (by rcases hc with z | z <;> omega))
theorem MR_ext (hR : MR0 g h m S tl ta ty al aa ab P) (he : ext h h') (hz : h' (gZ g) = none) : MR0 g h' m S tl ta ty al aa ab P := by
  obtain ⟨⟨b1, b2, b3, r1⟩, ⟨f0, f1, f2, f3, e0, e1, e2, e3⟩, r3, r4, r5, r6, r7⟩ := hR
  exact ⟨⟨b1, b2, b3, he _ _ r1⟩, ⟨f0, f1, f2, f3, he _ _ e0, he _ _ e1, he _ _ e2, he _ _ e3⟩, r3, hz, REG_kp (kp_ext he hz) (fun _ _ z => z) r5, r6, fun k T a h1 h2 => cM_keep (r7 k T a h1 h2) (fun y ci fs hy _ => (he _ _ hy).trans hy.symm)⟩
theorem MR_lk (hR : MR0 g h m S tl ta ty al aa ab P) {t : Int32} {T : TyS} (ht : lk S t = some T) : ∃ a, lk ty t = some a ∧ ty[t.toNatClampNeg]? = some a ∧ S[t.toNatClampNeg]? = some T ∧ cM h a T (al t.toNatClampNeg) (ab t.toNatClampNeg) := by
  obtain ⟨h0, h1⟩ := lk_ofS ht
  have hl := (List.getElem?_eq_some_iff.mp h1).1
  obtain ⟨r1, r2, r3, r4, r5, r6, r7⟩ := hR
  have hk : ty[t.toNatClampNeg]? = some (ty[t.toNatClampNeg]'(by omega)) := List.getElem?_eq_getElem (by omega)
  refine ⟨_, ?_, hk, h1, r7 _ T _ h1 hk⟩
  unfold lk
  rw [if_neg h0]
  exact hk
theorem MR_lkN (hR : MR0 g h m S tl ta ty al aa ab P) {t : Int32} (ht : lk S t = none) : lk ty t = none := by
  unfold lk at ht ⊢
  by_cases c : t < 0
  · rw [if_pos c]
  · rw [if_neg c] at ht ⊢
    rw [List.getElem?_eq_none_iff] at ht ⊢
    rw [hR.2.2.2.2.2.1]
    exact ht
/-- every type's cell -/
def isTM (h : Nat → Option va_E) (a : Nat) : Prop := ∃ (ki to_ le si al : Int32) (ad : Nat) (fi : Int32), h a = some (oTy ki to_ le si al ad fi)
theorem MR_ty (hR : MR0 g h m S tl ta ty al aa ab P) : ∀ a ∈ ty, isTM h a := by
  intro a ha
  obtain ⟨k, hk⟩ := List.mem_iff_getElem?.mp ha
  have hl := (List.getElem?_eq_some_iff.mp hk).1
  obtain ⟨r1, r2, r3, r4, r5, r6, r7⟩ := hR
  have hs : S[k]? = some (S[k]'(by omega)) := List.getElem?_eq_getElem (by omega)
  exact ⟨_, _, _, _, _, _, _, (r7 k _ a hs hk).1⟩
/-- behind an add to a list that stands at kl: the other cells -/
theorem add_keep {kl ka ka' : Nat} {xs : List Nat} (hL : AL g h kl ka xs) (h3 : ka' = ka ∨ h ka' = none) (h4 : ∀ q, q ≠ kl → q ≠ ka' → h' q = h q) {q ci : Nat} {fs : List Value} (hq : h q = some (.inr (ci, fs))) (hc : ci ≠ 0) : h' q = h q := by
  obtain ⟨⟨mc, k0⟩, -, -⟩ := id hL
  have hr : h ka' = none ∨ ∃ z, h ka' = some (.inl z) := by
    rcases h3 with h3 | h3
    · subst h3; exact AL_arr hL
    · exact Or.inl h3
  exact h4 q (ne_e hq k0 (ne_c hc)) (hr.elim (fun w => ne_n hq w) (fun w => ne_e hq w.choose_spec ne_rl))
theorem add_keepI {kl ka ka' : Nat} {xs : List Nat} (hL : AL g h kl ka xs) (hz0 : h (gZ g) = none) (h3 : ka' = ka ∨ h ka' = none) (h4 : ∀ q, q ≠ kl → q ≠ ka' → h' q = h q) {q n : Nat} {f : Nat → Int32} (hq : h q = some (arI g n f)) : h' q = h q := by
  obtain ⟨⟨mc, k0⟩, -, -⟩ := id hL
  refine h4 q (ne_e hq k0 ne_lr) ?_
  rcases h3 with h3 | h3
  · subst h3
    obtain ⟨-, -, h5⟩ := hL
    rcases h5 with ⟨cap, f', e, -⟩ | ⟨e, e2, -⟩
    · exact ne_e hq e (fun z => arOI z.symm)
    · intro z
      rw [z, e, hz0] at hq
      cases hq
  · exact ne_n hq h3
theorem scr_add {kl ka ka' : Nat} {xs : List Nat} (hL : AL g h kl ka xs) (hz0 : h (gZ g) = none) (h3 : ka' = ka ∨ h ka' = none) (h4 : ∀ q, q ≠ kl → q ≠ ka' → h' q = h q) (hs : scr g h P) : scr g h' P := by
  obtain ⟨f0, f1, f2, f3, e0, e1, e2, e3⟩ := hs
  exact ⟨f0, f1, f2, f3, (add_keepI hL hz0 h3 h4 e0).trans e0, (add_keepI hL hz0 h3 h4 e1).trans e1, (add_keepI hL hz0 h3 h4 e2).trans e2, (add_keepI hL hz0 h3 h4 e3).trans e3⟩
theorem MR_app {ta' y : Nat} {T : TyS} (q : Nat) (hR : MR0 g h m S tl ta ty al aa ab P) (hz : h' (gZ g) = none) (hy : y ∉ ty) (hc : cM h y T q []) (hq : AL g h q (gZ g) [] ∧ q ≠ tl ∧ ∀ k, k < ty.length → q ≠ al k) (h3 : ta' = ta ∨ h ta' = none) (hA : AL g h' tl ta' (ty ++ [y])) (h4 : ∀ q, q ≠ tl → q ≠ ta' → h' q = h q) : MR0 g h' m (S ++ [T]) tl ta' (ty ++ [y]) (va_up al S.length q) (va_up aa S.length (gZ g)) (va_up ab S.length []) P := by
  obtain ⟨⟨b1, b2, b3, r1⟩, r2, r3, r4, r5, r6, r7⟩ := hR
  have keep : ∀ z ci fs, h z = some (.inr (ci, fs)) → ci ≠ 0 → h' z = h z := fun z ci fs e1 e2 => add_keep r5.1 h3 h4 e1 e2
  refine ⟨⟨b1, b2, b3, (keep m _ _ r1 (by decide)).trans r1⟩, scr_add r5.1 r4 h3 h4 r2, r3, hz, ?_, by rw [List.length_append, List.length_append, r6]; rfl, ?_⟩
  · rw [← r6]
    exact REG_app q r5 r4 hz hy h3 hA h4 (fun _ _ z => z) (fun _ => ⟨hq.1, hq.2.1, fun k hk _ => hq.2.2 k hk⟩)
  · intro k T' a h1 h2
    by_cases c : k < S.length
    · rw [List.getElem?_append_left c] at h1
      rw [List.getElem?_append_left (by omega)] at h2
      rw [va_up_ne _ _ (by omega), va_up_ne _ _ (by omega)]
      exact cM_keep (r7 k T' a h1 h2) (fun y ci fs hy hci => keep y ci fs hy (by rcases hci with z | z <;> omega))
    · rw [List.getElem?_append_right (by omega)] at h1
      rw [List.getElem?_append_right (by omega)] at h2
      have e1 : k = S.length := by
        have := (List.getElem?_eq_some_iff.mp h1).1
        simp at this
        omega
      subst e1
      rw [Nat.sub_self] at h1
      rw [r6, Nat.sub_self] at h2
      cases h1
      cases h2
      rw [va_up_self, va_up_self]
      exact cM_keep hc (fun y ci fs hy hci => keep y ci fs hy (by rcases hci with z | z <;> omega))
/-- the list of what was added to one record changes -/
theorem MR_list {m' r a : Nat} {T T' : TyS} {zs : List Nat} (hR : MR0 g h m S tl ta ty al aa ab P) (hz : h' (gZ g) = none) (hS : S[r]? = some T) (ha : ty[r]? = some a) (h3 : m' = aa r ∨ h m' = none) (hA : AL g h' (al r) m' zs) (h4 : ∀ q, q ≠ al r → q ≠ m' → h' q = h q) (hc : cM h' a T' (al r) zs) : MR0 g h' m (S.set r T') tl ta ty al (va_up aa r m') (va_up ab r zs) P := by
  obtain ⟨⟨b1, b2, b3, r1⟩, r2, r3, r4, r5, r6, r7⟩ := hR
  have hrl : r < S.length := (List.getElem?_eq_some_iff.mp hS).1
  have hL := (r5.2.2.1 r (by omega) trivial).1
  have keep : ∀ z ci fs, h z = some (.inr (ci, fs)) → ci ≠ 0 → h' z = h z := fun z ci fs e1 e2 => add_keep hL h3 h4 e1 e2
  refine ⟨⟨b1, b2, b3, (keep m _ _ r1 (by decide)).trans r1⟩, scr_add hL r4 h3 h4 r2, r3, hz, REG_item r5 (by omega) trivial h3 hA h4 r4 hz, by rw [List.length_set]; exact r6, ?_⟩
  intro k T2 b e1 e2
  by_cases c : r = k
  · subst c
    rw [List.getElem?_set_self hrl] at e1
    cases e1
    rw [ha] at e2
    cases e2
    rw [va_up_self]
    exact hc
  · rw [List.getElem?_set_ne c] at e1
    rw [va_up_ne _ _ (fun e => c e.symm)]
    exact cM_keep (r7 k T2 b e1 e2) (fun y ci fs hy hci => keep y ci fs hy (by rcases hci with z | z <;> omega))
/-- a record's cell is written -/
theorem MR_set {r a : Nat} {T T' : TyS} {fs gs : List Value} (hR : MR0 g h m S tl ta ty al aa ab P) (hz : h' (gZ g) = none) (hS : S[r]? = some T) (ha : ty[r]? = some a) (h1 : h a = some (.inr (6, fs))) (h2 : h' a = some (.inr (6, gs))) (hf : ∀ q, q ≠ a → h' q = h q) (hc : cM h' a T' (al r) (ab r)) : MR0 g h' m (S.set r T') tl ta ty al aa ab P := by
  obtain ⟨⟨b1, b2, b3, r1⟩, ⟨f0, f1, f2, f3, e0, e1, e2, e3⟩, r3, r4, r5, r6, r7⟩ := hR
  have hrl : r < S.length := (List.getElem?_eq_some_iff.mp hS).1
  refine ⟨⟨b1, b2, b3, (hf m (ne_e r1 h1 (ne_c (by decide)))).trans r1⟩, ⟨f0, f1, f2, f3, (hf _ (ne_e e0 h1 ne_lr)).trans e0, (hf _ (ne_e e1 h1 ne_lr)).trans e1, (hf _ (ne_e e2 h1 ne_lr)).trans e2, (hf _ (ne_e e3 h1 ne_lr)).trans e3⟩, r3, hz, REG_kp (kp_obj h1 (by decide) h2 (by decide) (by decide) hf hz) (fun _ _ z => z) r5, by rw [List.length_set]; exact r6, ?_⟩
  intro k T2 b e1 e2
  by_cases c : r = k
  · subst c
    rw [List.getElem?_set_self hrl] at e1
    cases e1
    rw [ha] at e2
    cases e2
    exact hc
  · rw [List.getElem?_set_ne c] at e1
    have hne : b ≠ a := fun e => by
      subst e
      exact c ((List.getElem?_inj (by omega) r5.2.1).mp (ha.trans e2.symm))
    obtain ⟨z1, z2, z3⟩ := r7 k T2 b e1 e2
    exact ⟨(hf b hne).trans z1, z2, fun j y d hj hd => (hf y (ne_e (z3 j y d hj hd) h1 (ne_c (by decide)))).trans (z3 j y d hj hd)⟩
theorem ty_freshM {y : Nat} (hT : ∀ a ∈ ty, isTM h a) (hy : h y = none) : y ∉ ty := fun z => by
  obtain ⟨b0, b1, b2, b3, b4, b5, b6, e⟩ := hT y z
  rw [hy] at e
  cases e
end MRS
