/-! TWO WORLDS SIDE BY SIDE: a call sees one, the other stays -/
theorem wP_lt {D : va_G} {A : Nat → Prop} {k : Nat → Option va_E} {H : Heap} (hw : wP D A k H) {a : Nat} (ha : k a ≠ none) : a < H.size := by
  cases he : k a with
  | none => exact absurd he ha
  | some e => exact (wP_A hw he).2.lt
theorem wP_frame {D : va_G} {A : Nat → Prop} {k : Nat → Option va_E} {H H1 : Heap} (hk : wP D A k H) (he : ∀ q, k q ≠ none → H1[q]? = H[q]?) : wP D A k H1 := by
  obtain ⟨ws, hP, hD, hI⟩ := hk
  refine ⟨ws, fun i q hq => (hP i q hq).kept (he q.1 ?_), hD, hI⟩
  rw [(hI q.1 q.2).mpr (List.mem_of_getElem? hq)]
  exact fun z => by cases z
def W2 (g : GG) (A : Nat → Prop) (s : State) (h k : Nat → Option va_E) (H : Heap) (locs : List Loc) : Prop := wd g A s h H locs ∧ wP g.1 A k H ∧ ∀ q, h q ≠ none → k q = none
theorem W2.swap {g : GG} {A : Nat → Prop} {s : State} {h k : Nat → Option va_E} {H : Heap} {locs : List Loc} (hw : W2 g A s h k H locs) : W2 g A s k h H locs :=
  ⟨⟨hw.1.1, hw.2.1, hw.1.2.2⟩, hw.1.2.1, fun q hq => Classical.byContradiction (fun z => hq (hw.2.2 q z))⟩
section WT
variable {p : Program} {l : Launch} {e : Env} {R : Room} {s : State} {m : MethodId} {args : Array Value} {below : List Frame} {meth : Method} {c : Code} {H : Heap} {locs : List Loc} {cells slots : Nat} {Q : State → Prop}
variable {cc : ByteArray} {pc : Nat} {ls : Array Slot} {rest : List Value} {g : GG} {A : Nat → Prop} {a : Nat} {h k : Nat → Option va_E}
theorem w_call2 {mc ms : Nat} {post : Option Value → (Nat → Option va_E) → Prop} {av : Array Value} {st0 : List Value} (hr : va_Run p l e R s m args below meth c H locs cells slots mc ms (F0 m pc ls st0) rest (cQ g (wA h H.size) post av) (wA h H.size)) (hw2 : W2 g A s h k H locs)
    (kk : ∀ (v : Option Value) (h' : Nat → Option va_E) (H1 : Heap) (locs1 : List Loc), post v h' → W2 g A s h' k H1 locs1 → W p l e R s m args below meth c H1 locs1 (cells + mc) (slots + ms) Q (F0 m (pc + 3) ls (v.toList ++ rest))) : W p l e R s m args below meth c H locs cells slots Q (F0 m pc ls st0) := by
  intro T hT X
  obtain ⟨v, st₀, t, T', L, h0, X', hL, e1, e2, ⟨⟨v', h', hv, hp, hP1, hK1⟩, hz, hk⟩, st⟩ := hr T hT X
  cases hv
  rw [h0] at hz hk
  obtain ⟨hw, hk2, hdis⟩ := hw2
  have hfr := wd_free hw
  obtain ⟨hK, hP, hS, hA, hZ⟩ := hw
  have hout : ∀ q, k q ≠ none → ¬ wA h H.size q := fun q hq z => by
    rcases z with z | z
    · exact hq (hdis q z)
    · exact absurd (wP_lt hk2 hq) (Nat.not_lt.mpr z)
  obtain ⟨t2, a1, b1⟩ := kk v h' T'.heap (locs ++ L) hp ⟨⟨hK, by rw [e1]; exact wP_weaken hP1 hfr, ⟨Nat.le_trans hS.1 (by rw [e1]; exact hz), fun q h1 h2 => by
    rw [e1, hk q (Nat.lt_of_lt_of_le h1 hS.1) (fun z => h2 (hfr q z))]; exact hS.2.1 q h1 h2, fun q hq => by
      rcases List.mem_append.mp hq with hh | hh
      · exact hS.2.2 q hh
      · exact hfr _ (hL q hh)⟩, hA, hZ⟩, by rw [e1]; exact wP_frame hk2 (fun q hq => hk q (wP_lt hk2 hq) (hout q hq)), fun q hq => by
        cases he : h' q with
        | none => exact absurd he hq
        | some e' => exact Classical.byContradiction (fun z => hout q z (wP_A hP1 he).1)⟩ T' rfl X'
  exact ⟨t2, st t2 a1, b1⟩
theorem wP_split {D : va_G} {ws : va_W} {q : Nat} {e' : va_E} {H1 : Heap} (hP1 : va_P D vwCl (ws ++ [(q, e')]) H1) (hD1 : va_D A (ws ++ [(q, e')])) (hI : wI h ws) : wP D A h H1 ∧ wP D A (wu (fun _ => none) q e') H1 := by
  have ap : ∀ (i : Nat) (x : Nat × va_E), ws[i]? = some x → (ws ++ [(q, e')])[i]? = some x := fun i x hx => by rw [List.getElem?_append_left (List.getElem?_eq_some_iff.mp hx).1]; exact hx
  have la : (ws ++ [(q, e')])[ws.length]? = some (q, e') := by simp
  have on : ∀ (i : Nat) (x : Nat × va_E), [(q, e')][i]? = some x → i = 0 ∧ x = (q, e') := fun i x hx => by
    have hl := (List.getElem?_eq_some_iff.mp hx).1
    have h0 : i = 0 := by simp at hl; omega
    subst h0
    cases hx
    exact ⟨rfl, rfl⟩
  refine ⟨⟨ws, fun i x hx => hP1 i x (ap i x hx), ⟨fun i j x y hx hy => hD1.1 i j x y (ap i x hx) (ap j y hy), fun i x hx => hD1.2 i x (ap i x hx)⟩, hI⟩, ⟨[(q, e')], fun i x hx => ?_, ⟨fun i j x y hx hy _ => ?_, fun i x hx => ?_⟩, fun b e2 => ?_⟩⟩
  · rw [(on i x hx).2]; exact hP1 _ _ la
  · rw [(on i x hx).1, (on j y hy).1]
  · rw [(on i x hx).2]; exact hD1.2 _ _ la
  · by_cases hb : b = q
    · subst hb
      rw [wu_s]
      constructor
      · intro z; cases z; exact List.mem_singleton.mpr rfl
      · intro z; cases List.mem_singleton.mp z; rfl
    · rw [wu_n hb]
      constructor
      · intro z; cases z
      · intro z; cases List.mem_singleton.mp z; exact absurd rfl hb
theorem w_new2 (hx : p.tables.exec = Jvm.exec) (hb : c.code = cc) {own C : String} {T : u_T} {N ci index : Nat} {Ts : List Cond} (hts : ∀ w ∈ Ts, w.before args s = true) (hin : ∀ w ∈ u_ws C T N, w ∈ Ts) (ty : Nat → FieldType) (hty : ∀ k, k < N → parseFieldDescriptor (T k).2.2.1 = some (ty k)) (hown : s.vm.findClass own = some m.cls) (hcl : (Cond.classLink own index C).before args s = true) (hinst : (Cond.instantiable C N).before args s = true) (hini : (Cond.initialized C).before args s = true)
    (hw : wd g A s h H locs) (hc : vwCl[ci]? = some (C, T, N)) {fs : List Value} (hfs : ∀ j, j < N → defaultValue (ty j) = vp_V fs j) (hcells : cells + 1 ≤ R.cells) (hslots : slots + N ≤ R.slots) (hdg : decode cc pc = .ok (.new index, 3))
    (kk : ∀ (q : Nat) (H1 : Heap), W2 g A s (wu (fun _ => none) q (.inr (ci, fs))) h H1 locs → W p l e R s m args below meth c H1 locs (cells + 1) (slots + N) Q (F0 m (pc + 3) ls (.ref q :: rest))) : W p l e R s m args below meth c H locs cells slots Q (F0 m pc ls rest) := by
  obtain ⟨hK, ⟨ws, hP, hD, hI⟩, hS, hA, hZ⟩ := hw
  exact va_new hx hb hts hin ty hty hown hcl hinst hini hK hP hD hS hA hc hfs hcells hslots hdg (fun q H1 hP1 hD1 hS1 => kk q H1 ⟨⟨hK, (wP_split hP1 hD1 hI).2, hS1, hA, hZ⟩, (wP_split hP1 hD1 hI).1, fun z hz => by
    by_cases hq : z = q
    · subst hq; exact (wI_push hI hD1).1
    · rw [wu_n hq] at hz; exact absurd rfl hz⟩)
end WT
theorem DR_self {g : GG} {h : Nat → Option va_E} {x : Nat} {S : List TyS} (hR : DR g h x S) : ∃ fs, h x = some (.inr (4, fs)) := by
  obtain ⟨kl, ka, ty, ml, ma, mb, hR0⟩ := hR
  exact ⟨_, hR0.1⟩
theorem MR_self {g : GG} {h : Nat → Option va_E} {x : Nat} {S : List TyS} (hR : MR g h x S) : ∃ fs, h x = some (.inr (7, fs)) := by
  obtain ⟨tl, ta, ty, al, aa, ab, P, hR0⟩ := hR
  obtain ⟨a, b, c, hm⟩ := hR0.1
  exact ⟨_, hm⟩
theorem li_in {j L : Nat} (h : 5 * j + 5 ≤ L) (hL : L ≤ 2560) (k : Nat) (hk : k < 5) : vp_in (nI (5 * j) + nI k) L := by
  rw [nI_add]
  exact vp_in_nI (by omega) (by omega)
theorem li_more {j L : Nat} (hj : j ≤ 512) (hL : L ≤ 2560) (h : ¬ nI L - 5 < nI (5 * j)) : 5 * j + 5 ≤ L := by
  refine Classical.byContradiction (fun z => h ?_)
  by_cases c : 5 ≤ L
  · have e : nI L - 5 = nI (L - 5) := pk_sub (a := L) (b := 5) c
    rw [e]
    exact (nI_ltI (by omega) (by omega)).mpr (by omega)
  · have e0 : ¬ nI (5 * j) < 0 := nI_pos (by omega)
    have e1 : nI L - 5 < 0 := by
      rcases (show L = 0 ∨ L = 1 ∨ L = 2 ∨ L = 3 ∨ L = 4 by omega) with rfl | rfl | rfl | rfl | rfl <;> decide
    exact Int32.lt_of_lt_of_le e1 (Int32.not_lt.mp e0)
