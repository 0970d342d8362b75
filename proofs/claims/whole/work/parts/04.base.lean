/-! THE WORLD AS A PARTIAL MAP: h a = some e: the cell a holds e. Rows of the kit, said of such a map; contracts over it. -/
def wu (h : Nat → Option va_E) (a : Nat) (e : va_E) : Nat → Option va_E := fun q => if q = a then some e else h q
theorem wu_s (h : Nat → Option va_E) (a : Nat) (e : va_E) : wu h a e a = some e := by simp [wu]
theorem wu_n {h : Nat → Option va_E} {a q : Nat} {e : va_E} (hq : q ≠ a) : wu h a e q = h q := by simp [wu, hq]
theorem wu_uu (h : Nat → Option va_E) (a : Nat) (e e2 : va_E) : wu (wu h a e) a e2 = wu h a e2 := by
  funext q; by_cases hq : q = a <;> simp [wu, hq]
theorem wu_id {h : Nat → Option va_E} {a : Nat} {e : va_E} (ha : h a = some e) : wu h a e = h := by
  funext q; by_cases hq : q = a
  · subst hq; simp [wu, ha]
  · simp [wu, hq]
/-- the map is the list of cells -/
def wI (h : Nat → Option va_E) (ws : va_W) : Prop := ∀ (a : Nat) (e : va_E), h a = some e ↔ (a, e) ∈ ws
/-- what a method that has the world h may change: its cells, and new ones -/
def wA (h : Nat → Option va_E) (sz : Nat) : Nat → Prop := fun q => h q ≠ none ∨ sz ≤ q
def wP (D : va_G) (A : Nat → Prop) (h : Nat → Option va_E) (H : Heap) : Prop := ∃ ws : va_W, va_P D vwCl ws H ∧ va_D A ws ∧ wI h ws
abbrev GG : Type := va_G × ClassId × ClassId × Nat × Nat × Nat
/-- arrays of references, of ints -/
abbrev arO (g : GG) (n : Nat) (f : Nat → Option Nat) : va_E := .inl (g.2.1, n, .inr (.inr (.inr (.inr f))))
abbrev arI (g : GG) (n : Nat) (f : Nat → Int32) : va_E := .inl (g.2.2.1, n, .inl f)
abbrev tysG (g : GG) : List (ClassId × FieldType) := [(g.2.1, .object "java/lang/Object"), (g.2.2.1, .int)]
abbrev gZ (g : GG) : Nat := g.2.2.2.1
abbrev gT (g : GG) : Nat := g.2.2.2.2.1
abbrev gM (g : GG) : Nat := g.2.2.2.2.2
def bbTab : List Int32 := [0, 1, 1, 2, 2, 4, 4, 8, 8, 4, 8]
def nwIs : Cond → Bool
  | .castable _ _ => true
  | .fieldLinkNest _ _ _ _ _ _ => true
  | .methodLinkNest _ _ _ _ => true
  | _ => false
def nwL : List Cond := [.fieldLinkNest "LayoutDesk" 110 "LayoutDesk$Compound" "members" "Ljava/util/ArrayList;" "LayoutDesk", .fieldLinkNest "LayoutDesk" 124 "LayoutDesk$Compound" "open" "Z" "LayoutDesk", .fieldLinkNest "LayoutDesk" 116 "LayoutDesk$Compound" "reach" "I" "LayoutDesk", .fieldLinkNest "LayoutDesk" 107 "LayoutDesk$Compound" "unitPlace" "I" "LayoutDesk", .fieldLinkNest "LayoutDesk" 98 "LayoutDesk$Compound" "freeBits" "I" "LayoutDesk", .methodLinkNest "LayoutDesk$Compound" 39 ⟨"LayoutDesk", "roundUp", "(II)I"⟩ "LayoutDesk", .fieldLinkNest "LayoutDesk" 139 "LayoutDesk$Member" "place" "I" "LayoutDesk", .fieldLinkNest "LayoutDesk" 142 "LayoutDesk$Member" "type" "I" "LayoutDesk", .fieldLinkNest "LayoutDesk" 145 "LayoutDesk$Member" "lowestBit" "I" "LayoutDesk", .fieldLinkNest "LayoutDesk" 148 "LayoutDesk$Member" "width" "I" "LayoutDesk", .castable "LayoutDesk$Compound" "LayoutDesk$Type", .castable "LayoutDesk$Simple" "LayoutDesk$Type", .castable "LayoutDesk$Simple" "LayoutDesk$Simple", .castable "LayoutDesk$Compound" "LayoutDesk$Compound", .castable "LayoutDesk$Member" "LayoutDesk$Member", .castable "LayoutDeskModel$Type" "LayoutDeskModel$Type", .castable "LayoutDeskModel$Added" "LayoutDeskModel$Added", .castable "LayoutDesk" "java/lang/Object", .castable "LayoutDesk$Simple" "java/lang/Object", .castable "LayoutDeskModel" "java/lang/Object", .castable "LayoutDeskModel$Type" "java/lang/Object", .castable "LayoutDesk$Compound" "java/lang/Object", .castable "LayoutDesk$Member" "java/lang/Object", .castable "LayoutDeskModel$Added" "java/lang/Object"]
def ncL : List (String × String) := [("LayoutDesk$Compound", "LayoutDesk$Simple"), ("LayoutDesk$Simple", "LayoutDesk$Compound")]
/-- what the start gives of statics and tables, that the words of a method don't hold -/
def St (g : GG) (A : Nat → Prop) (U : State) (H : Heap) : Prop :=
  va_Z "java/util/ArrayList" "DEFAULTCAPACITY_EMPTY_ELEMENTDATA" "[Ljava/lang/Object;" (.ref (gZ g)) A U H ∧ va_T (.object "java/lang/Object") (gZ g) 0 (fun _ => .null) A U H ∧
  va_Z "LayoutDesk" "BASIC_BYTES" "[I" (.ref (gT g)) A U H ∧ va_T .int (gT g) 11 (fun j => .int (bbTab.getD j 0)) A U H ∧
  va_Mi "[Ljava/lang/Object;" (gM g) U ∧ va_Dc U ∧ va_AO "java/lang/Object" U ∧ (∀ w ∈ nwL, va_Nw w U) ∧ ∀ q ∈ ncL, va_Nc q.1 q.2 U
theorem nw_warm {w : Cond} (hw : nwIs w = true) {s U : State} (hW : s.WarmedH U.vm) (h : va_Nw w s) : va_Nw w U := by
  cases w with
  | castable C T => exact va_Nw.warmC hW h
  | fieldLinkNest a i b n d k => exact va_Nw.warmF hW h
  | methodLinkNest a i x k => exact va_Nw.warmM hW h
  | _ => cases hw
theorem nw_on {w : Cond} (hw : nwIs w = true) : w.onTables = true := by
  cases w with
  | castable C T => rfl
  | fieldLinkNest a i b n d k => rfl
  | methodLinkNest a i x k => rfl
  | _ => cases hw
theorem nwL_is : ∀ w ∈ nwL, nwIs w = true := by
  intro w hw
  exact List.all_eq_true.mp (by decide +kernel : nwL.all nwIs = true) w hw
theorem St_call {g : GG} {A B : Nat → Prop} {s U : State} {H : Heap} (h : St g A s s.heap) (hW : s.WarmedH U.vm) (hq : ∀ a : Nat, a < s.heap.size → ¬ A a → H[a]? = s.heap[a]?) (hAB : ∀ q, B q → A q) : St g B U H := by
  obtain ⟨h1, h2, h3, h4, h5, h6, h7, h8, h9⟩ := h
  exact ⟨((h1.kept hq).moved hW.alike).narrow hAB, ((h2.kept hq).moved hW.alike).narrow hAB, ((h3.kept hq).moved hW.alike).narrow hAB, ((h4.kept hq).moved hW.alike).narrow hAB, h5.moved hW.alike, h6.moved hW.alike, h7.moved hW.alike, fun w hw => nw_warm (nwL_is w hw) hW (h8 w hw), fun q hq => (h9 q hq).moved hW.alike⟩
theorem St_same {g : GG} {A : Nat → Prop} {u U : State} {H : Heap} (h : St g A u H) (hv : u.vm = U.vm) : St g A U H := by
  obtain ⟨h1, h2, h3, h4, h5, h6, h7, h8, h9⟩ := h
  have ha : u.vm.Alike U.vm := by rw [hv]; exact Vm.Alike.refl _
  exact ⟨h1.moved ha, h2.moved ha, h3.moved ha, h4.moved ha, h5.moved ha, h6.moved ha, h7.moved ha, fun w hw => va_Nw.same (nw_on (nwL_is w hw)) hv (h8 w hw), fun q hq => (h9 q hq).moved ha⟩
def wd (g : GG) (A : Nat → Prop) (s : State) (h : Nat → Option va_E) (H : Heap) (locs : List Loc) : Prop :=
  va_K g.1 vwCl (tysG g) s ∧ wP g.1 A h H ∧ va_S A s.heap H locs ∧ (∀ q : Nat, s.heap.size ≤ q → A q) ∧ St g A s s.heap
theorem wI_set {h : Nat → Option va_E} {ws : va_W} {A : Nat → Prop} {k a : Nat} {e0 e : va_E} (hI : wI h ws) (hD : va_D A ws) (hk : ws[k]? = some (a, e0)) : wI (wu h a e) (ws.set k (a, e)) := by
  have hl : k < ws.length := (List.getElem?_eq_some_iff.mp hk).1
  intro b e'
  constructor
  · intro hb
    by_cases hq : b = a
    · subst hq
      rw [wu_s] at hb
      cases hb
      exact List.mem_iff_getElem?.mpr ⟨k, by rw [List.getElem?_set_self hl]⟩
    · rw [wu_n hq] at hb
      obtain ⟨j, hj⟩ := List.mem_iff_getElem?.mp ((hI b e').mp hb)
      refine List.mem_iff_getElem?.mpr ⟨j, ?_⟩
      rw [List.getElem?_set_ne]
      · exact hj
      · intro hkj
        subst hkj
        rw [hk] at hj
        cases hj
        exact hq rfl
  · intro hb
    obtain ⟨j, hj⟩ := List.mem_iff_getElem?.mp hb
    by_cases hkj : k = j
    · subst hkj
      rw [List.getElem?_set_self hl] at hj
      cases hj
      exact wu_s _ _ _
    · rw [List.getElem?_set_ne hkj] at hj
      have hq : b ≠ a := fun q => by
        subst q
        exact hkj (hD.1 k j _ _ hk hj rfl)
      rw [wu_n hq]
      exact (hI b e').mpr (List.mem_of_getElem? hj)
theorem wI_push {h : Nat → Option va_E} {ws : va_W} {A : Nat → Prop} {a : Nat} {e : va_E} (hI : wI h ws) (hD : va_D A (ws ++ [(a, e)])) : h a = none ∧ wI (wu h a e) (ws ++ [(a, e)]) := by
  have hl : (ws ++ [(a, e)])[ws.length]? = some (a, e) := by simp
  have h0 : ∀ e', (a, e') ∉ ws := by
    intro e' hm
    obtain ⟨j, hj⟩ := List.mem_iff_getElem?.mp hm
    have hjl : j < ws.length := (List.getElem?_eq_some_iff.mp hj).1
    have := hD.1 j ws.length (a, e') (a, e) (by rw [List.getElem?_append_left hjl]; exact hj) hl rfl
    omega
  refine ⟨?_, ?_⟩
  · cases hh : h a with
    | none => rfl
    | some e' => exact absurd ((hI a e').mp hh) (h0 e')
  · intro b e'
    by_cases hq : b = a
    · subst hq
      rw [wu_s]
      constructor
      · intro hb
        cases hb
        simp
      · intro hb
        rcases List.mem_append.mp hb with hm | hm
        · exact absurd hm (h0 e')
        · rw [List.mem_singleton] at hm
          cases hm
          rfl
    · rw [wu_n hq, hI b e']
      constructor
      · intro hb
        exact List.mem_append_left _ hb
      · intro hb
        rcases List.mem_append.mp hb with hm | hm
        · exact hm
        · rw [List.mem_singleton] at hm
          cases hm
          exact absurd rfl hq
theorem wP_A {D : va_G} {A : Nat → Prop} {h : Nat → Option va_E} {H : Heap} (hw : wP D A h H) {a : Nat} {e : va_E} (ha : h a = some e) : A a ∧ va_at D vwCl (a, e) H := by
  obtain ⟨ws, hP, hD, hI⟩ := hw
  obtain ⟨k, hk⟩ := List.mem_iff_getElem?.mp ((hI a e).mp ha)
  exact ⟨hD.2 k _ hk, hP k _ hk⟩
theorem wP_weaken {D : va_G} {A B : Nat → Prop} {h : Nat → Option va_E} {H : Heap} (hw : wP D A h H) (hAB : ∀ q, A q → B q) : wP D B h H := by
  obtain ⟨ws, hP, hD, hI⟩ := hw
  exact ⟨ws, hP, hD.weaken (fun _ q _ hq => hAB q.1 hq), hI⟩
theorem wP_self {D : va_G} {A : Nat → Prop} {h : Nat → Option va_E} {H : Heap} (hw : wP D A h H) (sz : Nat) : wP D (wA h sz) h H := by
  obtain ⟨ws, hP, hD, hI⟩ := hw
  refine ⟨ws, hP, hD.weaken (fun k q hk _ => Or.inl ?_), hI⟩
  rw [(hI q.1 q.2).mpr (List.mem_of_getElem? hk)]
  exact fun z => by cases z
theorem wd_free {g : GG} {A : Nat → Prop} {s : State} {h : Nat → Option va_E} {H : Heap} {locs : List Loc} (hw : wd g A s h H locs) : ∀ q, wA h H.size q → A q := by
  obtain ⟨hK, hP, hS, hA, hZ⟩ := hw
  intro q hq
  rcases hq with hq | hq
  · cases hh : h q with
    | none => exact absurd hh hq
    | some e => exact (wP_A hP hh).1
  · exact hA q (Nat.le_trans hS.1 hq)
section WB
variable {p : Program} {l : Launch} {e : Env} {R : Room} {s : State} {m : MethodId} {args : Array Value} {below : List Frame} {meth : Method} {c : Code} {H : Heap} {locs : List Loc} {cells slots : Nat} {Q : State → Prop}
variable {cc : ByteArray} {pc : Nat} {ls : Array Slot} {rest : List Value} {g : GG} {A : Nat → Prop} {a : Nat} {h : Nat → Option va_E}
theorem w_get (hx : p.tables.exec = Jvm.exec) (hb : c.code = cc) {own ref C : String} {T : u_T} {N ci index : Nat} {Ts : List Cond} (hts : ∀ w ∈ Ts, w.before args s = true) (hin : ∀ w ∈ u_ws C T N, w ∈ Ts) (hown : s.vm.findClass own = some m.cls) (hw : wd g A s h H locs) {fs : List Value} (ha : h a = some (.inr (ci, fs))) (hc : vwCl[ci]? = some (C, T, N)) (k : Nat) (hk : k < N) (hlink : (Cond.fieldLink own index ref (T k).2.1 (T k).2.2.1).before args s = true) (hsame : ∀ x, s.fieldFound? (T k).1 (T k).2.1 (T k).2.2.1 = some x → s.fieldFound? ref (T k).2.1 (T k).2.2.1 = some x) {v : Value} (hv : fs[k]? = some v) (hdg : decode cc pc = .ok (.getfield index, 3))
    (kk : W p l e R s m args below meth c H locs cells slots Q (F0 m (pc + 3) ls (v :: rest))) : W p l e R s m args below meth c H locs cells slots Q (F0 m pc ls (.ref a :: rest)) := by
  obtain ⟨hK, ⟨ws, hP, hD, hI⟩, hS, hA, hZ⟩ := hw
  obtain ⟨k0, hk0⟩ := List.mem_iff_getElem?.mp ((hI _ _).mp ha)
  exact va_get hx hb hts hin hown hK hP k0 hk0 hc k hk hlink hsame hv hdg kk
theorem w_getN (hx : p.tables.exec = Jvm.exec) (hb : c.code = cc) {own ref C host : String} {T : u_T} {N ci index : Nat} {Ts : List Cond} (hts : ∀ w ∈ Ts, w.before args s = true) (hin : ∀ w ∈ u_ws C T N, w ∈ Ts) (hown : s.vm.findClass own = some m.cls) (hw : wd g A s h H locs) {fs : List Value} (ha : h a = some (.inr (ci, fs))) (hc : vwCl[ci]? = some (C, T, N)) (k : Nat) (hk : k < N) (hlink : (Cond.fieldLinkNest own index ref (T k).2.1 (T k).2.2.1 host).before args s = true) (hsame : ∀ x, s.fieldFound? (T k).1 (T k).2.1 (T k).2.2.1 = some x → s.fieldFound? ref (T k).2.1 (T k).2.2.1 = some x) {v : Value} (hv : fs[k]? = some v) (hdg : decode cc pc = .ok (.getfield index, 3))
    (kk : W p l e R s m args below meth c H locs cells slots Q (F0 m (pc + 3) ls (v :: rest))) : W p l e R s m args below meth c H locs cells slots Q (F0 m pc ls (.ref a :: rest)) := by
  obtain ⟨hK, ⟨ws, hP, hD, hI⟩, hS, hA, hZ⟩ := hw
  obtain ⟨k0, hk0⟩ := List.mem_iff_getElem?.mp ((hI _ _).mp ha)
  exact va_getN hx hb hts hin hown hK hP k0 hk0 hc k hk hlink hsame hv hdg kk
theorem w_put (hx : p.tables.exec = Jvm.exec) (hb : c.code = cc) {own ref C : String} {T : u_T} {N ci index : Nat} {Ts : List Cond} (hts : ∀ w ∈ Ts, w.before args s = true) (hin : ∀ w ∈ u_ws C T N, w ∈ Ts) (ty0 : Nat → FieldType) (hty : ∀ k, k < N → parseFieldDescriptor (T k).2.2.1 = some (ty0 k)) (hnm : ∀ a, a < N → ∀ b, b < N → a ≠ b → (T a).2.1 ≠ (T b).2.1) (hown : s.vm.findClass own = some m.cls) (hw : wd g A s h H locs) {fs : List Value} (ha : h a = some (.inr (ci, fs))) (hc : vwCl[ci]? = some (C, T, N)) (k : Nat) (hk : k < N) (hlink : (Cond.fieldLink own index ref (T k).2.1 (T k).2.2.1).before args s = true) (hsame : ∀ x, s.fieldFound? (T k).1 (T k).2.1 (T k).2.2.1 = some x → s.fieldFound? ref (T k).2.1 (T k).2.2.1 = some x) (hfin : (T k).2.2.2 = false) {ty : FieldType} {v : Value} (hd : parseFieldDescriptor (T k).2.2.1 = some ty) (hn : narrow ty v = v) (hfit : fits ty v = true) (hl : k < fs.length) {fs' : List Value} (hfs : fs.set k v = fs')
    (hdg : decode cc pc = .ok (.putfield index, 3)) (kk : ∀ (H1 : Heap) (locs1 : List Loc), wd g A s (wu h a (.inr (ci, fs'))) H1 locs1 → W p l e R s m args below meth c H1 locs1 cells slots Q (F0 m (pc + 3) ls rest)) : W p l e R s m args below meth c H locs cells slots Q (F0 m pc ls (v :: .ref a :: rest)) := by
  obtain ⟨hK, ⟨ws, hP, hD, hI⟩, hS, hA, hZ⟩ := hw
  obtain ⟨k0, hk0⟩ := List.mem_iff_getElem?.mp ((hI _ _).mp ha)
  subst hfs
  exact va_put hx hb hts hin ty0 hty hnm hown hK hP hD hS k0 hk0 hc k hk hlink hsame hfin hd hn hfit hl hdg (fun H1 locs1 hP1 hD1 hS1 => kk H1 locs1 ⟨hK, ⟨_, hP1, hD1, wI_set hI hD hk0⟩, hS1, hA, hZ⟩)
theorem w_putF (hx : p.tables.exec = Jvm.exec) (hb : c.code = cc) {own ref C : String} {T : u_T} {N ci index : Nat} {Ts : List Cond} (hts : ∀ w ∈ Ts, w.before args s = true) (hin : ∀ w ∈ u_ws C T N, w ∈ Ts) (ty0 : Nat → FieldType) (hty : ∀ k, k < N → parseFieldDescriptor (T k).2.2.1 = some (ty0 k)) (hnm : ∀ a, a < N → ∀ b, b < N → a ≠ b → (T a).2.1 ≠ (T b).2.1) (hown : s.vm.findClass own = some m.cls) (hw : wd g A s h H locs) {fs : List Value} (ha : h a = some (.inr (ci, fs))) (hc : vwCl[ci]? = some (C, T, N)) (k : Nat) (hk : k < N) (hlink : (Cond.fieldLink own index ref (T k).2.1 (T k).2.2.1).before args s = true) (hsame : ∀ x, s.fieldFound? (T k).1 (T k).2.1 (T k).2.2.1 = some x → s.fieldFound? ref (T k).2.1 (T k).2.2.1 = some x) (hfin : (T k).2.2.2 = true) (hin2 : meth.name = "<init>") (hdecl : (T k).1 = own) {ty : FieldType} {v : Value} (hd : parseFieldDescriptor (T k).2.2.1 = some ty) (hn : narrow ty v = v) (hfit : fits ty v = true) (hl : k < fs.length) {fs' : List Value} (hfs : fs.set k v = fs')
    (hdg : decode cc pc = .ok (.putfield index, 3)) (kk : ∀ (H1 : Heap) (locs1 : List Loc), wd g A s (wu h a (.inr (ci, fs'))) H1 locs1 → W p l e R s m args below meth c H1 locs1 cells slots Q (F0 m (pc + 3) ls rest)) : W p l e R s m args below meth c H locs cells slots Q (F0 m pc ls (v :: .ref a :: rest)) := by
  obtain ⟨hK, ⟨ws, hP, hD, hI⟩, hS, hA, hZ⟩ := hw
  obtain ⟨k0, hk0⟩ := List.mem_iff_getElem?.mp ((hI _ _).mp ha)
  subst hfs
  exact va_putF hx hb hts hin ty0 hty hnm hown hK hP hD hS k0 hk0 hc k hk hlink hsame hfin hin2 hdecl hd hn hfit hl hdg (fun H1 locs1 hP1 hD1 hS1 => kk H1 locs1 ⟨hK, ⟨_, hP1, hD1, wI_set hI hD hk0⟩, hS1, hA, hZ⟩)
theorem w_putN (hx : p.tables.exec = Jvm.exec) (hb : c.code = cc) {own ref C host : String} {T : u_T} {N ci index : Nat} {Ts : List Cond} (hts : ∀ w ∈ Ts, w.before args s = true) (hin : ∀ w ∈ u_ws C T N, w ∈ Ts) (ty0 : Nat → FieldType) (hty : ∀ k, k < N → parseFieldDescriptor (T k).2.2.1 = some (ty0 k)) (hnm : ∀ a, a < N → ∀ b, b < N → a ≠ b → (T a).2.1 ≠ (T b).2.1) (hown : s.vm.findClass own = some m.cls) (hw : wd g A s h H locs) {fs : List Value} (ha : h a = some (.inr (ci, fs))) (hc : vwCl[ci]? = some (C, T, N)) (k : Nat) (hk : k < N) (hlink : (Cond.fieldLinkNest own index ref (T k).2.1 (T k).2.2.1 host).before args s = true) (hsame : ∀ x, s.fieldFound? (T k).1 (T k).2.1 (T k).2.2.1 = some x → s.fieldFound? ref (T k).2.1 (T k).2.2.1 = some x) (hfin : (T k).2.2.2 = false) {ty : FieldType} {v : Value} (hd : parseFieldDescriptor (T k).2.2.1 = some ty) (hn : narrow ty v = v) (hfit : fits ty v = true) (hl : k < fs.length) {fs' : List Value} (hfs : fs.set k v = fs')
    (hdg : decode cc pc = .ok (.putfield index, 3)) (kk : ∀ (H1 : Heap) (locs1 : List Loc), wd g A s (wu h a (.inr (ci, fs'))) H1 locs1 → W p l e R s m args below meth c H1 locs1 cells slots Q (F0 m (pc + 3) ls rest)) : W p l e R s m args below meth c H locs cells slots Q (F0 m pc ls (v :: .ref a :: rest)) := by
  obtain ⟨hK, ⟨ws, hP, hD, hI⟩, hS, hA, hZ⟩ := hw
  obtain ⟨k0, hk0⟩ := List.mem_iff_getElem?.mp ((hI _ _).mp ha)
  subst hfs
  exact va_putN hx hb hts hin ty0 hty hnm hown hK hP hD hS k0 hk0 hc k hk hlink hsame hfin hd hn hfit hl hdg (fun H1 locs1 hP1 hD1 hS1 => kk H1 locs1 ⟨hK, ⟨_, hP1, hD1, wI_set hI hD hk0⟩, hS1, hA, hZ⟩)
theorem w_new (hx : p.tables.exec = Jvm.exec) (hb : c.code = cc) {own C : String} {T : u_T} {N ci index : Nat} {Ts : List Cond} (hts : ∀ w ∈ Ts, w.before args s = true) (hin : ∀ w ∈ u_ws C T N, w ∈ Ts) (ty : Nat → FieldType) (hty : ∀ k, k < N → parseFieldDescriptor (T k).2.2.1 = some (ty k)) (hown : s.vm.findClass own = some m.cls) (hcl : (Cond.classLink own index C).before args s = true) (hinst : (Cond.instantiable C N).before args s = true) (hini : (Cond.initialized C).before args s = true)
    (hw : wd g A s h H locs) (hc : vwCl[ci]? = some (C, T, N)) {fs : List Value} (hfs : ∀ j, j < N → defaultValue (ty j) = vp_V fs j) (hcells : cells + 1 ≤ R.cells) (hslots : slots + N ≤ R.slots) (hdg : decode cc pc = .ok (.new index, 3))
    (kk : ∀ (q : Nat) (H1 : Heap), h q = none → wd g A s (wu h q (.inr (ci, fs))) H1 locs → W p l e R s m args below meth c H1 locs (cells + 1) (slots + N) Q (F0 m (pc + 3) ls (.ref q :: rest))) : W p l e R s m args below meth c H locs cells slots Q (F0 m pc ls rest) := by
  obtain ⟨hK, ⟨ws, hP, hD, hI⟩, hS, hA, hZ⟩ := hw
  exact va_new hx hb hts hin ty hty hown hcl hinst hini hK hP hD hS hA hc hfs hcells hslots hdg (fun q H1 hP1 hD1 hS1 => kk q H1 (wI_push hI hD1).1 ⟨hK, ⟨_, hP1, hD1, (wI_push hI hD1).2⟩, hS1, hA, hZ⟩)
theorem w_alenO (hx : p.tables.exec = Jvm.exec) (hb : c.code = cc) (hw : wd g A s h H locs) {n : Nat} {f : Nat → Option Nat} (ha : h a = some (arO g n f)) {v : Int32} (hv : nI n = v) (hdg : decode cc pc = .ok (.arraylength, 1))
    (kk : W p l e R s m args below meth c H locs cells slots Q (F0 m (pc + 1) ls (.int v :: rest))) : W p l e R s m args below meth c H locs cells slots Q (F0 m pc ls (.ref a :: rest)) := by
  obtain ⟨hK, ⟨ws, hP, hD, hI⟩, hS, hA, hZ⟩ := hw
  obtain ⟨k0, hk0⟩ := List.mem_iff_getElem?.mp ((hI _ _).mp ha)
  exact va_alen hx hb hK hP k0 0 hk0 rfl hv hdg kk
theorem w_aald (hx : p.tables.exec = Jvm.exec) (hb : c.code = cc) (hw : wd g A s h H locs) {n : Nat} {f : Nat → Option Nat} (ha : h a = some (arO g n f)) {i : Int32} (hin : vp_in i n) (hdg : decode cc pc = .ok (.aaload, 1))
    (kk : W p l e R s m args below meth c H locs cells slots Q (F0 m (pc + 1) ls (va_rf (f i.toNatClampNeg) :: rest))) : W p l e R s m args below meth c H locs cells slots Q (F0 m pc ls (.int i :: .ref a :: rest)) := by
  obtain ⟨hK, ⟨ws, hP, hD, hI⟩, hS, hA, hZ⟩ := hw
  obtain ⟨k0, hk0⟩ := List.mem_iff_getElem?.mp ((hI _ _).mp ha)
  exact va_aldq hx hb hK hP k0 0 hk0 rfl hin hdg kk
theorem w_iald (hx : p.tables.exec = Jvm.exec) (hb : c.code = cc) (hw : wd g A s h H locs) {n : Nat} {f : Nat → Int32} (ha : h a = some (arI g n f)) {i : Int32} (hin : vp_in i n) (hdg : decode cc pc = .ok (.iaload, 1))
    (kk : W p l e R s m args below meth c H locs cells slots Q (F0 m (pc + 1) ls (.int (f i.toNatClampNeg) :: rest))) : W p l e R s m args below meth c H locs cells slots Q (F0 m pc ls (.int i :: .ref a :: rest)) := by
  obtain ⟨hK, ⟨ws, hP, hD, hI⟩, hS, hA, hZ⟩ := hw
  obtain ⟨k0, hk0⟩ := List.mem_iff_getElem?.mp ((hI _ _).mp ha)
  exact va_iald hx hb hK hP k0 1 hk0 rfl hin hdg kk
theorem w_iast (hx : p.tables.exec = Jvm.exec) (hb : c.code = cc) (hw : wd g A s h H locs) {n : Nat} {f : Nat → Int32} (ha : h a = some (arI g n f)) {i x : Int32} (hin : vp_in i n) (hdg : decode cc pc = .ok (.iastore, 1))
    (kk : ∀ (H1 : Heap) (locs1 : List Loc), wd g A s (wu h a (arI g n (upd f i.toNatClampNeg x))) H1 locs1 → W p l e R s m args below meth c H1 locs1 cells slots Q (F0 m (pc + 1) ls rest)) : W p l e R s m args below meth c H locs cells slots Q (F0 m pc ls (.int x :: .int i :: .ref a :: rest)) := by
  obtain ⟨hK, ⟨ws, hP, hD, hI⟩, hS, hA, hZ⟩ := hw
  obtain ⟨k0, hk0⟩ := List.mem_iff_getElem?.mp ((hI _ _).mp ha)
  exact va_iast hx hb hK hP hD hS k0 1 hk0 rfl hin hdg (fun H1 locs1 hP1 hD1 hS1 => kk H1 locs1 ⟨hK, ⟨_, hP1, hD1, wI_set hI hD hk0⟩, hS1, hA, hZ⟩)
theorem w_aast (hx : p.tables.exec = Jvm.exec) (hb : c.code = cc) (hw : wd g A s h H locs) {n v : Nat} {f : Nat → Option Nat} (ha : h a = some (arO g n f)) (hr : va_Any "java/lang/Object" s H v) {i : Int32} (hin : vp_in i n) (hdg : decode cc pc = .ok (.aastore, 1))
    (kk : ∀ (H1 : Heap) (locs1 : List Loc), wd g A s (wu h a (arO g n (va_up f i.toNatClampNeg (some v)))) H1 locs1 → W p l e R s m args below meth c H1 locs1 cells slots Q (F0 m (pc + 1) ls rest)) : W p l e R s m args below meth c H locs cells slots Q (F0 m pc ls (.ref v :: .int i :: .ref a :: rest)) := by
  obtain ⟨hK, ⟨ws, hP, hD, hI⟩, hS, hA, hZ⟩ := hw
  obtain ⟨k0, hk0⟩ := List.mem_iff_getElem?.mp ((hI _ _).mp ha)
  exact va_astqM hx hb hK hP hD hS k0 0 hk0 rfl hr hin hdg (fun H1 locs1 hP1 hD1 hS1 => kk H1 locs1 ⟨hK, ⟨_, hP1, hD1, wI_set hI hD hk0⟩, hS1, hA, hZ⟩)
theorem w_aastN (hx : p.tables.exec = Jvm.exec) (hb : c.code = cc) (hw : wd g A s h H locs) {n : Nat} {f : Nat → Option Nat} (ha : h a = some (arO g n f)) {i : Int32} (hin : vp_in i n) (hdg : decode cc pc = .ok (.aastore, 1))
    (kk : ∀ (H1 : Heap) (locs1 : List Loc), wd g A s (wu h a (arO g n (va_up f i.toNatClampNeg none))) H1 locs1 → W p l e R s m args below meth c H1 locs1 cells slots Q (F0 m (pc + 1) ls rest)) : W p l e R s m args below meth c H locs cells slots Q (F0 m pc ls (.null :: .int i :: .ref a :: rest)) := by
  obtain ⟨hK, ⟨ws, hP, hD, hI⟩, hS, hA, hZ⟩ := hw
  obtain ⟨k0, hk0⟩ := List.mem_iff_getElem?.mp ((hI _ _).mp ha)
  exact va_astqN hx hb hK hP hD hS k0 0 hk0 rfl hin hdg (fun H1 locs1 hP1 hD1 hS1 => kk H1 locs1 ⟨hK, ⟨_, hP1, hD1, wI_set hI hD hk0⟩, hS1, hA, hZ⟩)
/-- a new array of references, its class being the one that the tables know -/
theorem w_newq (hx : p.tables.exec = Jvm.exec) (hb : c.code = cc) {own : String} {index : Nat} (hown : s.vm.findClass own = some m.cls) (hclink : (Cond.classLink own index "java/lang/Object").before args s = true) (hw : wd g A s h H locs)
    {n : Int32} {N' : Nat} (hn : ¬ n < 0) (hN : n.toNatClampNeg = N') (hbytes : N' * 4 ≤ 536870912) (hcells : cells + 1 ≤ R.cells) (hslots : slots + N' ≤ R.slots) (hdg : decode cc pc = .ok (.anewarray index, 3))
    (kk : ∀ (q : Nat) (H1 : Heap), h q = none → wd g A s (wu h q (arO g N' (fun _ => none))) H1 locs →
      W p l e R s m args below meth c H1 locs (cells + 1) (slots + N') Q (F0 m (pc + 3) ls (.ref q :: rest))) : W p l e R s m args below meth c H locs cells slots Q (F0 m pc ls (.int n :: rest)) := by
  obtain ⟨hK, ⟨ws, hP, hD, hI⟩, hS, hA, hZ⟩ := hw
  refine va_newq hx hb hown hclink hZ.2.2.2.2.2.2.1 hK hP hD hS hA hn hN hbytes hcells hslots hdg (fun q cB H1 hK1 hP1 hD1 hS1 => ?_)
  have e1 : cB = g.2.1 := by
    obtain ⟨-, kA, comp, -, -, -, f1⟩ := hK1.2 2 (cB, .object "java/lang/Object") rfl
    obtain ⟨-, kA2, comp2, -, -, -, f2⟩ := hK.2 0 _ rfl
    exact Option.some.inj (f1.symm.trans f2)
  subst e1
  exact kk q H1 (wI_push hI hD1).1 ⟨hK, ⟨_, hP1, hD1, (wI_push hI hD1).2⟩, hS1, hA, hZ⟩
/-- a new array of ints -/
theorem w_newi (hx : p.tables.exec = Jvm.exec) (hb : c.code = cc) (harr : (Cond.arrayClass .int).before args s = true) (hw : wd g A s h H locs)
    {n : Int32} {N' : Nat} (hn : ¬ n < 0) (hN : n.toNatClampNeg = N') (hbytes : N' * componentBytes .int ≤ 536870912) (hcells : cells + 1 ≤ R.cells) (hslots : slots + N' ≤ R.slots) (hdg : decode cc pc = .ok (.newarray .int, 2))
    (kk : ∀ (q : Nat) (H1 : Heap), h q = none → wd g A s (wu h q (arI g N' (fun _ => 0))) H1 locs →
      W p l e R s m args below meth c H1 locs (cells + 1) (slots + N') Q (F0 m (pc + 2) ls (.ref q :: rest))) : W p l e R s m args below meth c H locs cells slots Q (F0 m pc ls (.int n :: rest)) := by
  obtain ⟨hK, ⟨ws, hP, hD, hI⟩, hS, hA, hZ⟩ := hw
  refine va_newa (a0 := (N', .inl (fun _ => 0))) (atype := .int) hx hb harr rfl hK hP hD hS hA (fun cA => rfl) hn hN hbytes hcells hslots hdg (fun q cB H1 hK1 hP1 hD1 hS1 => ?_)
  have e1 : cB = g.2.2.1 := by
    have f1 := (hK1.2 2 (cB, .int) rfl).2
    have f2 := (hK.2 1 _ rfl).2
    exact Option.some.inj (f1.symm.trans f2)
  subst e1
  exact kk q H1 (wI_push hI hD1).1 ⟨hK, ⟨_, hP1, hD1, (wI_push hI hD1).2⟩, hS1, hA, hZ⟩
theorem w_recv (hw : wd g A s h H locs) {ci : Nat} {q : vw_C} {fs : List Value} (ha : h a = some (.inr (ci, fs))) (hc : vwCl[ci]? = some q) : ∃ cell : Cell, H[a]? = some cell ∧ cell.vm.isStatics = false ∧ s.vm.findClass q.1 = some cell.cls := by
  obtain ⟨hK, ⟨ws, hP, hD, hI⟩, hS, hA, hZ⟩ := hw
  obtain ⟨k0, hk0⟩ := List.mem_iff_getElem?.mp ((hI _ _).mp ha)
  exact va_recv hK hP hc hk0
/-- an object that may lie in an array of Objects -/
def isE (h : Nat → Option va_E) (a : Nat) : Prop := ∃ (ci : Nat) (fs : List Value), h a = some (.inr (ci, fs)) ∧ 1 ≤ ci ∧ ci < 8
theorem w_any (hw : wd g A s h H locs) (ha : isE h a) : va_Any "java/lang/Object" s H a := by
  obtain ⟨ci, fs, h1, h2, h3⟩ := ha
  obtain ⟨hK, ⟨ws, hP, hD, hI⟩, hS, hA, hZ⟩ := hw
  obtain ⟨k0, hk0⟩ := List.mem_iff_getElem?.mp ((hI _ _).mp h1)
  have key : ∀ (r : vw_C), vwCl[ci]? = some r → Cond.castable r.1 "java/lang/Object" ∈ nwL → va_Any "java/lang/Object" s H a := by
    intro r hr hm
    refine va_rAny hK hP hk0 hr (fun comp c0 f1 f2 => ?_)
    obtain ⟨c1, t1, e1, e2, e3⟩ := Cond.castable_spec (va_Nw.use (A := #[]) rfl (hZ.2.2.2.2.2.2.2.1 _ hm))
    cases f2.symm.trans e1
    cases f1.symm.trans e2
    exact e3
  rcases (by omega : ci = 1 ∨ ci = 2 ∨ ci = 3 ∨ ci = 4 ∨ ci = 5 ∨ ci = 6 ∨ ci = 7) with z | z | z | z | z | z | z <;> subst z
  · exact key _ rfl (by decide +kernel)
  · exact key _ rfl (by decide +kernel)
  · exact key _ rfl (by decide +kernel)
  · exact key _ rfl (by decide +kernel)
  · exact key _ rfl (by decide +kernel)
  · exact key _ rfl (by decide +kernel)
  · exact key _ rfl (by decide +kernel)
/-! contracts: any world h; the answer and the new world are 'post' -/
def cQ (g : GG) (A : Nat → Prop) (post : Option Value → (Nat → Option va_E) → Prop) : Array Value → State → Outcome → State → Prop := fun _ st oc t => (∃ (v : Option Value) (h' : Nat → Option va_E), oc = .returned v ∧ post v h' ∧ wP g.1 A h' t.heap ∧ va_K g.1 vwCl (tysG g) t) ∧ va_F A st t
def pr (g : GG) (h : Nat → Option va_E) (sz : Nat) (U : State) : Prop := U.heap.size = sz ∧ wP g.1 (wA h sz) h U.heap ∧ va_K g.1 vwCl (tysG g) U ∧ St g (wA h sz) U U.heap
def Con (l : Launch) (y : MethodName) (ws : List Cond) (fr lo mc ms : Nat) (av : List Value) (g : GG) (h : Nat → Option va_E) (post : Option Value → (Nat → Option va_E) → Prop) : Prop :=
  ∀ sz : Nat, Met l y ws { frames := fr, cells := mc, slots := ms, locals := lo } (va_Pc av (pr g h sz)) (cQ g (wA h sz) post) mc ms (wA h sz)
theorem pr_blind {av : List Value} {sz : Nat} : FrameBlind (va_Pc av (pr g h sz)) := fun a U gg mk q => by
  obtain ⟨q0, q1, q2, q3, q4⟩ := q
  exact ⟨q0, q1, q2, va_K.moved (u := U) (U := U.calling gg mk a) (Vm.Alike.refl U.vm) q3, St_same q4 rfl⟩
theorem pr_of (hw : wd g A s h H locs) {av : List Value} : ∀ U : State, U.heap = H → s.WarmedH U.vm → va_Pc av (pr g h H.size) av.toArray U := fun U hU hW =>
  ⟨rfl, by rw [hU], by rw [hU]; exact wP_self hw.2.1 _, va_K.moved hW.alike hw.1, by rw [hU]; exact St_call hw.2.2.2.2 hW hw.2.2.1.2.1 (wd_free hw)⟩
theorem w_call {mc ms : Nat} {post : Option Value → (Nat → Option va_E) → Prop} {av : Array Value} {st0 : List Value} (hr : va_Run p l e R s m args below meth c H locs cells slots mc ms (F0 m pc ls st0) rest (cQ g (wA h H.size) post av) (wA h H.size)) (hw : wd g A s h H locs)
    (kk : ∀ (v : Option Value) (h' : Nat → Option va_E) (H1 : Heap) (locs1 : List Loc), post v h' → wd g A s h' H1 locs1 → W p l e R s m args below meth c H1 locs1 (cells + mc) (slots + ms) Q (F0 m (pc + 3) ls (v.toList ++ rest))) : W p l e R s m args below meth c H locs cells slots Q (F0 m pc ls st0) := by
  intro T hT X
  obtain ⟨v, st₀, t, T', L, h0, X', hL, e1, e2, ⟨⟨v', h', hv, hp, hP1, hK1⟩, hz, hk⟩, st⟩ := hr T hT X
  cases hv
  rw [h0] at hz hk
  have hfr := wd_free hw
  obtain ⟨hK, hP, hS, hA, hZ⟩ := hw
  obtain ⟨t2, a1, b1⟩ := kk v h' T'.heap (locs ++ L) hp ⟨hK, by rw [e1]; exact wP_weaken hP1 hfr, ⟨Nat.le_trans hS.1 (by rw [e1]; exact hz), fun q h1 h2 => by
    rw [e1, hk q (Nat.lt_of_lt_of_le h1 hS.1) (fun z => h2 (hfr q z))]; exact hS.2.1 q h1 h2, fun q hq => by
      rcases List.mem_append.mp hq with hh | hh
      · exact hS.2.2 q hh
      · exact hfr _ (hL q hh)⟩, hA, hZ⟩ T' rfl X'
  exact ⟨t2, st t2 a1, b1⟩
theorem m_start {y : MethodName} {ws ws' : List Cond} {fr lo mc ms : Nat} {av : List Value} {post : Option Value → (Nat → Option va_E) → Prop} {maxL : Nat} {ret : Option FieldType} (hy : plainName y.cls = true) (hws : ws = Cond.code y cc maxL ret :: ws') (hlen : (lg_sl av).length ≤ maxL)
    (body : ∀ (p : Program) (e : Env) (s : State) (m : MethodId) (below : List Frame) (meth : Method) (c : Code) (A : Nat → Prop) (ls : Array Slot), p.tables.exec = Jvm.exec → c.code = cc → meth.sig.returnType = ret → c.maxLocals = maxL → (∀ w ∈ ws, w.before av.toArray s = true) → s.vm.findClass y.cls = some m.cls → meth.locks = false → meth.name = y.name → wd g A s h s.heap [] → lv_has ls maxL (lv_args 0 av) →
      W p l e { frames := fr, cells := mc, slots := ms, locals := lo } s m av.toArray below meth c s.heap [] 0 0 (MQ below (cQ g A post) av.toArray s mc ms A) (F0 m 0 ls [])) : Con l y ws fr lo mc ms av g h post := by
  intro sz
  refine Met.ofW (cc := cc) (maxL := maxL) (ret := ret) hy hws ?_
  intro p e s m args below meth c s₁ B hml hv
  obtain ⟨rfl, hsz, hP, hK, hZ⟩ := hv
  subst hsz
  rw [lg_entry_eq]
  exact body p e s m below meth c (wA h s.heap.size) _ B.exec B.bytes B.returns hml (atoms_spec (ws := ws) B.pre) (findClass_of_methodNamed B.named) B.notSynchronized (name_of_methodNamed B.named B.method).1 ⟨hK, hP, va_S.rf, fun q hq => Or.inr hq, hZ⟩ (lv_entry av hlen)
theorem r_int {mc ms : Nat} {post : Option Value → (Nat → Option va_E) → Prop} {v : Int32} (hx : p.tables.exec = Jvm.exec) (hb : c.code = cc) (hr : meth.sig.returnType = some .int) (hlocks : meth.locks = false) (hw : wd g A s h H locs) (hdg : decode cc pc = .ok (.ireturn, 1)) (hc : cells ≤ mc) (hs : slots ≤ ms) (hp : post (some (.int v)) h) : W p l e R s m args below meth c H locs cells slots (MQ below (cQ g A post) args s mc ms A) (F0 m pc ls [.int v]) :=
  W.widen hc hs (W.iret hx hb hr (fun t ht hW => ⟨⟨_, h, rfl, hp, by rw [ht]; exact hw.2.1, va_K.moved hW.alike hw.1⟩, hw.2.2.1.F ht⟩) hw.2.2.1.2.2 hdg hlocks)
theorem r_bool {mc ms : Nat} {post : Option Value → (Nat → Option va_E) → Prop} {v : Int32} (hx : p.tables.exec = Jvm.exec) (hb : c.code = cc) (hr : meth.sig.returnType = some .boolean) (hlocks : meth.locks = false) (hw : wd g A s h H locs) (hn : narrow .boolean (.int v) = .int v) (hdg : decode cc pc = .ok (.ireturn, 1)) (hc : cells ≤ mc) (hs : slots ≤ ms) (hp : post (some (.int v)) h) : W p l e R s m args below meth c H locs cells slots (MQ below (cQ g A post) args s mc ms A) (F0 m pc ls [.int v]) :=
  W.widen hc hs (W.zret hx hb hr hn (fun t ht hW => ⟨⟨_, h, rfl, hp, by rw [ht]; exact hw.2.1, va_K.moved hW.alike hw.1⟩, hw.2.2.1.F ht⟩) hw.2.2.1.2.2 hdg hlocks)
theorem r_ref {mc ms : Nat} {post : Option Value → (Nat → Option va_E) → Prop} {v : Value} {rt : FieldType} (hx : p.tables.exec = Jvm.exec) (hb : c.code = cc) (hr : meth.sig.returnType = some rt) (hrt : (∃ n, rt = .object n) ∨ ∃ t, rt = .array t) (hv : v = .null ∨ ∃ a, v = .ref a) (hlocks : meth.locks = false) (hw : wd g A s h H locs) (hdg : decode cc pc = .ok (.areturn, 1)) (hc : cells ≤ mc) (hs : slots ≤ ms) (hp : post (some v) h) : W p l e R s m args below meth c H locs cells slots (MQ below (cQ g A post) args s mc ms A) (F0 m pc ls [v]) :=
  W.widen hc hs (W.aret hx hb hr hrt hv (fun t ht hW => ⟨⟨_, h, rfl, hp, by rw [ht]; exact hw.2.1, va_K.moved hW.alike hw.1⟩, hw.2.2.1.F ht⟩) hw.2.2.1.2.2 hdg hlocks)
theorem r_void {mc ms : Nat} {post : Option Value → (Nat → Option va_E) → Prop} (hx : p.tables.exec = Jvm.exec) (hb : c.code = cc) (hr : meth.sig.returnType = none) (hlocks : meth.locks = false) (hw : wd g A s h H locs) (hdg : decode cc pc = .ok (.return_, 1)) (hc : cells ≤ mc) (hs : slots ≤ ms) (hp : post none h) : W p l e R s m args below meth c H locs cells slots (MQ below (cQ g A post) args s mc ms A) (F0 m pc ls []) :=
  W.widen hc hs (W.vret hx hb hr (fun t ht hW => ⟨⟨_, h, rfl, hp, by rw [ht]; exact hw.2.1, va_K.moved hW.alike hw.1⟩, hw.2.2.1.F ht⟩) hw.2.2.1.2.2 hdg hlocks)
/-- arraycopy of references -/
theorem w_copy (hx : p.tables.exec = Jvm.exec) (hb : c.code = cc) (hml : c.maxLocals = ls.size) {own : String} {index : Nat} (hown : s.vm.findClass own = some m.cls) (hlink : (Cond.methodLink own index arraycopyName).before args s = true) (hnat : (Cond.native arraycopyName).before args s = true) (hstat : (Cond.static arraycopyName).before args s = true) (hini : (Cond.initialized "java/lang/System").before args s = true)
    (hw : wd g A s h H locs) {a0 : Nat} {n0 n1 : Nat} {f f1 : Nat → Option Nat} (ha0 : h a0 = some (arO g n0 f)) (ha1 : h a = some (arO g n1 f1))
    {sp dp n : Int32} (h1 : ¬ sp < 0) (h2 : ¬ dp < 0) (h3 : ¬ n < 0) (h4 : sp.toNatClampNeg + n.toNatClampNeg ≤ n0) (h5 : dp.toNatClampNeg + n.toNatClampNeg ≤ n1) (hel : ∀ i : Nat, i < n.toNatClampNeg → ∀ y : Nat, f (sp.toNatClampNeg + i) = some y → isE h y)
    (hframes : 1 ≤ R.frames) (hlocals : (rest.map fun v => v.category).sum + (nativeFrameWords "java/lang/System" "arraycopy" 5 + 11) ≤ R.locals) (hdg : decode cc pc = .ok (.invokestatic index, 3))
    (kk : ∀ (H1 : Heap) (locs1 : List Loc), wd g A s (wu h a (arO g n1 (va_cpy f f1 sp.toNatClampNeg dp.toNatClampNeg n.toNatClampNeg))) H1 locs1 → W p l e R s m args below meth c H1 locs1 cells slots Q (F0 m (pc + 3) ls rest)) : W p l e R s m args below meth c H locs cells slots Q (F0 m pc ls (.int n :: .int dp :: .ref a :: .int sp :: .ref a0 :: rest)) := by
  have hany : ∀ i : Nat, i < n.toNatClampNeg → ∀ y : Nat, f (sp.toNatClampNeg + i) = some y → va_Any "java/lang/Object" s H y := fun i hi y hy => w_any hw (hel i hi y hy)
  obtain ⟨hK, ⟨ws, hP, hD, hI⟩, hS, hA, hZ⟩ := hw
  obtain ⟨k0, hk0⟩ := List.mem_iff_getElem?.mp ((hI _ _).mp ha0)
  obtain ⟨k1, hk1⟩ := List.mem_iff_getElem?.mp ((hI _ _).mp ha1)
  exact va_copyM hx hb hml hown hlink hnat hstat hini hK hP hD hS k0 k1 0 0 hk0 hk1 rfl rfl h1 h2 h3 h4 h5 hany hframes hlocals hdg (fun H1 locs1 hP1 hD1 hS1 => kk H1 locs1 ⟨hK, ⟨_, hP1, hD1, wI_set hI hD hk1⟩, hS1, hA, hZ⟩)
end WB
