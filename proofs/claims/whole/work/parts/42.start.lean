/-! the law: its start -/
theorem in_L_law_0 : ∀ w ∈ u_ws RJx4a65c TJx4a65c 3, w ∈ wsL_law := by decide +kernel
theorem in_L_law_1 : ∀ w ∈ u_ws RX0 TX0 8, w ∈ wsL_law := by decide +kernel
theorem in_L_law_2 : ∀ w ∈ u_ws RX1 TX1 4, w ∈ wsL_law := by decide +kernel
theorem in_L_law_3 : ∀ w ∈ u_ws RX2 TX2 5, w ∈ wsL_law := by decide +kernel
theorem in_L_law_4 : ∀ w ∈ u_ws RX4 TX4 1, w ∈ wsL_law := by decide +kernel
theorem in_L_law_5 : ∀ w ∈ u_ws RX5 TX5 3, w ∈ wsL_law := by decide +kernel
theorem in_L_law_6 : ∀ w ∈ u_ws RX6 TX6 7, w ∈ wsL_law := by decide +kernel
theorem in_L_law_7 : ∀ w ∈ u_ws RX7 TX7 8, w ∈ wsL_law := by decide +kernel
theorem nwL_in : ∀ w ∈ nwL, w ∈ lw_tbl := by decide +kernel
set_option maxHeartbeats 4000000 in
theorem start_wd {s : State} {b : Nat} (hts0 : ∀ w ∈ lw_tbl, w.before #[Value.ref b] s = true) (hgv : (Jvm.Cond.and given_1 narrow_1).before #[Value.ref b] s = true) : ∃ g : GG, wd g (fun q : Nat => s.heap.size ≤ q) s (fun _ => none) s.heap [] := by
  have hts : ∀ w ∈ wsL_law, w.before #[Value.ref b] s = true := fun w z => hts0 w (wsL_law_in w z)
  have hs := flat_of_before _ hgv
  have hA0 : ∀ a : Nat, a < s.heap.size → ¬ (fun q : Nat => s.heap.size ≤ q) a := fun a h => Nat.not_le.mpr h
  obtain ⟨k0, i0, hk0⟩ := u_known (C := RJx4a65c) (T := TJx4a65c) (N := 3) (n := 3) hts in_L_law_0 (hts (.instantiable RJx4a65c 3) (by decide +kernel))
  obtain ⟨k1, i1, hk1⟩ := u_known (C := RX0) (T := TX0) (N := 8) (n := 8) hts in_L_law_1 (hts (.instantiable RX0 8) (by decide +kernel))
  obtain ⟨k2, i2, hk2⟩ := u_known (C := RX1) (T := TX1) (N := 4) (n := 4) hts in_L_law_2 (hts (.instantiable RX1 4) (by decide +kernel))
  obtain ⟨k3, i3, hk3⟩ := u_known (C := RX2) (T := TX2) (N := 5) (n := 5) hts in_L_law_3 (hts (.instantiable RX2 5) (by decide +kernel))
  obtain ⟨k4, i4, hk4⟩ := u_known (C := RX4) (T := TX4) (N := 1) (n := 1) hts in_L_law_4 (hts (.instantiable RX4 1) (by decide +kernel))
  obtain ⟨k5, i5, hk5⟩ := u_known (C := RX5) (T := TX5) (N := 3) (n := 3) hts in_L_law_5 (hts (.instantiable RX5 3) (by decide +kernel))
  obtain ⟨k6, i6, hk6⟩ := u_known (C := RX6) (T := TX6) (N := 7) (n := 7) hts in_L_law_6 (hts (.instantiable RX6 7) (by decide +kernel))
  obtain ⟨k7, i7, hk7⟩ := u_known (C := RX7) (T := TX7) (N := 8) (n := 8) hts in_L_law_7 (hts (.instantiable RX7 8) (by decide +kernel))
  obtain ⟨dC, dI, hKc⟩ : ∃ (dC : Nat → ClassId) (dI : Nat → Nat → Nat), ∀ (k : Nat) (q : vw_C), vwCl[k]? = some q → u_Kn s q.1 q.2.1 q.2.2 (dC k) (dI k) := by
    refine ⟨fun k => if k = 0 then k0 else if k = 1 then k1 else if k = 2 then k2 else if k = 3 then k3 else if k = 4 then k4 else if k = 5 then k5 else if k = 6 then k6 else k7, fun k => if k = 0 then i0 else if k = 1 then i1 else if k = 2 then i2 else if k = 3 then i3 else if k = 4 then i4 else if k = 5 then i5 else if k = 6 then i6 else i7, ?_⟩
    intro k q hq
    match k, hq with
    | 0, hq => cases hq; exact hk0
    | 1, hq => cases hq; exact hk1
    | 2, hq => cases hq; exact hk2
    | 3, hq => cases hq; exact hk3
    | 4, hq => cases hq; exact hk4
    | 5, hq => cases hq; exact hk5
    | 6, hq => cases hq; exact hk6
    | 7, hq => cases hq; exact hk7
    | k + 8, hq => simp [vwCl] at hq
  obtain ⟨compO, cO, kO, f1, f2, f3, f4, f5⟩ := Cond.arrayOver_spec (hts0 (.arrayOver (.object "java/lang/Object")) (by decide +kernel))
  obtain ⟨cI, kI, compI, j1, j2, j3⟩ := Cond.arrayClass_spec (hts0 (.arrayClass .int) (by decide +kernel))
  obtain ⟨zZ, hz1, hz2⟩ := va_Tof (tm := (.static "java/util/ArrayList" "DEFAULTCAPACITY_EMPTY_ELEMENTDATA" "[Ljava/lang/Object;")) (ty := (.object "java/lang/Object")) (N := 0) (f := fun _ => .null) (A := (fun q : Nat => s.heap.size ≤ q)) (by decide) (hs (.arrayOf (.static "java/util/ArrayList" "DEFAULTCAPACITY_EMPTY_ELEMENTDATA" "[Ljava/lang/Object;") (.object "java/lang/Object")) (by decide +kernel)) (va_eqt (hs (.eq (.length (.static "java/util/ArrayList" "DEFAULTCAPACITY_EMPTY_ELEMENTDATA" "[Ljava/lang/Object;")) (.int 0)) (by decide +kernel))) (fun j hj => absurd hj (Nat.not_lt_zero _)) hA0
  obtain ⟨zT, ht1, ht2⟩ := va_Tof (tm := (.static "LayoutDesk" "BASIC_BYTES" "[I")) (ty := .int) (N := 11) (f := fun j => .int (bbTab.getD j 0)) (A := (fun q : Nat => s.heap.size ≤ q)) (by decide) (hs (.arrayOf (.static "LayoutDesk" "BASIC_BYTES" "[I") .int) (by decide +kernel)) (va_eqt (hs (.eq (.length (.static "LayoutDesk" "BASIC_BYTES" "[I")) (.int 11)) (by decide +kernel))) (fun j hj => by
    rcases (show j = 0 ∨ j = 1 ∨ j = 2 ∨ j = 3 ∨ j = 4 ∨ j = 5 ∨ j = 6 ∨ j = 7 ∨ j = 8 ∨ j = 9 ∨ j = 10 by omega) with rfl | rfl | rfl | rfl | rfl | rfl | rfl | rfl | rfl | rfl | rfl
    · exact va_eqt (hs (.eq (.elem (.static "LayoutDesk" "BASIC_BYTES" "[I") (.int 0)) (.int 0)) (by decide +kernel))
    · exact va_eqt (hs (.eq (.elem (.static "LayoutDesk" "BASIC_BYTES" "[I") (.int 1)) (.int 1)) (by decide +kernel))
    · exact va_eqt (hs (.eq (.elem (.static "LayoutDesk" "BASIC_BYTES" "[I") (.int 2)) (.int 1)) (by decide +kernel))
    · exact va_eqt (hs (.eq (.elem (.static "LayoutDesk" "BASIC_BYTES" "[I") (.int 3)) (.int 2)) (by decide +kernel))
    · exact va_eqt (hs (.eq (.elem (.static "LayoutDesk" "BASIC_BYTES" "[I") (.int 4)) (.int 2)) (by decide +kernel))
    · exact va_eqt (hs (.eq (.elem (.static "LayoutDesk" "BASIC_BYTES" "[I") (.int 5)) (.int 4)) (by decide +kernel))
    · exact va_eqt (hs (.eq (.elem (.static "LayoutDesk" "BASIC_BYTES" "[I") (.int 6)) (.int 4)) (by decide +kernel))
    · exact va_eqt (hs (.eq (.elem (.static "LayoutDesk" "BASIC_BYTES" "[I") (.int 7)) (.int 8)) (by decide +kernel))
    · exact va_eqt (hs (.eq (.elem (.static "LayoutDesk" "BASIC_BYTES" "[I") (.int 8)) (.int 8)) (by decide +kernel))
    · exact va_eqt (hs (.eq (.elem (.static "LayoutDesk" "BASIC_BYTES" "[I") (.int 9)) (.int 4)) (by decide +kernel))
    · exact va_eqt (hs (.eq (.elem (.static "LayoutDesk" "BASIC_BYTES" "[I") (.int 10)) (.int 8)) (by decide +kernel))) hA0
  obtain ⟨mi, hmi⟩ := va_Mi.of (hs (.isRef (.mirror "[Ljava/lang/Object;")) (by decide +kernel))
  refine ⟨((dC, dI), cO, cI, zZ, zT, mi), ⟨hKc, fun k q hq => ?_⟩, ⟨[], fun k q h => by simp at h, ⟨fun i j p q h => by simp at h, fun k q h => by simp at h⟩, fun a e => ⟨fun z => (by cases z), fun z => (by cases z)⟩⟩, va_S.rf, fun _ h => h, ?_⟩
  · match k, hq with
    | 0, hq => cases hq; exact ⟨fun N z => ⟨(fun k h => by cases h), kO, f3, compO, f4⟩, kO, compO, f3, f4, f1, f5⟩
    | 1, hq => cases hq; exact ⟨fun N z => ⟨(fun k h => by cases h), kI, j2, compI, j3⟩, j1⟩
    | k + 2, hq => simp [tysG] at hq
  · exact ⟨va_Zref (hts0 (.laysStatic "java/util/ArrayList" "DEFAULTCAPACITY_EMPTY_ELEMENTDATA" "[Ljava/lang/Object;") (by decide +kernel)) (hts0 (.initialized "java/util/ArrayList") (by decide +kernel)) hz1 hA0, hz2, va_Zref (hts0 (.laysStatic "LayoutDesk" "BASIC_BYTES" "[I") (by decide +kernel)) (hts0 (.initialized "LayoutDesk") (by decide +kernel)) ht1 hA0, ht2, hmi, va_Dc.of (hts0 _ (show Cond.declares ⟨"java/lang/Object", "getClass", "()Ljava/lang/Class;"⟩ ∈ lw_tbl by decide +kernel)), va_AO.of (hts0 (.arrayOver (.object "java/lang/Object")) (by decide +kernel)), fun w hw => va_Nw.of (nw_on (nwL_is w hw)) (hts0 w (nwL_in w hw)), List.forall_mem_cons.mpr ⟨va_Nc.of (hs (.not (.castable "LayoutDesk$Compound" "LayoutDesk$Simple")) (by decide +kernel)), List.forall_mem_cons.mpr ⟨va_Nc.of (hs (.not (.castable "LayoutDesk$Simple" "LayoutDesk$Compound")) (by decide +kernel)), fun _ h => absurd h List.not_mem_nil⟩⟩⟩
set_option maxHeartbeats 4000000 in
set_option maxRecDepth 100000 in
theorem whole_start {p : Program} {e : Env} {s : State} {m : MethodId} {below : List Frame} {meth : Method} {c : Code} (l : Launch) {b L : Nat} {xs : Nat → Int32} (hL : L ≤ 2560) (C0 : lw_At p s m meth c b L xs) : W p l e room_1 s m #[Value.ref b] below meth c s.heap [] 0 0 (lw_Z below #[Value.ref b] s) (entryFrame m ([Value.ref b] : List Value).toArray 4) := by
  obtain ⟨hx, hb, hr, hml, hown, hts0, hX, hbl, hlocks, hgv⟩ := id C0
  have hts : ∀ w ∈ wsL_law, w.before #[Value.ref b] s = true := fun w z => hts0 w (wsL_law_in w z)
  have hown : s.vm.findClass RL = some m.cls := hown
  obtain ⟨g, hw⟩ := start_wd hts0 hgv
  have hl := lv_entry ([.ref b]) (n := 4) (Nat.le_of_ble_eq_true rfl)
  rw [lg_entry_eq]
  generalize (lg_sl ([.ref b]) ++ List.replicate (4 - (lg_sl ([.ref b])).length) Slot.unset).toArray = ls at hl ⊢
  have hl : lv_has ls 4 [(0, .ref b)] := hl
  refine w_new (ci := 4) (C := RX4) (T := TX4) (N := 1) (fs := [.null]) hx hb hts in_L_law_4 tyX4 tyX4_ok hown (hts (.classLink RL 7 RX4) (by decide +kernel)) (hts (.instantiable RX4 1) (by decide +kernel)) (hts (.initialized RX4) (by decide +kernel)) hw rfl (fun j hj => by rcases (show j = 0 by omega) with rfl <;> rfl) (Nat.le_of_ble_eq_true rfl) (Nat.le_of_ble_eq_true rfl) dL_law_0 (fun x H hxn hw => ?_)
  refine lv_dup hx hb dL_law_3 rfl ?_
  refine w_call (va_runI (As := []) (rest := [.ref x]) ⟨hx, hb, hml, hown, hts⟩ (c_Desk_init l g (wu (fun _ => none) x (.inr (4, [.null]))) x (wu_s _ _ _) H.size) (cwI 0 hts gL_law_X4_init rfl rfl rfl (hts (.initialized RX4) (by decide +kernel)) (hts (.methodLink RL 9 yX4_init) (by decide +kernel)) (hts (.instanceMethod yX4_init) (by decide +kernel)) rfl (by decide +kernel) ⟨Nat.le_of_ble_eq_true rfl, Nat.le_of_ble_eq_true rfl⟩) ⟨pr_blind, pr_of hw⟩ rfl rfl hl.1 rfl (lv_room (Nat.le_of_ble_eq_true rfl)) dL_law_4 ⟨Nat.le_of_ble_eq_true rfl, Nat.le_of_ble_eq_true rfl⟩) hw (fun v h H locs hp hw => ?_)
  obtain ⟨rfl, hD⟩ := hp
  refine W.eq (g2 := F0 m 7 ls [.ref x]) rfl ?_
  refine lv_astore_n (lv' := [(1, .ref x), (0, .ref b)]) hx hb dL_law_7 rfl hl (by decide) rfl (fun ls hl => ?_)
  refine w_new2 (ci := 7) (C := RX7) (T := TX7) (N := 8) (fs := [.null, .null, .null, .null, .null, .int 0, .int 0, .int 0]) hx hb hts in_L_law_7 tyX7 tyX7_ok hown (hts (.classLink RL 10 RX7) (by decide +kernel)) (hts (.instantiable RX7 8) (by decide +kernel)) (hts (.initialized RX7) (by decide +kernel)) hw rfl (fun j hj => by rcases (show j = 0 ∨ j = 1 ∨ j = 2 ∨ j = 3 ∨ j = 4 ∨ j = 5 ∨ j = 6 ∨ j = 7 by omega) with rfl | rfl | rfl | rfl | rfl | rfl | rfl | rfl <;> rfl) (Nat.le_of_ble_eq_true rfl) (Nat.le_of_ble_eq_true rfl) dL_law_8 (fun mo H hw => ?_)
  refine lv_dup hx hb dL_law_11 rfl ?_
  refine w_call2 (va_runI (As := []) (rest := [.ref mo]) ⟨hx, hb, hml, hown, hts⟩ (c_Model_init l g (wu (fun _ => none) mo (.inr (7, [.null, .null, .null, .null, .null, .int 0, .int 0, .int 0]))) mo (wu_s _ _ _) H.size) (cwI 0 hts gL_law_X7_init rfl rfl rfl (hts (.initialized RX7) (by decide +kernel)) (hts (.methodLink RL 12 yX7_init) (by decide +kernel)) (hts (.instanceMethod yX7_init) (by decide +kernel)) rfl (by decide +kernel) ⟨Nat.le_of_ble_eq_true rfl, Nat.le_of_ble_eq_true rfl⟩) ⟨pr_blind, pr_of hw.1⟩ rfl rfl hl.1 rfl (lv_room (Nat.le_of_ble_eq_true rfl)) dL_law_12 ⟨Nat.le_of_ble_eq_true rfl, Nat.le_of_ble_eq_true rfl⟩) hw (fun v k H locs hp hw => ?_)
  obtain ⟨rfl, hM⟩ := hp
  refine W.eq (g2 := F0 m 15 ls [.ref mo]) rfl ?_
  refine lv_astore_n (lv' := [(2, .ref mo), (1, .ref x), (0, .ref b)]) hx hb dL_law_15 rfl hl (by decide) rfl (fun ls hl => ?_)
  refine lv_iconst (v := 0) hx hb dL_law_16 (by decide) ?_
  refine lv_istore_n (lv' := [(3, .int 0), (2, .ref mo), (1, .ref x), (0, .ref b)]) hx hb dL_law_17 rfl hl (by decide) rfl (fun ls hl => ?_)
  exact W.widen (k := 64 + 6 * 0) (n := 18191 + 1700 * 0) (Nat.le_of_ble_eq_true rfl) (Nat.le_of_ble_eq_true rfl) (law_loop l hL C0 513 0 baseS h k H locs ls rfl (by decide) hD hM wfX_0 hw.swap hl)
