/-! the model: its constructor -/
theorem in_X7_init_0 : ∀ w ∈ u_ws RJx4a65c TJx4a65c 3, w ∈ wsX7_init := by decide +kernel
theorem in_X7_init_6 : ∀ w ∈ u_ws RX6 TX6 7, w ∈ wsX7_init := by decide +kernel
theorem in_X7_init_7 : ∀ w ∈ u_ws RX7 TX7 8, w ∈ wsX7_init := by decide +kernel
set_option maxHeartbeats 4000000 in
set_option maxRecDepth 100000 in
theorem c_Model_init (l : Launch) (g : GG) (h : Nat → Option va_E) (mo : Nat) (hx0 : h mo = some (.inr (7, [.null, .null, .null, .null, .null, .int 0, .int 0, .int 0]))) : Con l yX7_init wsX7_init 8 200 39 9324 [.ref mo] g h (fun v h' => v = none ∧ MR g h' mo baseS) := by
  refine m_start (cc := cX7_init) (maxL := 3) (ret := none) (by decide) rfl (Nat.le_of_ble_eq_true rfl) ?_
  intro p e s m below meth c A ls hx hb hr hml hts hown hlocks hin hw hl
  have hl : lv_has ls 3 [(0, .ref mo)] := hl
  have hown : s.vm.findClass RX7 = some m.cls := hown
  refine lv_aload_n hx hb dX7_init_0 rfl (lv_at hl 0 rfl) ?_
  refine W.objInit hx hb hown (hts (.methodLink RX7 1 objectInit) (by decide +kernel)) (hts (.instanceMethod objectInit) (by decide +kernel)) (hts _ (List.mem_of_getElem? (i := 3) rfl)) rfl (by rw [hml]; exact hl.1) rfl dX7_init_1 (Nat.le_of_ble_eq_true rfl) (Nat.le_of_ble_eq_true rfl) ?_
  refine W.eq (g2 := F0 m 4 ls []) rfl ?_
  refine lv_aload_n hx hb dX7_init_4 rfl (lv_at hl 0 rfl) ?_
  refine w_new (ci := 0) (C := RJx4a65c) (T := TJx4a65c) (N := 3) (fs := [.int 0, .null, .int 0]) hx hb hts in_X7_init_0 tyJx4a65c tyJx4a65c_ok hown (hts (.classLink RX7 7 RJx4a65c) (by decide +kernel)) (hts (.instantiable RJx4a65c 3) (by decide +kernel)) (hts (.initialized RJx4a65c) (by decide +kernel)) hw rfl (fun j hj => by rcases (show j = 0 ∨ j = 1 ∨ j = 2 by omega) with rfl | rfl | rfl <;> rfl) (Nat.le_of_ble_eq_true rfl) (Nat.le_of_ble_eq_true rfl) dX7_init_5 (fun kl H hkl hw => ?_)
  refine lv_dup hx hb dX7_init_8 rfl ?_
  refine w_call (va_runI (As := []) (rest := [.ref kl, .ref mo]) ⟨hx, hb, hml, hown, hts⟩ (c_AL_init l g (wu h kl (.inr (0, [.int 0, .null, .int 0]))) kl 0 0 .null (wu_s _ _ _) H.size) (cwI 0 hts gX7_init_Jx4a65c_init_da8c8 rfl rfl rfl (hts (.initialized RJx4a65c) (by decide +kernel)) (hts (.methodLink RX7 9 yJx4a65c_init_da8c8) (by decide +kernel)) (hts (.instanceMethod yJx4a65c_init_da8c8) (by decide +kernel)) rfl (by decide +kernel) ⟨Nat.le_of_ble_eq_true rfl, Nat.le_of_ble_eq_true rfl⟩) ⟨pr_blind, pr_of hw⟩ rfl rfl hl.1 rfl (lv_room (Nat.le_of_ble_eq_true rfl)) dX7_init_9 ⟨Nat.le_of_ble_eq_true rfl, Nat.le_of_ble_eq_true rfl⟩) hw (fun v h' H locs hp hw => ?_)
  obtain ⟨rfl, rfl⟩ := hp
  refine W.eq (g2 := F0 m 12 ls [.ref kl, .ref mo]) rfl ?_
  refine w_putF (ci := 7) (C := RX7) (T := TX7) (N := 8) (ref := "LayoutDeskModel") (ty := .object "java/util/ArrayList") (fs' := [.ref kl, .null, .null, .null, .null, .int 0, .int 0, .int 0]) hx hb hts in_X7_init_7 tyX7 tyX7_ok nmX7 hown hw ((wu_n (ne_n hx0 hkl)).trans ((wu_n (ne_n hx0 hkl)).trans hx0)) rfl 0 (by decide) (hts (.fieldLink RX7 10 "LayoutDeskModel" "types" "Ljava/util/ArrayList;") (by decide +kernel)) (fun _ h9 => h9) rfl hin rfl (by decide +kernel) rfl rfl (Nat.le_of_ble_eq_true rfl) rfl dX7_init_12 (fun H locs hw => ?_)
  refine lv_aload_n hx hb dX7_init_15 rfl (lv_at hl 0 rfl) ?_
  refine lv_bipush (v := 100) hx hb dX7_init_16 (by decide) ?_
  refine w_newi (N' := 100) hx hb (hts (.arrayClass .int) (by decide +kernel)) hw (by decide) (by decide) (by decide) (Nat.le_of_ble_eq_true rfl) (Nat.le_of_ble_eq_true rfl) dX7_init_18 (fun p1 H hp1 hw => ?_)
  refine w_putF (ci := 7) (C := RX7) (T := TX7) (N := 8) (ref := "LayoutDeskModel") (ty := .array .int) (fs' := [.ref kl, .ref p1, .null, .null, .null, .int 0, .int 0, .int 0]) hx hb hts in_X7_init_7 tyX7 tyX7_ok nmX7 hown hw ((wu_n (ne_n (wu_s _ _ _) hp1)).trans (wu_s _ _ _)) rfl 1 (by decide) (hts (.fieldLink RX7 16 "LayoutDeskModel" "places" "[I") (by decide +kernel)) (fun _ h9 => h9) rfl hin rfl (by decide +kernel) rfl rfl (Nat.le_of_ble_eq_true rfl) rfl dX7_init_20 (fun H locs hw => ?_)
  refine lv_aload_n hx hb dX7_init_23 rfl (lv_at hl 0 rfl) ?_
  refine lv_bipush (v := 100) hx hb dX7_init_24 (by decide) ?_
  refine w_newi (N' := 100) hx hb (hts (.arrayClass .int) (by decide +kernel)) hw (by decide) (by decide) (by decide) (Nat.le_of_ble_eq_true rfl) (Nat.le_of_ble_eq_true rfl) dX7_init_26 (fun p2 H hp2 hw => ?_)
  refine w_putF (ci := 7) (C := RX7) (T := TX7) (N := 8) (ref := "LayoutDeskModel") (ty := .array .int) (fs' := [.ref kl, .ref p1, .ref p2, .null, .null, .int 0, .int 0, .int 0]) hx hb hts in_X7_init_7 tyX7 tyX7_ok nmX7 hown hw ((wu_n (ne_n (wu_s _ _ _) hp2)).trans (wu_s _ _ _)) rfl 2 (by decide) (hts (.fieldLink RX7 20 "LayoutDeskModel" "kinds" "[I") (by decide +kernel)) (fun _ h9 => h9) rfl hin rfl (by decide +kernel) rfl rfl (Nat.le_of_ble_eq_true rfl) rfl dX7_init_28 (fun H locs hw => ?_)
  refine lv_aload_n hx hb dX7_init_31 rfl (lv_at hl 0 rfl) ?_
  refine lv_bipush (v := 100) hx hb dX7_init_32 (by decide) ?_
  refine w_newi (N' := 100) hx hb (hts (.arrayClass .int) (by decide +kernel)) hw (by decide) (by decide) (by decide) (Nat.le_of_ble_eq_true rfl) (Nat.le_of_ble_eq_true rfl) dX7_init_34 (fun p3 H hp3 hw => ?_)
  refine w_putF (ci := 7) (C := RX7) (T := TX7) (N := 8) (ref := "LayoutDeskModel") (ty := .array .int) (fs' := [.ref kl, .ref p1, .ref p2, .ref p3, .null, .int 0, .int 0, .int 0]) hx hb hts in_X7_init_7 tyX7 tyX7_ok nmX7 hown hw ((wu_n (ne_n (wu_s _ _ _) hp3)).trans (wu_s _ _ _)) rfl 3 (by decide) (hts (.fieldLink RX7 23 "LayoutDeskModel" "lows" "[I") (by decide +kernel)) (fun _ h9 => h9) rfl hin rfl (by decide +kernel) rfl rfl (Nat.le_of_ble_eq_true rfl) rfl dX7_init_36 (fun H locs hw => ?_)
  refine lv_aload_n hx hb dX7_init_39 rfl (lv_at hl 0 rfl) ?_
  refine lv_bipush (v := 100) hx hb dX7_init_40 (by decide) ?_
  refine w_newi (N' := 100) hx hb (hts (.arrayClass .int) (by decide +kernel)) hw (by decide) (by decide) (by decide) (Nat.le_of_ble_eq_true rfl) (Nat.le_of_ble_eq_true rfl) dX7_init_42 (fun p4 H hp4 hw => ?_)
  refine w_putF (ci := 7) (C := RX7) (T := TX7) (N := 8) (ref := "LayoutDeskModel") (ty := .array .int) (fs' := [.ref kl, .ref p1, .ref p2, .ref p3, .ref p4, .int 0, .int 0, .int 0]) hx hb hts in_X7_init_7 tyX7 tyX7_ok nmX7 hown hw ((wu_n (ne_n (wu_s _ _ _) hp4)).trans (wu_s _ _ _)) rfl 4 (by decide) (hts (.fieldLink RX7 26 "LayoutDeskModel" "widths" "[I") (by decide +kernel)) (fun _ h9 => h9) rfl hin rfl (by decide +kernel) rfl rfl (Nat.le_of_ble_eq_true rfl) rfl dX7_init_44 (fun H locs hw => ?_)
  have fmo : (wu (wu (wu (wu (wu (wu (wu (wu (wu (wu (wu h kl (.inr (0, [.int 0, .null, .int 0]))) kl (.inr (0, [.int 0, .ref (gZ g), .int 0]))) mo (.inr (7, [.ref kl, .null, .null, .null, .null, .int 0, .int 0, .int 0]))) p1 (arI g 100 (fun _ => 0))) mo (.inr (7, [.ref kl, .ref p1, .null, .null, .null, .int 0, .int 0, .int 0]))) p2 (arI g 100 (fun _ => 0))) mo (.inr (7, [.ref kl, .ref p1, .ref p2, .null, .null, .int 0, .int 0, .int 0]))) p3 (arI g 100 (fun _ => 0))) mo (.inr (7, [.ref kl, .ref p1, .ref p2, .ref p3, .null, .int 0, .int 0, .int 0]))) p4 (arI g 100 (fun _ => 0))) mo (.inr (7, [.ref kl, .ref p1, .ref p2, .ref p3, .ref p4, .int 0, .int 0, .int 0]))) mo = some (.inr (7, [.ref kl, .ref p1, .ref p2, .ref p3, .ref p4, .int 0, .int 0, .int 0])) := (wu_s _ _ _)
  have fkl : (wu (wu (wu (wu (wu (wu (wu (wu (wu (wu (wu h kl (.inr (0, [.int 0, .null, .int 0]))) kl (.inr (0, [.int 0, .ref (gZ g), .int 0]))) mo (.inr (7, [.ref kl, .null, .null, .null, .null, .int 0, .int 0, .int 0]))) p1 (arI g 100 (fun _ => 0))) mo (.inr (7, [.ref kl, .ref p1, .null, .null, .null, .int 0, .int 0, .int 0]))) p2 (arI g 100 (fun _ => 0))) mo (.inr (7, [.ref kl, .ref p1, .ref p2, .null, .null, .int 0, .int 0, .int 0]))) p3 (arI g 100 (fun _ => 0))) mo (.inr (7, [.ref kl, .ref p1, .ref p2, .ref p3, .null, .int 0, .int 0, .int 0]))) p4 (arI g 100 (fun _ => 0))) mo (.inr (7, [.ref kl, .ref p1, .ref p2, .ref p3, .ref p4, .int 0, .int 0, .int 0]))) kl = some (.inr (0, [.int 0, .ref (gZ g), .int 0])) := ((wu_n ((ne_n hx0 hkl)).symm).trans ((wu_n (ne_n ((wu_n ((ne_n hx0 hkl)).symm).trans ((wu_n (ne_n ((wu_n ((ne_n hx0 hkl)).symm).trans ((wu_n (ne_n ((wu_n ((ne_n hx0 hkl)).symm).trans ((wu_n (ne_n ((wu_n ((ne_n hx0 hkl)).symm).trans (wu_s _ _ _)) hp1)).trans ((wu_n ((ne_n hx0 hkl)).symm).trans (wu_s _ _ _)))) hp2)).trans ((wu_n ((ne_n hx0 hkl)).symm).trans ((wu_n (ne_n ((wu_n ((ne_n hx0 hkl)).symm).trans (wu_s _ _ _)) hp1)).trans ((wu_n ((ne_n hx0 hkl)).symm).trans (wu_s _ _ _)))))) hp3)).trans ((wu_n ((ne_n hx0 hkl)).symm).trans ((wu_n (ne_n ((wu_n ((ne_n hx0 hkl)).symm).trans ((wu_n (ne_n ((wu_n ((ne_n hx0 hkl)).symm).trans (wu_s _ _ _)) hp1)).trans ((wu_n ((ne_n hx0 hkl)).symm).trans (wu_s _ _ _)))) hp2)).trans ((wu_n ((ne_n hx0 hkl)).symm).trans ((wu_n (ne_n ((wu_n ((ne_n hx0 hkl)).symm).trans (wu_s _ _ _)) hp1)).trans ((wu_n ((ne_n hx0 hkl)).symm).trans (wu_s _ _ _)))))))) hp4)).trans ((wu_n ((ne_n hx0 hkl)).symm).trans ((wu_n (ne_n ((wu_n ((ne_n hx0 hkl)).symm).trans ((wu_n (ne_n ((wu_n ((ne_n hx0 hkl)).symm).trans ((wu_n (ne_n ((wu_n ((ne_n hx0 hkl)).symm).trans (wu_s _ _ _)) hp1)).trans ((wu_n ((ne_n hx0 hkl)).symm).trans (wu_s _ _ _)))) hp2)).trans ((wu_n ((ne_n hx0 hkl)).symm).trans ((wu_n (ne_n ((wu_n ((ne_n hx0 hkl)).symm).trans (wu_s _ _ _)) hp1)).trans ((wu_n ((ne_n hx0 hkl)).symm).trans (wu_s _ _ _)))))) hp3)).trans ((wu_n ((ne_n hx0 hkl)).symm).trans ((wu_n (ne_n ((wu_n ((ne_n hx0 hkl)).symm).trans ((wu_n (ne_n ((wu_n ((ne_n hx0 hkl)).symm).trans (wu_s _ _ _)) hp1)).trans ((wu_n ((ne_n hx0 hkl)).symm).trans (wu_s _ _ _)))) hp2)).trans ((wu_n ((ne_n hx0 hkl)).symm).trans ((wu_n (ne_n ((wu_n ((ne_n hx0 hkl)).symm).trans (wu_s _ _ _)) hp1)).trans ((wu_n ((ne_n hx0 hkl)).symm).trans (wu_s _ _ _))))))))))
  have fp1 : (wu (wu (wu (wu (wu (wu (wu (wu (wu (wu (wu h kl (.inr (0, [.int 0, .null, .int 0]))) kl (.inr (0, [.int 0, .ref (gZ g), .int 0]))) mo (.inr (7, [.ref kl, .null, .null, .null, .null, .int 0, .int 0, .int 0]))) p1 (arI g 100 (fun _ => 0))) mo (.inr (7, [.ref kl, .ref p1, .null, .null, .null, .int 0, .int 0, .int 0]))) p2 (arI g 100 (fun _ => 0))) mo (.inr (7, [.ref kl, .ref p1, .ref p2, .null, .null, .int 0, .int 0, .int 0]))) p3 (arI g 100 (fun _ => 0))) mo (.inr (7, [.ref kl, .ref p1, .ref p2, .ref p3, .null, .int 0, .int 0, .int 0]))) p4 (arI g 100 (fun _ => 0))) mo (.inr (7, [.ref kl, .ref p1, .ref p2, .ref p3, .ref p4, .int 0, .int 0, .int 0]))) p1 = some (arI g 100 (fun _ => 0)) := ((wu_n ((ne_n (wu_s _ _ _) hp1)).symm).trans ((wu_n (ne_n ((wu_n ((ne_n (wu_s _ _ _) hp1)).symm).trans ((wu_n (ne_n ((wu_n ((ne_n (wu_s _ _ _) hp1)).symm).trans ((wu_n (ne_n ((wu_n ((ne_n (wu_s _ _ _) hp1)).symm).trans (wu_s _ _ _)) hp2)).trans ((wu_n ((ne_n (wu_s _ _ _) hp1)).symm).trans (wu_s _ _ _)))) hp3)).trans ((wu_n ((ne_n (wu_s _ _ _) hp1)).symm).trans ((wu_n (ne_n ((wu_n ((ne_n (wu_s _ _ _) hp1)).symm).trans (wu_s _ _ _)) hp2)).trans ((wu_n ((ne_n (wu_s _ _ _) hp1)).symm).trans (wu_s _ _ _)))))) hp4)).trans ((wu_n ((ne_n (wu_s _ _ _) hp1)).symm).trans ((wu_n (ne_n ((wu_n ((ne_n (wu_s _ _ _) hp1)).symm).trans ((wu_n (ne_n ((wu_n ((ne_n (wu_s _ _ _) hp1)).symm).trans (wu_s _ _ _)) hp2)).trans ((wu_n ((ne_n (wu_s _ _ _) hp1)).symm).trans (wu_s _ _ _)))) hp3)).trans ((wu_n ((ne_n (wu_s _ _ _) hp1)).symm).trans ((wu_n (ne_n ((wu_n ((ne_n (wu_s _ _ _) hp1)).symm).trans (wu_s _ _ _)) hp2)).trans ((wu_n ((ne_n (wu_s _ _ _) hp1)).symm).trans (wu_s _ _ _))))))))
  have fp2 : (wu (wu (wu (wu (wu (wu (wu (wu (wu (wu (wu h kl (.inr (0, [.int 0, .null, .int 0]))) kl (.inr (0, [.int 0, .ref (gZ g), .int 0]))) mo (.inr (7, [.ref kl, .null, .null, .null, .null, .int 0, .int 0, .int 0]))) p1 (arI g 100 (fun _ => 0))) mo (.inr (7, [.ref kl, .ref p1, .null, .null, .null, .int 0, .int 0, .int 0]))) p2 (arI g 100 (fun _ => 0))) mo (.inr (7, [.ref kl, .ref p1, .ref p2, .null, .null, .int 0, .int 0, .int 0]))) p3 (arI g 100 (fun _ => 0))) mo (.inr (7, [.ref kl, .ref p1, .ref p2, .ref p3, .null, .int 0, .int 0, .int 0]))) p4 (arI g 100 (fun _ => 0))) mo (.inr (7, [.ref kl, .ref p1, .ref p2, .ref p3, .ref p4, .int 0, .int 0, .int 0]))) p2 = some (arI g 100 (fun _ => 0)) := ((wu_n ((ne_n (wu_s _ _ _) hp2)).symm).trans ((wu_n (ne_n ((wu_n ((ne_n (wu_s _ _ _) hp2)).symm).trans ((wu_n (ne_n ((wu_n ((ne_n (wu_s _ _ _) hp2)).symm).trans (wu_s _ _ _)) hp3)).trans ((wu_n ((ne_n (wu_s _ _ _) hp2)).symm).trans (wu_s _ _ _)))) hp4)).trans ((wu_n ((ne_n (wu_s _ _ _) hp2)).symm).trans ((wu_n (ne_n ((wu_n ((ne_n (wu_s _ _ _) hp2)).symm).trans (wu_s _ _ _)) hp3)).trans ((wu_n ((ne_n (wu_s _ _ _) hp2)).symm).trans (wu_s _ _ _))))))
  have fp3 : (wu (wu (wu (wu (wu (wu (wu (wu (wu (wu (wu h kl (.inr (0, [.int 0, .null, .int 0]))) kl (.inr (0, [.int 0, .ref (gZ g), .int 0]))) mo (.inr (7, [.ref kl, .null, .null, .null, .null, .int 0, .int 0, .int 0]))) p1 (arI g 100 (fun _ => 0))) mo (.inr (7, [.ref kl, .ref p1, .null, .null, .null, .int 0, .int 0, .int 0]))) p2 (arI g 100 (fun _ => 0))) mo (.inr (7, [.ref kl, .ref p1, .ref p2, .null, .null, .int 0, .int 0, .int 0]))) p3 (arI g 100 (fun _ => 0))) mo (.inr (7, [.ref kl, .ref p1, .ref p2, .ref p3, .null, .int 0, .int 0, .int 0]))) p4 (arI g 100 (fun _ => 0))) mo (.inr (7, [.ref kl, .ref p1, .ref p2, .ref p3, .ref p4, .int 0, .int 0, .int 0]))) p3 = some (arI g 100 (fun _ => 0)) := ((wu_n ((ne_n (wu_s _ _ _) hp3)).symm).trans ((wu_n (ne_n ((wu_n ((ne_n (wu_s _ _ _) hp3)).symm).trans (wu_s _ _ _)) hp4)).trans ((wu_n ((ne_n (wu_s _ _ _) hp3)).symm).trans (wu_s _ _ _))))
  have fp4 : (wu (wu (wu (wu (wu (wu (wu (wu (wu (wu (wu h kl (.inr (0, [.int 0, .null, .int 0]))) kl (.inr (0, [.int 0, .ref (gZ g), .int 0]))) mo (.inr (7, [.ref kl, .null, .null, .null, .null, .int 0, .int 0, .int 0]))) p1 (arI g 100 (fun _ => 0))) mo (.inr (7, [.ref kl, .ref p1, .null, .null, .null, .int 0, .int 0, .int 0]))) p2 (arI g 100 (fun _ => 0))) mo (.inr (7, [.ref kl, .ref p1, .ref p2, .null, .null, .int 0, .int 0, .int 0]))) p3 (arI g 100 (fun _ => 0))) mo (.inr (7, [.ref kl, .ref p1, .ref p2, .ref p3, .null, .int 0, .int 0, .int 0]))) p4 (arI g 100 (fun _ => 0))) mo (.inr (7, [.ref kl, .ref p1, .ref p2, .ref p3, .ref p4, .int 0, .int 0, .int 0]))) p4 = some (arI g 100 (fun _ => 0)) := ((wu_n ((ne_n (wu_s _ _ _) hp4)).symm).trans (wu_s _ _ _))
  generalize (wu (wu (wu (wu (wu (wu (wu (wu (wu (wu (wu h kl (.inr (0, [.int 0, .null, .int 0]))) kl (.inr (0, [.int 0, .ref (gZ g), .int 0]))) mo (.inr (7, [.ref kl, .null, .null, .null, .null, .int 0, .int 0, .int 0]))) p1 (arI g 100 (fun _ => 0))) mo (.inr (7, [.ref kl, .ref p1, .null, .null, .null, .int 0, .int 0, .int 0]))) p2 (arI g 100 (fun _ => 0))) mo (.inr (7, [.ref kl, .ref p1, .ref p2, .null, .null, .int 0, .int 0, .int 0]))) p3 (arI g 100 (fun _ => 0))) mo (.inr (7, [.ref kl, .ref p1, .ref p2, .ref p3, .null, .int 0, .int 0, .int 0]))) p4 (arI g 100 (fun _ => 0))) mo (.inr (7, [.ref kl, .ref p1, .ref p2, .ref p3, .ref p4, .int 0, .int 0, .int 0]))) = h1 at hw fmo fkl fp1 fp2 fp3 fp4
  refine lv_bipush (v := 11) hx hb dX7_init_47 (by decide) ?_
  refine w_newi (N' := 11) hx hb (hts (.arrayClass .int) (by decide +kernel)) hw (by decide) (by decide) (by decide) (Nat.le_of_ble_eq_true rfl) (Nat.le_of_ble_eq_true rfl) dX7_init_49 (fun sz H hszn hw => ?_)
  refine lv_dup hx hb dX7_init_51 rfl ?_
  refine lv_iconst (v := 0) hx hb dX7_init_52 (by decide) ?_
  refine lv_iconst (v := 0) hx hb dX7_init_53 (by decide) ?_
  refine w_iast hx hb hw (wu_s _ _ _) (by unfold vp_in; decide) dX7_init_54 (fun H locs hw => ?_)
  refine lv_dup hx hb dX7_init_55 rfl ?_
  refine lv_iconst (v := 1) hx hb dX7_init_56 (by decide) ?_
  refine lv_iconst (v := 1) hx hb dX7_init_57 (by decide) ?_
  refine w_iast hx hb hw (wu_s _ _ _) (by unfold vp_in; decide) dX7_init_58 (fun H locs hw => ?_)
  refine lv_dup hx hb dX7_init_59 rfl ?_
  refine lv_iconst (v := 2) hx hb dX7_init_60 (by decide) ?_
  refine lv_iconst (v := 1) hx hb dX7_init_61 (by decide) ?_
  refine w_iast hx hb hw (wu_s _ _ _) (by unfold vp_in; decide) dX7_init_62 (fun H locs hw => ?_)
  refine lv_dup hx hb dX7_init_63 rfl ?_
  refine lv_iconst (v := 3) hx hb dX7_init_64 (by decide) ?_
  refine lv_iconst (v := 2) hx hb dX7_init_65 (by decide) ?_
  refine w_iast hx hb hw (wu_s _ _ _) (by unfold vp_in; decide) dX7_init_66 (fun H locs hw => ?_)
  refine lv_dup hx hb dX7_init_67 rfl ?_
  refine lv_iconst (v := 4) hx hb dX7_init_68 (by decide) ?_
  refine lv_iconst (v := 2) hx hb dX7_init_69 (by decide) ?_
  refine w_iast hx hb hw (wu_s _ _ _) (by unfold vp_in; decide) dX7_init_70 (fun H locs hw => ?_)
  refine lv_dup hx hb dX7_init_71 rfl ?_
  refine lv_iconst (v := 5) hx hb dX7_init_72 (by decide) ?_
  refine lv_iconst (v := 4) hx hb dX7_init_73 (by decide) ?_
  refine w_iast hx hb hw (wu_s _ _ _) (by unfold vp_in; decide) dX7_init_74 (fun H locs hw => ?_)
  refine lv_dup hx hb dX7_init_75 rfl ?_
  refine lv_bipush (v := 6) hx hb dX7_init_76 (by decide) ?_
  refine lv_iconst (v := 4) hx hb dX7_init_78 (by decide) ?_
  refine w_iast hx hb hw (wu_s _ _ _) (by unfold vp_in; decide) dX7_init_79 (fun H locs hw => ?_)
  refine lv_dup hx hb dX7_init_80 rfl ?_
  refine lv_bipush (v := 7) hx hb dX7_init_81 (by decide) ?_
  refine lv_bipush (v := 8) hx hb dX7_init_83 (by decide) ?_
  refine w_iast hx hb hw (wu_s _ _ _) (by unfold vp_in; decide) dX7_init_85 (fun H locs hw => ?_)
  refine lv_dup hx hb dX7_init_86 rfl ?_
  refine lv_bipush (v := 8) hx hb dX7_init_87 (by decide) ?_
  refine lv_bipush (v := 8) hx hb dX7_init_89 (by decide) ?_
  refine w_iast hx hb hw (wu_s _ _ _) (by unfold vp_in; decide) dX7_init_91 (fun H locs hw => ?_)
  refine lv_dup hx hb dX7_init_92 rfl ?_
  refine lv_bipush (v := 9) hx hb dX7_init_93 (by decide) ?_
  refine lv_iconst (v := 4) hx hb dX7_init_95 (by decide) ?_
  refine w_iast hx hb hw (wu_s _ _ _) (by unfold vp_in; decide) dX7_init_96 (fun H locs hw => ?_)
  refine lv_dup hx hb dX7_init_97 rfl ?_
  refine lv_bipush (v := 10) hx hb dX7_init_98 (by decide) ?_
  refine lv_bipush (v := 8) hx hb dX7_init_100 (by decide) ?_
  refine w_iast hx hb hw (wu_s _ _ _) (by unfold vp_in; decide) dX7_init_102 (fun H locs hw => ?_)
  refine lv_astore_n (lv' := [(1, .ref sz), (0, .ref mo)]) hx hb dX7_init_103 rfl hl (by decide) rfl (fun ls hl => ?_)
  refine lv_iconst (v := 0) hx hb dX7_init_104 (by decide) ?_
  refine lv_istore_n (lv' := [(2, .int 0), (1, .ref sz), (0, .ref mo)]) hx hb dX7_init_105 rfl hl (by decide) rfl (fun ls hl => ?_)
  obtain ⟨F9, hsz, eF0, eF1, eF2, eF3, eF4, eF5, eF6, eF7, eF8, eF9, eF10⟩ : ∃ F : Nat → Int32, (wu (wu (wu (wu (wu (wu (wu (wu (wu (wu (wu (wu h1 sz (arI g 11 (fun _ => 0))) sz (arI g 11 (upd (fun _ => 0) (0 : Int32).toNatClampNeg 0))) sz (arI g 11 (upd (upd (fun _ => 0) (0 : Int32).toNatClampNeg 0) (1 : Int32).toNatClampNeg 1))) sz (arI g 11 (upd (upd (upd (fun _ => 0) (0 : Int32).toNatClampNeg 0) (1 : Int32).toNatClampNeg 1) (2 : Int32).toNatClampNeg 1))) sz (arI g 11 (upd (upd (upd (upd (fun _ => 0) (0 : Int32).toNatClampNeg 0) (1 : Int32).toNatClampNeg 1) (2 : Int32).toNatClampNeg 1) (3 : Int32).toNatClampNeg 2))) sz (arI g 11 (upd (upd (upd (upd (upd (fun _ => 0) (0 : Int32).toNatClampNeg 0) (1 : Int32).toNatClampNeg 1) (2 : Int32).toNatClampNeg 1) (3 : Int32).toNatClampNeg 2) (4 : Int32).toNatClampNeg 2))) sz (arI g 11 (upd (upd (upd (upd (upd (upd (fun _ => 0) (0 : Int32).toNatClampNeg 0) (1 : Int32).toNatClampNeg 1) (2 : Int32).toNatClampNeg 1) (3 : Int32).toNatClampNeg 2) (4 : Int32).toNatClampNeg 2) (5 : Int32).toNatClampNeg 4))) sz (arI g 11 (upd (upd (upd (upd (upd (upd (upd (fun _ => 0) (0 : Int32).toNatClampNeg 0) (1 : Int32).toNatClampNeg 1) (2 : Int32).toNatClampNeg 1) (3 : Int32).toNatClampNeg 2) (4 : Int32).toNatClampNeg 2) (5 : Int32).toNatClampNeg 4) (6 : Int32).toNatClampNeg 4))) sz (arI g 11 (upd (upd (upd (upd (upd (upd (upd (upd (fun _ => 0) (0 : Int32).toNatClampNeg 0) (1 : Int32).toNatClampNeg 1) (2 : Int32).toNatClampNeg 1) (3 : Int32).toNatClampNeg 2) (4 : Int32).toNatClampNeg 2) (5 : Int32).toNatClampNeg 4) (6 : Int32).toNatClampNeg 4) (7 : Int32).toNatClampNeg 8))) sz (arI g 11 (upd (upd (upd (upd (upd (upd (upd (upd (upd (fun _ => 0) (0 : Int32).toNatClampNeg 0) (1 : Int32).toNatClampNeg 1) (2 : Int32).toNatClampNeg 1) (3 : Int32).toNatClampNeg 2) (4 : Int32).toNatClampNeg 2) (5 : Int32).toNatClampNeg 4) (6 : Int32).toNatClampNeg 4) (7 : Int32).toNatClampNeg 8) (8 : Int32).toNatClampNeg 8))) sz (arI g 11 (upd (upd (upd (upd (upd (upd (upd (upd (upd (upd (fun _ => 0) (0 : Int32).toNatClampNeg 0) (1 : Int32).toNatClampNeg 1) (2 : Int32).toNatClampNeg 1) (3 : Int32).toNatClampNeg 2) (4 : Int32).toNatClampNeg 2) (5 : Int32).toNatClampNeg 4) (6 : Int32).toNatClampNeg 4) (7 : Int32).toNatClampNeg 8) (8 : Int32).toNatClampNeg 8) (9 : Int32).toNatClampNeg 4))) sz (arI g 11 (upd (upd (upd (upd (upd (upd (upd (upd (upd (upd (upd (fun _ => 0) (0 : Int32).toNatClampNeg 0) (1 : Int32).toNatClampNeg 1) (2 : Int32).toNatClampNeg 1) (3 : Int32).toNatClampNeg 2) (4 : Int32).toNatClampNeg 2) (5 : Int32).toNatClampNeg 4) (6 : Int32).toNatClampNeg 4) (7 : Int32).toNatClampNeg 8) (8 : Int32).toNatClampNeg 8) (9 : Int32).toNatClampNeg 4) (10 : Int32).toNatClampNeg 8))) sz = some (arI g 11 F) ∧ F (0 : Int32).toNatClampNeg = 0 ∧ F (1 : Int32).toNatClampNeg = 1 ∧ F (2 : Int32).toNatClampNeg = 1 ∧ F (3 : Int32).toNatClampNeg = 2 ∧ F (4 : Int32).toNatClampNeg = 2 ∧ F (5 : Int32).toNatClampNeg = 4 ∧ F (6 : Int32).toNatClampNeg = 4 ∧ F (7 : Int32).toNatClampNeg = 8 ∧ F (8 : Int32).toNatClampNeg = 8 ∧ F (9 : Int32).toNatClampNeg = 4 ∧ F (10 : Int32).toNatClampNeg = 8 := ⟨_, wu_s _ _ _, by decide, by decide, by decide, by decide, by decide, by decide, by decide, by decide, by decide, by decide, by decide⟩
  have hR : MR0 g (wu (wu (wu (wu (wu (wu (wu (wu (wu (wu (wu (wu h1 sz (arI g 11 (fun _ => 0))) sz (arI g 11 (upd (fun _ => 0) (0 : Int32).toNatClampNeg 0))) sz (arI g 11 (upd (upd (fun _ => 0) (0 : Int32).toNatClampNeg 0) (1 : Int32).toNatClampNeg 1))) sz (arI g 11 (upd (upd (upd (fun _ => 0) (0 : Int32).toNatClampNeg 0) (1 : Int32).toNatClampNeg 1) (2 : Int32).toNatClampNeg 1))) sz (arI g 11 (upd (upd (upd (upd (fun _ => 0) (0 : Int32).toNatClampNeg 0) (1 : Int32).toNatClampNeg 1) (2 : Int32).toNatClampNeg 1) (3 : Int32).toNatClampNeg 2))) sz (arI g 11 (upd (upd (upd (upd (upd (fun _ => 0) (0 : Int32).toNatClampNeg 0) (1 : Int32).toNatClampNeg 1) (2 : Int32).toNatClampNeg 1) (3 : Int32).toNatClampNeg 2) (4 : Int32).toNatClampNeg 2))) sz (arI g 11 (upd (upd (upd (upd (upd (upd (fun _ => 0) (0 : Int32).toNatClampNeg 0) (1 : Int32).toNatClampNeg 1) (2 : Int32).toNatClampNeg 1) (3 : Int32).toNatClampNeg 2) (4 : Int32).toNatClampNeg 2) (5 : Int32).toNatClampNeg 4))) sz (arI g 11 (upd (upd (upd (upd (upd (upd (upd (fun _ => 0) (0 : Int32).toNatClampNeg 0) (1 : Int32).toNatClampNeg 1) (2 : Int32).toNatClampNeg 1) (3 : Int32).toNatClampNeg 2) (4 : Int32).toNatClampNeg 2) (5 : Int32).toNatClampNeg 4) (6 : Int32).toNatClampNeg 4))) sz (arI g 11 (upd (upd (upd (upd (upd (upd (upd (upd (fun _ => 0) (0 : Int32).toNatClampNeg 0) (1 : Int32).toNatClampNeg 1) (2 : Int32).toNatClampNeg 1) (3 : Int32).toNatClampNeg 2) (4 : Int32).toNatClampNeg 2) (5 : Int32).toNatClampNeg 4) (6 : Int32).toNatClampNeg 4) (7 : Int32).toNatClampNeg 8))) sz (arI g 11 (upd (upd (upd (upd (upd (upd (upd (upd (upd (fun _ => 0) (0 : Int32).toNatClampNeg 0) (1 : Int32).toNatClampNeg 1) (2 : Int32).toNatClampNeg 1) (3 : Int32).toNatClampNeg 2) (4 : Int32).toNatClampNeg 2) (5 : Int32).toNatClampNeg 4) (6 : Int32).toNatClampNeg 4) (7 : Int32).toNatClampNeg 8) (8 : Int32).toNatClampNeg 8))) sz (arI g 11 (upd (upd (upd (upd (upd (upd (upd (upd (upd (upd (fun _ => 0) (0 : Int32).toNatClampNeg 0) (1 : Int32).toNatClampNeg 1) (2 : Int32).toNatClampNeg 1) (3 : Int32).toNatClampNeg 2) (4 : Int32).toNatClampNeg 2) (5 : Int32).toNatClampNeg 4) (6 : Int32).toNatClampNeg 4) (7 : Int32).toNatClampNeg 8) (8 : Int32).toNatClampNeg 8) (9 : Int32).toNatClampNeg 4))) sz (arI g 11 (upd (upd (upd (upd (upd (upd (upd (upd (upd (upd (upd (fun _ => 0) (0 : Int32).toNatClampNeg 0) (1 : Int32).toNatClampNeg 1) (2 : Int32).toNatClampNeg 1) (3 : Int32).toNatClampNeg 2) (4 : Int32).toNatClampNeg 2) (5 : Int32).toNatClampNeg 4) (6 : Int32).toNatClampNeg 4) (7 : Int32).toNatClampNeg 8) (8 : Int32).toNatClampNeg 8) (9 : Int32).toNatClampNeg 4) (10 : Int32).toNatClampNeg 8))) mo (baseS.take 0) kl (gZ g) [] (fun _ => 0) (fun _ => 0) (fun _ => []) (p1, p2, p3, p4) := ⟨⟨0, 0, 0, ((wu_n (ne_n fmo hszn)).trans ((wu_n (ne_n fmo hszn)).trans ((wu_n (ne_n fmo hszn)).trans ((wu_n (ne_n fmo hszn)).trans ((wu_n (ne_n fmo hszn)).trans ((wu_n (ne_n fmo hszn)).trans ((wu_n (ne_n fmo hszn)).trans ((wu_n (ne_n fmo hszn)).trans ((wu_n (ne_n fmo hszn)).trans ((wu_n (ne_n fmo hszn)).trans ((wu_n (ne_n fmo hszn)).trans ((wu_n (ne_n fmo hszn)).trans fmo))))))))))))⟩, ⟨_, _, _, _, ((wu_n (ne_n fp1 hszn)).trans ((wu_n (ne_n fp1 hszn)).trans ((wu_n (ne_n fp1 hszn)).trans ((wu_n (ne_n fp1 hszn)).trans ((wu_n (ne_n fp1 hszn)).trans ((wu_n (ne_n fp1 hszn)).trans ((wu_n (ne_n fp1 hszn)).trans ((wu_n (ne_n fp1 hszn)).trans ((wu_n (ne_n fp1 hszn)).trans ((wu_n (ne_n fp1 hszn)).trans ((wu_n (ne_n fp1 hszn)).trans ((wu_n (ne_n fp1 hszn)).trans fp1)))))))))))), ((wu_n (ne_n fp2 hszn)).trans ((wu_n (ne_n fp2 hszn)).trans ((wu_n (ne_n fp2 hszn)).trans ((wu_n (ne_n fp2 hszn)).trans ((wu_n (ne_n fp2 hszn)).trans ((wu_n (ne_n fp2 hszn)).trans ((wu_n (ne_n fp2 hszn)).trans ((wu_n (ne_n fp2 hszn)).trans ((wu_n (ne_n fp2 hszn)).trans ((wu_n (ne_n fp2 hszn)).trans ((wu_n (ne_n fp2 hszn)).trans ((wu_n (ne_n fp2 hszn)).trans fp2)))))))))))), ((wu_n (ne_n fp3 hszn)).trans ((wu_n (ne_n fp3 hszn)).trans ((wu_n (ne_n fp3 hszn)).trans ((wu_n (ne_n fp3 hszn)).trans ((wu_n (ne_n fp3 hszn)).trans ((wu_n (ne_n fp3 hszn)).trans ((wu_n (ne_n fp3 hszn)).trans ((wu_n (ne_n fp3 hszn)).trans ((wu_n (ne_n fp3 hszn)).trans ((wu_n (ne_n fp3 hszn)).trans ((wu_n (ne_n fp3 hszn)).trans ((wu_n (ne_n fp3 hszn)).trans fp3)))))))))))), ((wu_n (ne_n fp4 hszn)).trans ((wu_n (ne_n fp4 hszn)).trans ((wu_n (ne_n fp4 hszn)).trans ((wu_n (ne_n fp4 hszn)).trans ((wu_n (ne_n fp4 hszn)).trans ((wu_n (ne_n fp4 hszn)).trans ((wu_n (ne_n fp4 hszn)).trans ((wu_n (ne_n fp4 hszn)).trans ((wu_n (ne_n fp4 hszn)).trans ((wu_n (ne_n fp4 hszn)).trans ((wu_n (ne_n fp4 hszn)).trans ((wu_n (ne_n fp4 hszn)).trans fp4))))))))))))⟩, ⟨(ne_n ((wu_n ((ne_n (wu_s _ _ _) hp1)).symm).trans (wu_s _ _ _)) hp2), (ne_n ((wu_n ((ne_n (wu_s _ _ _) hp1)).symm).trans ((wu_n (ne_n ((wu_n ((ne_n (wu_s _ _ _) hp1)).symm).trans (wu_s _ _ _)) hp2)).trans ((wu_n ((ne_n (wu_s _ _ _) hp1)).symm).trans (wu_s _ _ _)))) hp3), (ne_n ((wu_n ((ne_n (wu_s _ _ _) hp1)).symm).trans ((wu_n (ne_n ((wu_n ((ne_n (wu_s _ _ _) hp1)).symm).trans ((wu_n (ne_n ((wu_n ((ne_n (wu_s _ _ _) hp1)).symm).trans (wu_s _ _ _)) hp2)).trans ((wu_n ((ne_n (wu_s _ _ _) hp1)).symm).trans (wu_s _ _ _)))) hp3)).trans ((wu_n ((ne_n (wu_s _ _ _) hp1)).symm).trans ((wu_n (ne_n ((wu_n ((ne_n (wu_s _ _ _) hp1)).symm).trans (wu_s _ _ _)) hp2)).trans ((wu_n ((ne_n (wu_s _ _ _) hp1)).symm).trans (wu_s _ _ _)))))) hp4), (ne_n ((wu_n ((ne_n (wu_s _ _ _) hp2)).symm).trans (wu_s _ _ _)) hp3), (ne_n ((wu_n ((ne_n (wu_s _ _ _) hp2)).symm).trans ((wu_n (ne_n ((wu_n ((ne_n (wu_s _ _ _) hp2)).symm).trans (wu_s _ _ _)) hp3)).trans ((wu_n ((ne_n (wu_s _ _ _) hp2)).symm).trans (wu_s _ _ _)))) hp4), (ne_n ((wu_n ((ne_n (wu_s _ _ _) hp3)).symm).trans (wu_s _ _ _)) hp4)⟩, w_z hw, ⟨⟨⟨0, ((wu_n (ne_n fkl hszn)).trans ((wu_n (ne_n fkl hszn)).trans ((wu_n (ne_n fkl hszn)).trans ((wu_n (ne_n fkl hszn)).trans ((wu_n (ne_n fkl hszn)).trans ((wu_n (ne_n fkl hszn)).trans ((wu_n (ne_n fkl hszn)).trans ((wu_n (ne_n fkl hszn)).trans ((wu_n (ne_n fkl hszn)).trans ((wu_n (ne_n fkl hszn)).trans ((wu_n (ne_n fkl hszn)).trans ((wu_n (ne_n fkl hszn)).trans fkl))))))))))))⟩, fun z hz => (by cases hz), Or.inr ⟨rfl, w_z hw, rfl⟩⟩, List.nodup_nil, fun k hk => absurd hk (Nat.not_lt_zero _), fun j k hj => absurd hj (Nat.not_lt_zero _)⟩, rfl, fun k T a hk => (by cases hk)⟩
  obtain ⟨ka, ty, al, aa, ab, hR⟩ : ∃ (ka : Nat) (ty : List Nat) (al aa : Nat → Nat) (ab : Nat → List Nat), MR0 g (wu (wu (wu (wu (wu (wu (wu (wu (wu (wu (wu (wu h1 sz (arI g 11 (fun _ => 0))) sz (arI g 11 (upd (fun _ => 0) (0 : Int32).toNatClampNeg 0))) sz (arI g 11 (upd (upd (fun _ => 0) (0 : Int32).toNatClampNeg 0) (1 : Int32).toNatClampNeg 1))) sz (arI g 11 (upd (upd (upd (fun _ => 0) (0 : Int32).toNatClampNeg 0) (1 : Int32).toNatClampNeg 1) (2 : Int32).toNatClampNeg 1))) sz (arI g 11 (upd (upd (upd (upd (fun _ => 0) (0 : Int32).toNatClampNeg 0) (1 : Int32).toNatClampNeg 1) (2 : Int32).toNatClampNeg 1) (3 : Int32).toNatClampNeg 2))) sz (arI g 11 (upd (upd (upd (upd (upd (fun _ => 0) (0 : Int32).toNatClampNeg 0) (1 : Int32).toNatClampNeg 1) (2 : Int32).toNatClampNeg 1) (3 : Int32).toNatClampNeg 2) (4 : Int32).toNatClampNeg 2))) sz (arI g 11 (upd (upd (upd (upd (upd (upd (fun _ => 0) (0 : Int32).toNatClampNeg 0) (1 : Int32).toNatClampNeg 1) (2 : Int32).toNatClampNeg 1) (3 : Int32).toNatClampNeg 2) (4 : Int32).toNatClampNeg 2) (5 : Int32).toNatClampNeg 4))) sz (arI g 11 (upd (upd (upd (upd (upd (upd (upd (fun _ => 0) (0 : Int32).toNatClampNeg 0) (1 : Int32).toNatClampNeg 1) (2 : Int32).toNatClampNeg 1) (3 : Int32).toNatClampNeg 2) (4 : Int32).toNatClampNeg 2) (5 : Int32).toNatClampNeg 4) (6 : Int32).toNatClampNeg 4))) sz (arI g 11 (upd (upd (upd (upd (upd (upd (upd (upd (fun _ => 0) (0 : Int32).toNatClampNeg 0) (1 : Int32).toNatClampNeg 1) (2 : Int32).toNatClampNeg 1) (3 : Int32).toNatClampNeg 2) (4 : Int32).toNatClampNeg 2) (5 : Int32).toNatClampNeg 4) (6 : Int32).toNatClampNeg 4) (7 : Int32).toNatClampNeg 8))) sz (arI g 11 (upd (upd (upd (upd (upd (upd (upd (upd (upd (fun _ => 0) (0 : Int32).toNatClampNeg 0) (1 : Int32).toNatClampNeg 1) (2 : Int32).toNatClampNeg 1) (3 : Int32).toNatClampNeg 2) (4 : Int32).toNatClampNeg 2) (5 : Int32).toNatClampNeg 4) (6 : Int32).toNatClampNeg 4) (7 : Int32).toNatClampNeg 8) (8 : Int32).toNatClampNeg 8))) sz (arI g 11 (upd (upd (upd (upd (upd (upd (upd (upd (upd (upd (fun _ => 0) (0 : Int32).toNatClampNeg 0) (1 : Int32).toNatClampNeg 1) (2 : Int32).toNatClampNeg 1) (3 : Int32).toNatClampNeg 2) (4 : Int32).toNatClampNeg 2) (5 : Int32).toNatClampNeg 4) (6 : Int32).toNatClampNeg 4) (7 : Int32).toNatClampNeg 8) (8 : Int32).toNatClampNeg 8) (9 : Int32).toNatClampNeg 4))) sz (arI g 11 (upd (upd (upd (upd (upd (upd (upd (upd (upd (upd (upd (fun _ => 0) (0 : Int32).toNatClampNeg 0) (1 : Int32).toNatClampNeg 1) (2 : Int32).toNatClampNeg 1) (3 : Int32).toNatClampNeg 2) (4 : Int32).toNatClampNeg 2) (5 : Int32).toNatClampNeg 4) (6 : Int32).toNatClampNeg 4) (7 : Int32).toNatClampNeg 8) (8 : Int32).toNatClampNeg 8) (9 : Int32).toNatClampNeg 4) (10 : Int32).toNatClampNeg 8))) mo (baseS.take 0) kl ka ty al aa ab (p1, p2, p3, p4) := ⟨_, _, _, _, _, hR⟩
  generalize (wu (wu (wu (wu (wu (wu (wu (wu (wu (wu (wu (wu h1 sz (arI g 11 (fun _ => 0))) sz (arI g 11 (upd (fun _ => 0) (0 : Int32).toNatClampNeg 0))) sz (arI g 11 (upd (upd (fun _ => 0) (0 : Int32).toNatClampNeg 0) (1 : Int32).toNatClampNeg 1))) sz (arI g 11 (upd (upd (upd (fun _ => 0) (0 : Int32).toNatClampNeg 0) (1 : Int32).toNatClampNeg 1) (2 : Int32).toNatClampNeg 1))) sz (arI g 11 (upd (upd (upd (upd (fun _ => 0) (0 : Int32).toNatClampNeg 0) (1 : Int32).toNatClampNeg 1) (2 : Int32).toNatClampNeg 1) (3 : Int32).toNatClampNeg 2))) sz (arI g 11 (upd (upd (upd (upd (upd (fun _ => 0) (0 : Int32).toNatClampNeg 0) (1 : Int32).toNatClampNeg 1) (2 : Int32).toNatClampNeg 1) (3 : Int32).toNatClampNeg 2) (4 : Int32).toNatClampNeg 2))) sz (arI g 11 (upd (upd (upd (upd (upd (upd (fun _ => 0) (0 : Int32).toNatClampNeg 0) (1 : Int32).toNatClampNeg 1) (2 : Int32).toNatClampNeg 1) (3 : Int32).toNatClampNeg 2) (4 : Int32).toNatClampNeg 2) (5 : Int32).toNatClampNeg 4))) sz (arI g 11 (upd (upd (upd (upd (upd (upd (upd (fun _ => 0) (0 : Int32).toNatClampNeg 0) (1 : Int32).toNatClampNeg 1) (2 : Int32).toNatClampNeg 1) (3 : Int32).toNatClampNeg 2) (4 : Int32).toNatClampNeg 2) (5 : Int32).toNatClampNeg 4) (6 : Int32).toNatClampNeg 4))) sz (arI g 11 (upd (upd (upd (upd (upd (upd (upd (upd (fun _ => 0) (0 : Int32).toNatClampNeg 0) (1 : Int32).toNatClampNeg 1) (2 : Int32).toNatClampNeg 1) (3 : Int32).toNatClampNeg 2) (4 : Int32).toNatClampNeg 2) (5 : Int32).toNatClampNeg 4) (6 : Int32).toNatClampNeg 4) (7 : Int32).toNatClampNeg 8))) sz (arI g 11 (upd (upd (upd (upd (upd (upd (upd (upd (upd (fun _ => 0) (0 : Int32).toNatClampNeg 0) (1 : Int32).toNatClampNeg 1) (2 : Int32).toNatClampNeg 1) (3 : Int32).toNatClampNeg 2) (4 : Int32).toNatClampNeg 2) (5 : Int32).toNatClampNeg 4) (6 : Int32).toNatClampNeg 4) (7 : Int32).toNatClampNeg 8) (8 : Int32).toNatClampNeg 8))) sz (arI g 11 (upd (upd (upd (upd (upd (upd (upd (upd (upd (upd (fun _ => 0) (0 : Int32).toNatClampNeg 0) (1 : Int32).toNatClampNeg 1) (2 : Int32).toNatClampNeg 1) (3 : Int32).toNatClampNeg 2) (4 : Int32).toNatClampNeg 2) (5 : Int32).toNatClampNeg 4) (6 : Int32).toNatClampNeg 4) (7 : Int32).toNatClampNeg 8) (8 : Int32).toNatClampNeg 8) (9 : Int32).toNatClampNeg 4))) sz (arI g 11 (upd (upd (upd (upd (upd (upd (upd (upd (upd (upd (upd (fun _ => 0) (0 : Int32).toNatClampNeg 0) (1 : Int32).toNatClampNeg 1) (2 : Int32).toNatClampNeg 1) (3 : Int32).toNatClampNeg 2) (4 : Int32).toNatClampNeg 2) (5 : Int32).toNatClampNeg 4) (6 : Int32).toNatClampNeg 4) (7 : Int32).toNatClampNeg 8) (8 : Int32).toNatClampNeg 8) (9 : Int32).toNatClampNeg 4) (10 : Int32).toNatClampNeg 8))) = h0 at hw hR hsz
  obtain ⟨mem, rea, ali, hm⟩ := id hR.1
  refine lv_iload_n hx hb dX7_init_106 rfl (lv_at hl 0 rfl) ?_
  refine lv_bipush (v := 11) hx hb dX7_init_107 (by decide) ?_
  refine lv_icmp_ge (tgt := 139) hx hb dX7_init_109 (by decide) (fun c109 => ?_) (fun c109 => ?_)
  · exact absurd c109 (by decide)
  · refine lv_aload_n hx hb dX7_init_112 rfl (lv_at hl 2 rfl) ?_
    refine w_get (ci := 7) (C := RX7) (T := TX7) (N := 8) (ref := "LayoutDeskModel") hx hb hts in_X7_init_7 hown hw hm rfl 0 (by decide) (hts (.fieldLink RX7 10 "LayoutDeskModel" "types" "Ljava/util/ArrayList;") (by decide +kernel)) (fun _ h9 => h9) rfl dX7_init_113 ?_
    refine w_new (ci := 6) (C := RX6) (T := TX6) (N := 7) (fs := [.int 0, .int 0, .int 0, .int 0, .int 0, .null, .int 0]) hx hb hts in_X7_init_6 tyX6 tyX6_ok hown (hts (.classLink RX7 29 RX6) (by decide +kernel)) (hts (.instantiable RX6 7) (by decide +kernel)) (hts (.initialized RX6) (by decide +kernel)) hw rfl (fun j hj => by rcases (show j = 0 ∨ j = 1 ∨ j = 2 ∨ j = 3 ∨ j = 4 ∨ j = 5 ∨ j = 6 by omega) with rfl | rfl | rfl | rfl | rfl | rfl | rfl <;> rfl) (Nat.le_of_ble_eq_true rfl) (Nat.le_of_ble_eq_true rfl) dX7_init_116 (fun q H hq hw => ?_)
    refine lv_dup hx hb dX7_init_119 rfl ?_
    refine lv_iconst (v := 0) hx hb dX7_init_120 (by decide) ?_
    refine lv_iconst (v := 0) hx hb dX7_init_121 (by decide) ?_
    refine lv_iconst (v := 0) hx hb dX7_init_122 (by decide) ?_
    refine lv_aload_n hx hb dX7_init_123 rfl (lv_at hl 1 rfl) ?_
    refine lv_iload_n hx hb dX7_init_124 rfl (lv_at hl 0 rfl) ?_
    refine w_iald hx hb hw ((wu_n (ne_n hsz hq)).trans hsz) (by unfold vp_in; decide) dX7_init_125 ?_
    rw [eF0]
    refine w_call (va_runI (As := [.int 0, .int 0, .int 0, .int 0]) (rest := [.ref q, .ref kl]) ⟨hx, hb, hml, hown, hts⟩ (c_MType_init l g (wu h0 q (.inr (6, [.int 0, .int 0, .int 0, .int 0, .int 0, .null, .int 0]))) q 0 0 0 0 (wu_s _ _ _) H.size) (cwI 4 hts gX7_init_X6_init rfl rfl rfl (hts (.initialized RX6) (by decide +kernel)) (hts (.methodLink RX7 31 yX6_init) (by decide +kernel)) (hts (.instanceMethod yX6_init) (by decide +kernel)) rfl (by decide +kernel) ⟨Nat.le_of_ble_eq_true rfl, Nat.le_of_ble_eq_true rfl⟩) ⟨pr_blind, pr_of hw⟩ rfl rfl hl.1 rfl (lv_room (Nat.le_of_ble_eq_true rfl)) dX7_init_126 ⟨Nat.le_of_ble_eq_true rfl, Nat.le_of_ble_eq_true rfl⟩) hw (fun v k' H locs hp hw => ?_)
    obtain ⟨ql, rfl, w1, w2, w3, w4⟩ := hp
    refine W.eq (g2 := F0 m 129 ls [.ref q, .ref kl]) rfl ?_
    have nqq : ql ≠ q := fun z => by rw [z, wu_s] at w1; cases w1
    have hql : h0 ql = none := (wu_n nqq).symm.trans w1
    have hex : ext h0 k' := fun z e9 hz => (w4 z (ne_n hz hq) (ne_n hz hql)).trans ((wu_n (ne_n hz hq)).trans hz)
    have hR1 : MR0 g k' mo (baseS.take 0) kl ka ty al aa ab (p1, p2, p3, p4) := MR_ext hR hex (w_z hw)
    have hz1 := w_z hw
    have hALq : AL g k' ql (gZ g) [] := ⟨⟨0, w3⟩, fun z hz => (by cases hz), Or.inr ⟨rfl, hz1, rfl⟩⟩
    have hsz1 := hex _ _ hsz
    have hc9 : cM k' q (0, 0, 0, 0, 0, [], false) ql [] := ⟨w2.trans (by rw [if_neg (by decide)]; rfl), rfl, fun j y d hj => (by cases hj)⟩
    obtain ⟨⟨mck, hk1⟩, -, -⟩ := id hR1.2.2.2.2.1.1
    obtain ⟨⟨mck0, hk0⟩, -, -⟩ := id hR.2.2.2.2.1.1
    refine w_call (va_runV (As := [.ref q]) (rest := []) ⟨hx, hb, hml, hown, hts⟩ (c_AL_add l g k' kl ka q ty hR1.2.2.2.2.1.1 ⟨6, _, w2, by decide, by decide⟩ (by rw [hR.2.2.2.2.2.1]; decide) H.size) (cwV 1 hts gX7_init_Jx4a65c_add_9ea2d rfl rfl rfl (by decide +kernel) ⟨Nat.le_of_ble_eq_true rfl, Nat.le_of_ble_eq_true rfl⟩) ⟨pr_blind, w_recv hw hk1 rfl, pr_of hw⟩ rfl rfl hl.1 rfl (lv_room (Nat.le_of_ble_eq_true rfl)) dX7_init_129 ⟨Nat.le_of_ble_eq_true rfl, Nat.le_of_ble_eq_true rfl⟩) hw (fun v h' H locs hp hw => ?_)
    obtain ⟨ka', rfl, q1, q2, q3⟩ := hp
    refine W.eq (g2 := F0 m 132 ls [.int 1]) rfl ?_
    have hR2 : MR0 g h' mo (baseS.take 1) kl ka' (ty ++ [q]) _ _ _ (p1, p2, p3, p4) := MR_app ql hR1 (w_z hw) (ty_freshM (MR_ty hR) hq) hc9 ⟨hALq, (ne_n hk0 hql).symm, fun k9 hk9 => by obtain ⟨⟨m9, z9⟩, -, -⟩ := (hR.2.2.2.2.1.2.2.1 k9 hk9 trivial).1; exact (ne_n z9 hql).symm⟩ q1 q2 q3
    have hsz2 : h' sz = some (arI g 11 F9) := (add_keepI hR1.2.2.2.2.1.1 hR1.2.2.2.1 q1 q3 hsz1).trans hsz1
    clear hsz
    have hsz := hsz2
    obtain ⟨ka, ty, al, aa, ab, hR⟩ : ∃ (ka : Nat) (ty : List Nat) (al aa : Nat → Nat) (ab : Nat → List Nat), MR0 g h' mo (baseS.take 1) kl ka ty al aa ab (p1, p2, p3, p4) := ⟨_, _, _, _, _, hR2⟩
    clear hR1 hc9 q1 q2 q3 hR2 hk1 hk0 hq hsz1 hsz2 hALq hql hex nqq w1 w2 w3 w4 hm
    refine lv_pop hx hb dX7_init_132 rfl ?_
    obtain ⟨z133, ez133⟩ : ∃ y : Int32, y = 0 + 1 := ⟨_, rfl⟩
    refine lv_iinc (v := z133) (lv' := [(2, .int z133), (1, .ref sz), (0, .ref mo)]) hx hb dX7_init_133 hl (k := 0) rfl (by rw [ez133]; rfl) (by decide) rfl (fun ls hl => ?_)
    have ez : z133 = 1 := ez133.trans (by decide)
    subst ez
    refine lv_goto (tgt := 106) hx hb dX7_init_136 (by decide) ?_
    obtain ⟨mem, rea, ali, hm⟩ := id hR.1
    refine lv_iload_n hx hb dX7_init_106 rfl (lv_at hl 0 rfl) ?_
    refine lv_bipush (v := 11) hx hb dX7_init_107 (by decide) ?_
    refine lv_icmp_ge (tgt := 139) hx hb dX7_init_109 (by decide) (fun c109 => ?_) (fun c109 => ?_)
    · exact absurd c109 (by decide)
    · refine lv_aload_n hx hb dX7_init_112 rfl (lv_at hl 2 rfl) ?_
      refine w_get (ci := 7) (C := RX7) (T := TX7) (N := 8) (ref := "LayoutDeskModel") hx hb hts in_X7_init_7 hown hw hm rfl 0 (by decide) (hts (.fieldLink RX7 10 "LayoutDeskModel" "types" "Ljava/util/ArrayList;") (by decide +kernel)) (fun _ h9 => h9) rfl dX7_init_113 ?_
      refine w_new (ci := 6) (C := RX6) (T := TX6) (N := 7) (fs := [.int 0, .int 0, .int 0, .int 0, .int 0, .null, .int 0]) hx hb hts in_X7_init_6 tyX6 tyX6_ok hown (hts (.classLink RX7 29 RX6) (by decide +kernel)) (hts (.instantiable RX6 7) (by decide +kernel)) (hts (.initialized RX6) (by decide +kernel)) hw rfl (fun j hj => by rcases (show j = 0 ∨ j = 1 ∨ j = 2 ∨ j = 3 ∨ j = 4 ∨ j = 5 ∨ j = 6 by omega) with rfl | rfl | rfl | rfl | rfl | rfl | rfl <;> rfl) (Nat.le_of_ble_eq_true rfl) (Nat.le_of_ble_eq_true rfl) dX7_init_116 (fun q H hq hw => ?_)
      refine lv_dup hx hb dX7_init_119 rfl ?_
      refine lv_iconst (v := 0) hx hb dX7_init_120 (by decide) ?_
      refine lv_iconst (v := 0) hx hb dX7_init_121 (by decide) ?_
      refine lv_iconst (v := 0) hx hb dX7_init_122 (by decide) ?_
      refine lv_aload_n hx hb dX7_init_123 rfl (lv_at hl 1 rfl) ?_
      refine lv_iload_n hx hb dX7_init_124 rfl (lv_at hl 0 rfl) ?_
      refine w_iald hx hb hw ((wu_n (ne_n hsz hq)).trans hsz) (by unfold vp_in; decide) dX7_init_125 ?_
      rw [eF1]
      refine w_call (va_runI (As := [.int 0, .int 0, .int 0, .int 1]) (rest := [.ref q, .ref kl]) ⟨hx, hb, hml, hown, hts⟩ (c_MType_init l g (wu h' q (.inr (6, [.int 0, .int 0, .int 0, .int 0, .int 0, .null, .int 0]))) q 0 0 0 1 (wu_s _ _ _) H.size) (cwI 4 hts gX7_init_X6_init rfl rfl rfl (hts (.initialized RX6) (by decide +kernel)) (hts (.methodLink RX7 31 yX6_init) (by decide +kernel)) (hts (.instanceMethod yX6_init) (by decide +kernel)) rfl (by decide +kernel) ⟨Nat.le_of_ble_eq_true rfl, Nat.le_of_ble_eq_true rfl⟩) ⟨pr_blind, pr_of hw⟩ rfl rfl hl.1 rfl (lv_room (Nat.le_of_ble_eq_true rfl)) dX7_init_126 ⟨Nat.le_of_ble_eq_true rfl, Nat.le_of_ble_eq_true rfl⟩) hw (fun v k' H locs hp hw => ?_)
      obtain ⟨ql, rfl, w1, w2, w3, w4⟩ := hp
      refine W.eq (g2 := F0 m 129 ls [.ref q, .ref kl]) rfl ?_
      have nqq : ql ≠ q := fun z => by rw [z, wu_s] at w1; cases w1
      have hql : h' ql = none := (wu_n nqq).symm.trans w1
      have hex : ext h' k' := fun z e9 hz => (w4 z (ne_n hz hq) (ne_n hz hql)).trans ((wu_n (ne_n hz hq)).trans hz)
      have hR1 : MR0 g k' mo (baseS.take 1) kl ka ty al aa ab (p1, p2, p3, p4) := MR_ext hR hex (w_z hw)
      have hz1 := w_z hw
      have hALq : AL g k' ql (gZ g) [] := ⟨⟨0, w3⟩, fun z hz => (by cases hz), Or.inr ⟨rfl, hz1, rfl⟩⟩
      have hsz1 := hex _ _ hsz
      have hc9 : cM k' q (0, 0, 0, 1, 1, [], false) ql [] := ⟨w2.trans (by rw [if_neg (by decide)]; rfl), rfl, fun j y d hj => (by cases hj)⟩
      obtain ⟨⟨mck, hk1⟩, -, -⟩ := id hR1.2.2.2.2.1.1
      obtain ⟨⟨mck0, hk0⟩, -, -⟩ := id hR.2.2.2.2.1.1
      refine w_call (va_runV (As := [.ref q]) (rest := []) ⟨hx, hb, hml, hown, hts⟩ (c_AL_add l g k' kl ka q ty hR1.2.2.2.2.1.1 ⟨6, _, w2, by decide, by decide⟩ (by rw [hR.2.2.2.2.2.1]; decide) H.size) (cwV 1 hts gX7_init_Jx4a65c_add_9ea2d rfl rfl rfl (by decide +kernel) ⟨Nat.le_of_ble_eq_true rfl, Nat.le_of_ble_eq_true rfl⟩) ⟨pr_blind, w_recv hw hk1 rfl, pr_of hw⟩ rfl rfl hl.1 rfl (lv_room (Nat.le_of_ble_eq_true rfl)) dX7_init_129 ⟨Nat.le_of_ble_eq_true rfl, Nat.le_of_ble_eq_true rfl⟩) hw (fun v h' H locs hp hw => ?_)
      obtain ⟨ka', rfl, q1, q2, q3⟩ := hp
      refine W.eq (g2 := F0 m 132 ls [.int 1]) rfl ?_
      have hR2 : MR0 g h' mo (baseS.take 2) kl ka' (ty ++ [q]) _ _ _ (p1, p2, p3, p4) := MR_app ql hR1 (w_z hw) (ty_freshM (MR_ty hR) hq) hc9 ⟨hALq, (ne_n hk0 hql).symm, fun k9 hk9 => by obtain ⟨⟨m9, z9⟩, -, -⟩ := (hR.2.2.2.2.1.2.2.1 k9 hk9 trivial).1; exact (ne_n z9 hql).symm⟩ q1 q2 q3
      have hsz2 : h' sz = some (arI g 11 F9) := (add_keepI hR1.2.2.2.2.1.1 hR1.2.2.2.1 q1 q3 hsz1).trans hsz1
      clear hsz
      have hsz := hsz2
      obtain ⟨ka, ty, al, aa, ab, hR⟩ : ∃ (ka : Nat) (ty : List Nat) (al aa : Nat → Nat) (ab : Nat → List Nat), MR0 g h' mo (baseS.take 2) kl ka ty al aa ab (p1, p2, p3, p4) := ⟨_, _, _, _, _, hR2⟩
      clear hR1 hc9 q1 q2 q3 hR2 hk1 hk0 hq hsz1 hsz2 hALq hql hex nqq w1 w2 w3 w4 hm
      refine lv_pop hx hb dX7_init_132 rfl ?_
      obtain ⟨z133, ez133⟩ : ∃ y : Int32, y = 1 + 1 := ⟨_, rfl⟩
      refine lv_iinc (v := z133) (lv' := [(2, .int z133), (1, .ref sz), (0, .ref mo)]) hx hb dX7_init_133 hl (k := 0) rfl (by rw [ez133]; rfl) (by decide) rfl (fun ls hl => ?_)
      have ez : z133 = 2 := ez133.trans (by decide)
      subst ez
      refine lv_goto (tgt := 106) hx hb dX7_init_136 (by decide) ?_
      obtain ⟨mem, rea, ali, hm⟩ := id hR.1
      refine lv_iload_n hx hb dX7_init_106 rfl (lv_at hl 0 rfl) ?_
      refine lv_bipush (v := 11) hx hb dX7_init_107 (by decide) ?_
      refine lv_icmp_ge (tgt := 139) hx hb dX7_init_109 (by decide) (fun c109 => ?_) (fun c109 => ?_)
      · exact absurd c109 (by decide)
      · refine lv_aload_n hx hb dX7_init_112 rfl (lv_at hl 2 rfl) ?_
        refine w_get (ci := 7) (C := RX7) (T := TX7) (N := 8) (ref := "LayoutDeskModel") hx hb hts in_X7_init_7 hown hw hm rfl 0 (by decide) (hts (.fieldLink RX7 10 "LayoutDeskModel" "types" "Ljava/util/ArrayList;") (by decide +kernel)) (fun _ h9 => h9) rfl dX7_init_113 ?_
        refine w_new (ci := 6) (C := RX6) (T := TX6) (N := 7) (fs := [.int 0, .int 0, .int 0, .int 0, .int 0, .null, .int 0]) hx hb hts in_X7_init_6 tyX6 tyX6_ok hown (hts (.classLink RX7 29 RX6) (by decide +kernel)) (hts (.instantiable RX6 7) (by decide +kernel)) (hts (.initialized RX6) (by decide +kernel)) hw rfl (fun j hj => by rcases (show j = 0 ∨ j = 1 ∨ j = 2 ∨ j = 3 ∨ j = 4 ∨ j = 5 ∨ j = 6 by omega) with rfl | rfl | rfl | rfl | rfl | rfl | rfl <;> rfl) (Nat.le_of_ble_eq_true rfl) (Nat.le_of_ble_eq_true rfl) dX7_init_116 (fun q H hq hw => ?_)
        refine lv_dup hx hb dX7_init_119 rfl ?_
        refine lv_iconst (v := 0) hx hb dX7_init_120 (by decide) ?_
        refine lv_iconst (v := 0) hx hb dX7_init_121 (by decide) ?_
        refine lv_iconst (v := 0) hx hb dX7_init_122 (by decide) ?_
        refine lv_aload_n hx hb dX7_init_123 rfl (lv_at hl 1 rfl) ?_
        refine lv_iload_n hx hb dX7_init_124 rfl (lv_at hl 0 rfl) ?_
        refine w_iald hx hb hw ((wu_n (ne_n hsz hq)).trans hsz) (by unfold vp_in; decide) dX7_init_125 ?_
        rw [eF2]
        refine w_call (va_runI (As := [.int 0, .int 0, .int 0, .int 1]) (rest := [.ref q, .ref kl]) ⟨hx, hb, hml, hown, hts⟩ (c_MType_init l g (wu h' q (.inr (6, [.int 0, .int 0, .int 0, .int 0, .int 0, .null, .int 0]))) q 0 0 0 1 (wu_s _ _ _) H.size) (cwI 4 hts gX7_init_X6_init rfl rfl rfl (hts (.initialized RX6) (by decide +kernel)) (hts (.methodLink RX7 31 yX6_init) (by decide +kernel)) (hts (.instanceMethod yX6_init) (by decide +kernel)) rfl (by decide +kernel) ⟨Nat.le_of_ble_eq_true rfl, Nat.le_of_ble_eq_true rfl⟩) ⟨pr_blind, pr_of hw⟩ rfl rfl hl.1 rfl (lv_room (Nat.le_of_ble_eq_true rfl)) dX7_init_126 ⟨Nat.le_of_ble_eq_true rfl, Nat.le_of_ble_eq_true rfl⟩) hw (fun v k' H locs hp hw => ?_)
        obtain ⟨ql, rfl, w1, w2, w3, w4⟩ := hp
        refine W.eq (g2 := F0 m 129 ls [.ref q, .ref kl]) rfl ?_
        have nqq : ql ≠ q := fun z => by rw [z, wu_s] at w1; cases w1
        have hql : h' ql = none := (wu_n nqq).symm.trans w1
        have hex : ext h' k' := fun z e9 hz => (w4 z (ne_n hz hq) (ne_n hz hql)).trans ((wu_n (ne_n hz hq)).trans hz)
        have hR1 : MR0 g k' mo (baseS.take 2) kl ka ty al aa ab (p1, p2, p3, p4) := MR_ext hR hex (w_z hw)
        have hz1 := w_z hw
        have hALq : AL g k' ql (gZ g) [] := ⟨⟨0, w3⟩, fun z hz => (by cases hz), Or.inr ⟨rfl, hz1, rfl⟩⟩
        have hsz1 := hex _ _ hsz
        have hc9 : cM k' q (0, 0, 0, 1, 1, [], false) ql [] := ⟨w2.trans (by rw [if_neg (by decide)]; rfl), rfl, fun j y d hj => (by cases hj)⟩
        obtain ⟨⟨mck, hk1⟩, -, -⟩ := id hR1.2.2.2.2.1.1
        obtain ⟨⟨mck0, hk0⟩, -, -⟩ := id hR.2.2.2.2.1.1
        refine w_call (va_runV (As := [.ref q]) (rest := []) ⟨hx, hb, hml, hown, hts⟩ (c_AL_add l g k' kl ka q ty hR1.2.2.2.2.1.1 ⟨6, _, w2, by decide, by decide⟩ (by rw [hR.2.2.2.2.2.1]; decide) H.size) (cwV 1 hts gX7_init_Jx4a65c_add_9ea2d rfl rfl rfl (by decide +kernel) ⟨Nat.le_of_ble_eq_true rfl, Nat.le_of_ble_eq_true rfl⟩) ⟨pr_blind, w_recv hw hk1 rfl, pr_of hw⟩ rfl rfl hl.1 rfl (lv_room (Nat.le_of_ble_eq_true rfl)) dX7_init_129 ⟨Nat.le_of_ble_eq_true rfl, Nat.le_of_ble_eq_true rfl⟩) hw (fun v h' H locs hp hw => ?_)
        obtain ⟨ka', rfl, q1, q2, q3⟩ := hp
        refine W.eq (g2 := F0 m 132 ls [.int 1]) rfl ?_
        have hR2 : MR0 g h' mo (baseS.take 3) kl ka' (ty ++ [q]) _ _ _ (p1, p2, p3, p4) := MR_app ql hR1 (w_z hw) (ty_freshM (MR_ty hR) hq) hc9 ⟨hALq, (ne_n hk0 hql).symm, fun k9 hk9 => by obtain ⟨⟨m9, z9⟩, -, -⟩ := (hR.2.2.2.2.1.2.2.1 k9 hk9 trivial).1; exact (ne_n z9 hql).symm⟩ q1 q2 q3
        have hsz2 : h' sz = some (arI g 11 F9) := (add_keepI hR1.2.2.2.2.1.1 hR1.2.2.2.1 q1 q3 hsz1).trans hsz1
        clear hsz
        have hsz := hsz2
        obtain ⟨ka, ty, al, aa, ab, hR⟩ : ∃ (ka : Nat) (ty : List Nat) (al aa : Nat → Nat) (ab : Nat → List Nat), MR0 g h' mo (baseS.take 3) kl ka ty al aa ab (p1, p2, p3, p4) := ⟨_, _, _, _, _, hR2⟩
        clear hR1 hc9 q1 q2 q3 hR2 hk1 hk0 hq hsz1 hsz2 hALq hql hex nqq w1 w2 w3 w4 hm
        refine lv_pop hx hb dX7_init_132 rfl ?_
        obtain ⟨z133, ez133⟩ : ∃ y : Int32, y = 2 + 1 := ⟨_, rfl⟩
        refine lv_iinc (v := z133) (lv' := [(2, .int z133), (1, .ref sz), (0, .ref mo)]) hx hb dX7_init_133 hl (k := 0) rfl (by rw [ez133]; rfl) (by decide) rfl (fun ls hl => ?_)
        have ez : z133 = 3 := ez133.trans (by decide)
        subst ez
        refine lv_goto (tgt := 106) hx hb dX7_init_136 (by decide) ?_
        obtain ⟨mem, rea, ali, hm⟩ := id hR.1
        refine lv_iload_n hx hb dX7_init_106 rfl (lv_at hl 0 rfl) ?_
        refine lv_bipush (v := 11) hx hb dX7_init_107 (by decide) ?_
        refine lv_icmp_ge (tgt := 139) hx hb dX7_init_109 (by decide) (fun c109 => ?_) (fun c109 => ?_)
        · exact absurd c109 (by decide)
        · refine lv_aload_n hx hb dX7_init_112 rfl (lv_at hl 2 rfl) ?_
          refine w_get (ci := 7) (C := RX7) (T := TX7) (N := 8) (ref := "LayoutDeskModel") hx hb hts in_X7_init_7 hown hw hm rfl 0 (by decide) (hts (.fieldLink RX7 10 "LayoutDeskModel" "types" "Ljava/util/ArrayList;") (by decide +kernel)) (fun _ h9 => h9) rfl dX7_init_113 ?_
          refine w_new (ci := 6) (C := RX6) (T := TX6) (N := 7) (fs := [.int 0, .int 0, .int 0, .int 0, .int 0, .null, .int 0]) hx hb hts in_X7_init_6 tyX6 tyX6_ok hown (hts (.classLink RX7 29 RX6) (by decide +kernel)) (hts (.instantiable RX6 7) (by decide +kernel)) (hts (.initialized RX6) (by decide +kernel)) hw rfl (fun j hj => by rcases (show j = 0 ∨ j = 1 ∨ j = 2 ∨ j = 3 ∨ j = 4 ∨ j = 5 ∨ j = 6 by omega) with rfl | rfl | rfl | rfl | rfl | rfl | rfl <;> rfl) (Nat.le_of_ble_eq_true rfl) (Nat.le_of_ble_eq_true rfl) dX7_init_116 (fun q H hq hw => ?_)
          refine lv_dup hx hb dX7_init_119 rfl ?_
          refine lv_iconst (v := 0) hx hb dX7_init_120 (by decide) ?_
          refine lv_iconst (v := 0) hx hb dX7_init_121 (by decide) ?_
          refine lv_iconst (v := 0) hx hb dX7_init_122 (by decide) ?_
          refine lv_aload_n hx hb dX7_init_123 rfl (lv_at hl 1 rfl) ?_
          refine lv_iload_n hx hb dX7_init_124 rfl (lv_at hl 0 rfl) ?_
          refine w_iald hx hb hw ((wu_n (ne_n hsz hq)).trans hsz) (by unfold vp_in; decide) dX7_init_125 ?_
          rw [eF3]
          refine w_call (va_runI (As := [.int 0, .int 0, .int 0, .int 2]) (rest := [.ref q, .ref kl]) ⟨hx, hb, hml, hown, hts⟩ (c_MType_init l g (wu h' q (.inr (6, [.int 0, .int 0, .int 0, .int 0, .int 0, .null, .int 0]))) q 0 0 0 2 (wu_s _ _ _) H.size) (cwI 4 hts gX7_init_X6_init rfl rfl rfl (hts (.initialized RX6) (by decide +kernel)) (hts (.methodLink RX7 31 yX6_init) (by decide +kernel)) (hts (.instanceMethod yX6_init) (by decide +kernel)) rfl (by decide +kernel) ⟨Nat.le_of_ble_eq_true rfl, Nat.le_of_ble_eq_true rfl⟩) ⟨pr_blind, pr_of hw⟩ rfl rfl hl.1 rfl (lv_room (Nat.le_of_ble_eq_true rfl)) dX7_init_126 ⟨Nat.le_of_ble_eq_true rfl, Nat.le_of_ble_eq_true rfl⟩) hw (fun v k' H locs hp hw => ?_)
          obtain ⟨ql, rfl, w1, w2, w3, w4⟩ := hp
          refine W.eq (g2 := F0 m 129 ls [.ref q, .ref kl]) rfl ?_
          have nqq : ql ≠ q := fun z => by rw [z, wu_s] at w1; cases w1
          have hql : h' ql = none := (wu_n nqq).symm.trans w1
          have hex : ext h' k' := fun z e9 hz => (w4 z (ne_n hz hq) (ne_n hz hql)).trans ((wu_n (ne_n hz hq)).trans hz)
          have hR1 : MR0 g k' mo (baseS.take 3) kl ka ty al aa ab (p1, p2, p3, p4) := MR_ext hR hex (w_z hw)
          have hz1 := w_z hw
          have hALq : AL g k' ql (gZ g) [] := ⟨⟨0, w3⟩, fun z hz => (by cases hz), Or.inr ⟨rfl, hz1, rfl⟩⟩
          have hsz1 := hex _ _ hsz
          have hc9 : cM k' q (0, 0, 0, 2, 2, [], false) ql [] := ⟨w2.trans (by rw [if_neg (by decide)]; rfl), rfl, fun j y d hj => (by cases hj)⟩
          obtain ⟨⟨mck, hk1⟩, -, -⟩ := id hR1.2.2.2.2.1.1
          obtain ⟨⟨mck0, hk0⟩, -, -⟩ := id hR.2.2.2.2.1.1
          refine w_call (va_runV (As := [.ref q]) (rest := []) ⟨hx, hb, hml, hown, hts⟩ (c_AL_add l g k' kl ka q ty hR1.2.2.2.2.1.1 ⟨6, _, w2, by decide, by decide⟩ (by rw [hR.2.2.2.2.2.1]; decide) H.size) (cwV 1 hts gX7_init_Jx4a65c_add_9ea2d rfl rfl rfl (by decide +kernel) ⟨Nat.le_of_ble_eq_true rfl, Nat.le_of_ble_eq_true rfl⟩) ⟨pr_blind, w_recv hw hk1 rfl, pr_of hw⟩ rfl rfl hl.1 rfl (lv_room (Nat.le_of_ble_eq_true rfl)) dX7_init_129 ⟨Nat.le_of_ble_eq_true rfl, Nat.le_of_ble_eq_true rfl⟩) hw (fun v h' H locs hp hw => ?_)
          obtain ⟨ka', rfl, q1, q2, q3⟩ := hp
          refine W.eq (g2 := F0 m 132 ls [.int 1]) rfl ?_
          have hR2 : MR0 g h' mo (baseS.take 4) kl ka' (ty ++ [q]) _ _ _ (p1, p2, p3, p4) := MR_app ql hR1 (w_z hw) (ty_freshM (MR_ty hR) hq) hc9 ⟨hALq, (ne_n hk0 hql).symm, fun k9 hk9 => by obtain ⟨⟨m9, z9⟩, -, -⟩ := (hR.2.2.2.2.1.2.2.1 k9 hk9 trivial).1; exact (ne_n z9 hql).symm⟩ q1 q2 q3
          have hsz2 : h' sz = some (arI g 11 F9) := (add_keepI hR1.2.2.2.2.1.1 hR1.2.2.2.1 q1 q3 hsz1).trans hsz1
          clear hsz
          have hsz := hsz2
          obtain ⟨ka, ty, al, aa, ab, hR⟩ : ∃ (ka : Nat) (ty : List Nat) (al aa : Nat → Nat) (ab : Nat → List Nat), MR0 g h' mo (baseS.take 4) kl ka ty al aa ab (p1, p2, p3, p4) := ⟨_, _, _, _, _, hR2⟩
          clear hR1 hc9 q1 q2 q3 hR2 hk1 hk0 hq hsz1 hsz2 hALq hql hex nqq w1 w2 w3 w4 hm
          refine lv_pop hx hb dX7_init_132 rfl ?_
          obtain ⟨z133, ez133⟩ : ∃ y : Int32, y = 3 + 1 := ⟨_, rfl⟩
          refine lv_iinc (v := z133) (lv' := [(2, .int z133), (1, .ref sz), (0, .ref mo)]) hx hb dX7_init_133 hl (k := 0) rfl (by rw [ez133]; rfl) (by decide) rfl (fun ls hl => ?_)
          have ez : z133 = 4 := ez133.trans (by decide)
          subst ez
          refine lv_goto (tgt := 106) hx hb dX7_init_136 (by decide) ?_
          obtain ⟨mem, rea, ali, hm⟩ := id hR.1
          refine lv_iload_n hx hb dX7_init_106 rfl (lv_at hl 0 rfl) ?_
          refine lv_bipush (v := 11) hx hb dX7_init_107 (by decide) ?_
          refine lv_icmp_ge (tgt := 139) hx hb dX7_init_109 (by decide) (fun c109 => ?_) (fun c109 => ?_)
          · exact absurd c109 (by decide)
          · refine lv_aload_n hx hb dX7_init_112 rfl (lv_at hl 2 rfl) ?_
            refine w_get (ci := 7) (C := RX7) (T := TX7) (N := 8) (ref := "LayoutDeskModel") hx hb hts in_X7_init_7 hown hw hm rfl 0 (by decide) (hts (.fieldLink RX7 10 "LayoutDeskModel" "types" "Ljava/util/ArrayList;") (by decide +kernel)) (fun _ h9 => h9) rfl dX7_init_113 ?_
            refine w_new (ci := 6) (C := RX6) (T := TX6) (N := 7) (fs := [.int 0, .int 0, .int 0, .int 0, .int 0, .null, .int 0]) hx hb hts in_X7_init_6 tyX6 tyX6_ok hown (hts (.classLink RX7 29 RX6) (by decide +kernel)) (hts (.instantiable RX6 7) (by decide +kernel)) (hts (.initialized RX6) (by decide +kernel)) hw rfl (fun j hj => by rcases (show j = 0 ∨ j = 1 ∨ j = 2 ∨ j = 3 ∨ j = 4 ∨ j = 5 ∨ j = 6 by omega) with rfl | rfl | rfl | rfl | rfl | rfl | rfl <;> rfl) (Nat.le_of_ble_eq_true rfl) (Nat.le_of_ble_eq_true rfl) dX7_init_116 (fun q H hq hw => ?_)
            refine lv_dup hx hb dX7_init_119 rfl ?_
            refine lv_iconst (v := 0) hx hb dX7_init_120 (by decide) ?_
            refine lv_iconst (v := 0) hx hb dX7_init_121 (by decide) ?_
            refine lv_iconst (v := 0) hx hb dX7_init_122 (by decide) ?_
            refine lv_aload_n hx hb dX7_init_123 rfl (lv_at hl 1 rfl) ?_
            refine lv_iload_n hx hb dX7_init_124 rfl (lv_at hl 0 rfl) ?_
            refine w_iald hx hb hw ((wu_n (ne_n hsz hq)).trans hsz) (by unfold vp_in; decide) dX7_init_125 ?_
            rw [eF4]
            refine w_call (va_runI (As := [.int 0, .int 0, .int 0, .int 2]) (rest := [.ref q, .ref kl]) ⟨hx, hb, hml, hown, hts⟩ (c_MType_init l g (wu h' q (.inr (6, [.int 0, .int 0, .int 0, .int 0, .int 0, .null, .int 0]))) q 0 0 0 2 (wu_s _ _ _) H.size) (cwI 4 hts gX7_init_X6_init rfl rfl rfl (hts (.initialized RX6) (by decide +kernel)) (hts (.methodLink RX7 31 yX6_init) (by decide +kernel)) (hts (.instanceMethod yX6_init) (by decide +kernel)) rfl (by decide +kernel) ⟨Nat.le_of_ble_eq_true rfl, Nat.le_of_ble_eq_true rfl⟩) ⟨pr_blind, pr_of hw⟩ rfl rfl hl.1 rfl (lv_room (Nat.le_of_ble_eq_true rfl)) dX7_init_126 ⟨Nat.le_of_ble_eq_true rfl, Nat.le_of_ble_eq_true rfl⟩) hw (fun v k' H locs hp hw => ?_)
            obtain ⟨ql, rfl, w1, w2, w3, w4⟩ := hp
            refine W.eq (g2 := F0 m 129 ls [.ref q, .ref kl]) rfl ?_
            have nqq : ql ≠ q := fun z => by rw [z, wu_s] at w1; cases w1
            have hql : h' ql = none := (wu_n nqq).symm.trans w1
            have hex : ext h' k' := fun z e9 hz => (w4 z (ne_n hz hq) (ne_n hz hql)).trans ((wu_n (ne_n hz hq)).trans hz)
            have hR1 : MR0 g k' mo (baseS.take 4) kl ka ty al aa ab (p1, p2, p3, p4) := MR_ext hR hex (w_z hw)
            have hz1 := w_z hw
            have hALq : AL g k' ql (gZ g) [] := ⟨⟨0, w3⟩, fun z hz => (by cases hz), Or.inr ⟨rfl, hz1, rfl⟩⟩
            have hsz1 := hex _ _ hsz
            have hc9 : cM k' q (0, 0, 0, 2, 2, [], false) ql [] := ⟨w2.trans (by rw [if_neg (by decide)]; rfl), rfl, fun j y d hj => (by cases hj)⟩
            obtain ⟨⟨mck, hk1⟩, -, -⟩ := id hR1.2.2.2.2.1.1
            obtain ⟨⟨mck0, hk0⟩, -, -⟩ := id hR.2.2.2.2.1.1
            refine w_call (va_runV (As := [.ref q]) (rest := []) ⟨hx, hb, hml, hown, hts⟩ (c_AL_add l g k' kl ka q ty hR1.2.2.2.2.1.1 ⟨6, _, w2, by decide, by decide⟩ (by rw [hR.2.2.2.2.2.1]; decide) H.size) (cwV 1 hts gX7_init_Jx4a65c_add_9ea2d rfl rfl rfl (by decide +kernel) ⟨Nat.le_of_ble_eq_true rfl, Nat.le_of_ble_eq_true rfl⟩) ⟨pr_blind, w_recv hw hk1 rfl, pr_of hw⟩ rfl rfl hl.1 rfl (lv_room (Nat.le_of_ble_eq_true rfl)) dX7_init_129 ⟨Nat.le_of_ble_eq_true rfl, Nat.le_of_ble_eq_true rfl⟩) hw (fun v h' H locs hp hw => ?_)
            obtain ⟨ka', rfl, q1, q2, q3⟩ := hp
            refine W.eq (g2 := F0 m 132 ls [.int 1]) rfl ?_
            have hR2 : MR0 g h' mo (baseS.take 5) kl ka' (ty ++ [q]) _ _ _ (p1, p2, p3, p4) := MR_app ql hR1 (w_z hw) (ty_freshM (MR_ty hR) hq) hc9 ⟨hALq, (ne_n hk0 hql).symm, fun k9 hk9 => by obtain ⟨⟨m9, z9⟩, -, -⟩ := (hR.2.2.2.2.1.2.2.1 k9 hk9 trivial).1; exact (ne_n z9 hql).symm⟩ q1 q2 q3
            have hsz2 : h' sz = some (arI g 11 F9) := (add_keepI hR1.2.2.2.2.1.1 hR1.2.2.2.1 q1 q3 hsz1).trans hsz1
            clear hsz
            have hsz := hsz2
            obtain ⟨ka, ty, al, aa, ab, hR⟩ : ∃ (ka : Nat) (ty : List Nat) (al aa : Nat → Nat) (ab : Nat → List Nat), MR0 g h' mo (baseS.take 5) kl ka ty al aa ab (p1, p2, p3, p4) := ⟨_, _, _, _, _, hR2⟩
            clear hR1 hc9 q1 q2 q3 hR2 hk1 hk0 hq hsz1 hsz2 hALq hql hex nqq w1 w2 w3 w4 hm
            refine lv_pop hx hb dX7_init_132 rfl ?_
            obtain ⟨z133, ez133⟩ : ∃ y : Int32, y = 4 + 1 := ⟨_, rfl⟩
            refine lv_iinc (v := z133) (lv' := [(2, .int z133), (1, .ref sz), (0, .ref mo)]) hx hb dX7_init_133 hl (k := 0) rfl (by rw [ez133]; rfl) (by decide) rfl (fun ls hl => ?_)
            have ez : z133 = 5 := ez133.trans (by decide)
            subst ez
            refine lv_goto (tgt := 106) hx hb dX7_init_136 (by decide) ?_
            obtain ⟨mem, rea, ali, hm⟩ := id hR.1
            refine lv_iload_n hx hb dX7_init_106 rfl (lv_at hl 0 rfl) ?_
            refine lv_bipush (v := 11) hx hb dX7_init_107 (by decide) ?_
            refine lv_icmp_ge (tgt := 139) hx hb dX7_init_109 (by decide) (fun c109 => ?_) (fun c109 => ?_)
            · exact absurd c109 (by decide)
            · refine lv_aload_n hx hb dX7_init_112 rfl (lv_at hl 2 rfl) ?_
              refine w_get (ci := 7) (C := RX7) (T := TX7) (N := 8) (ref := "LayoutDeskModel") hx hb hts in_X7_init_7 hown hw hm rfl 0 (by decide) (hts (.fieldLink RX7 10 "LayoutDeskModel" "types" "Ljava/util/ArrayList;") (by decide +kernel)) (fun _ h9 => h9) rfl dX7_init_113 ?_
              refine w_new (ci := 6) (C := RX6) (T := TX6) (N := 7) (fs := [.int 0, .int 0, .int 0, .int 0, .int 0, .null, .int 0]) hx hb hts in_X7_init_6 tyX6 tyX6_ok hown (hts (.classLink RX7 29 RX6) (by decide +kernel)) (hts (.instantiable RX6 7) (by decide +kernel)) (hts (.initialized RX6) (by decide +kernel)) hw rfl (fun j hj => by rcases (show j = 0 ∨ j = 1 ∨ j = 2 ∨ j = 3 ∨ j = 4 ∨ j = 5 ∨ j = 6 by omega) with rfl | rfl | rfl | rfl | rfl | rfl | rfl <;> rfl) (Nat.le_of_ble_eq_true rfl) (Nat.le_of_ble_eq_true rfl) dX7_init_116 (fun q H hq hw => ?_)
              refine lv_dup hx hb dX7_init_119 rfl ?_
              refine lv_iconst (v := 0) hx hb dX7_init_120 (by decide) ?_
              refine lv_iconst (v := 0) hx hb dX7_init_121 (by decide) ?_
              refine lv_iconst (v := 0) hx hb dX7_init_122 (by decide) ?_
              refine lv_aload_n hx hb dX7_init_123 rfl (lv_at hl 1 rfl) ?_
              refine lv_iload_n hx hb dX7_init_124 rfl (lv_at hl 0 rfl) ?_
              refine w_iald hx hb hw ((wu_n (ne_n hsz hq)).trans hsz) (by unfold vp_in; decide) dX7_init_125 ?_
              rw [eF5]
              refine w_call (va_runI (As := [.int 0, .int 0, .int 0, .int 4]) (rest := [.ref q, .ref kl]) ⟨hx, hb, hml, hown, hts⟩ (c_MType_init l g (wu h' q (.inr (6, [.int 0, .int 0, .int 0, .int 0, .int 0, .null, .int 0]))) q 0 0 0 4 (wu_s _ _ _) H.size) (cwI 4 hts gX7_init_X6_init rfl rfl rfl (hts (.initialized RX6) (by decide +kernel)) (hts (.methodLink RX7 31 yX6_init) (by decide +kernel)) (hts (.instanceMethod yX6_init) (by decide +kernel)) rfl (by decide +kernel) ⟨Nat.le_of_ble_eq_true rfl, Nat.le_of_ble_eq_true rfl⟩) ⟨pr_blind, pr_of hw⟩ rfl rfl hl.1 rfl (lv_room (Nat.le_of_ble_eq_true rfl)) dX7_init_126 ⟨Nat.le_of_ble_eq_true rfl, Nat.le_of_ble_eq_true rfl⟩) hw (fun v k' H locs hp hw => ?_)
              obtain ⟨ql, rfl, w1, w2, w3, w4⟩ := hp
              refine W.eq (g2 := F0 m 129 ls [.ref q, .ref kl]) rfl ?_
              have nqq : ql ≠ q := fun z => by rw [z, wu_s] at w1; cases w1
              have hql : h' ql = none := (wu_n nqq).symm.trans w1
              have hex : ext h' k' := fun z e9 hz => (w4 z (ne_n hz hq) (ne_n hz hql)).trans ((wu_n (ne_n hz hq)).trans hz)
              have hR1 : MR0 g k' mo (baseS.take 5) kl ka ty al aa ab (p1, p2, p3, p4) := MR_ext hR hex (w_z hw)
              have hz1 := w_z hw
              have hALq : AL g k' ql (gZ g) [] := ⟨⟨0, w3⟩, fun z hz => (by cases hz), Or.inr ⟨rfl, hz1, rfl⟩⟩
              have hsz1 := hex _ _ hsz
              have hc9 : cM k' q (0, 0, 0, 4, 4, [], false) ql [] := ⟨w2.trans (by rw [if_neg (by decide)]; rfl), rfl, fun j y d hj => (by cases hj)⟩
              obtain ⟨⟨mck, hk1⟩, -, -⟩ := id hR1.2.2.2.2.1.1
              obtain ⟨⟨mck0, hk0⟩, -, -⟩ := id hR.2.2.2.2.1.1
              refine w_call (va_runV (As := [.ref q]) (rest := []) ⟨hx, hb, hml, hown, hts⟩ (c_AL_add l g k' kl ka q ty hR1.2.2.2.2.1.1 ⟨6, _, w2, by decide, by decide⟩ (by rw [hR.2.2.2.2.2.1]; decide) H.size) (cwV 1 hts gX7_init_Jx4a65c_add_9ea2d rfl rfl rfl (by decide +kernel) ⟨Nat.le_of_ble_eq_true rfl, Nat.le_of_ble_eq_true rfl⟩) ⟨pr_blind, w_recv hw hk1 rfl, pr_of hw⟩ rfl rfl hl.1 rfl (lv_room (Nat.le_of_ble_eq_true rfl)) dX7_init_129 ⟨Nat.le_of_ble_eq_true rfl, Nat.le_of_ble_eq_true rfl⟩) hw (fun v h' H locs hp hw => ?_)
              obtain ⟨ka', rfl, q1, q2, q3⟩ := hp
              refine W.eq (g2 := F0 m 132 ls [.int 1]) rfl ?_
              have hR2 : MR0 g h' mo (baseS.take 6) kl ka' (ty ++ [q]) _ _ _ (p1, p2, p3, p4) := MR_app ql hR1 (w_z hw) (ty_freshM (MR_ty hR) hq) hc9 ⟨hALq, (ne_n hk0 hql).symm, fun k9 hk9 => by obtain ⟨⟨m9, z9⟩, -, -⟩ := (hR.2.2.2.2.1.2.2.1 k9 hk9 trivial).1; exact (ne_n z9 hql).symm⟩ q1 q2 q3
              have hsz2 : h' sz = some (arI g 11 F9) := (add_keepI hR1.2.2.2.2.1.1 hR1.2.2.2.1 q1 q3 hsz1).trans hsz1
              clear hsz
              have hsz := hsz2
              obtain ⟨ka, ty, al, aa, ab, hR⟩ : ∃ (ka : Nat) (ty : List Nat) (al aa : Nat → Nat) (ab : Nat → List Nat), MR0 g h' mo (baseS.take 6) kl ka ty al aa ab (p1, p2, p3, p4) := ⟨_, _, _, _, _, hR2⟩
              clear hR1 hc9 q1 q2 q3 hR2 hk1 hk0 hq hsz1 hsz2 hALq hql hex nqq w1 w2 w3 w4 hm
              refine lv_pop hx hb dX7_init_132 rfl ?_
              obtain ⟨z133, ez133⟩ : ∃ y : Int32, y = 5 + 1 := ⟨_, rfl⟩
              refine lv_iinc (v := z133) (lv' := [(2, .int z133), (1, .ref sz), (0, .ref mo)]) hx hb dX7_init_133 hl (k := 0) rfl (by rw [ez133]; rfl) (by decide) rfl (fun ls hl => ?_)
              have ez : z133 = 6 := ez133.trans (by decide)
              subst ez
              refine lv_goto (tgt := 106) hx hb dX7_init_136 (by decide) ?_
              obtain ⟨mem, rea, ali, hm⟩ := id hR.1
              refine lv_iload_n hx hb dX7_init_106 rfl (lv_at hl 0 rfl) ?_
              refine lv_bipush (v := 11) hx hb dX7_init_107 (by decide) ?_
              refine lv_icmp_ge (tgt := 139) hx hb dX7_init_109 (by decide) (fun c109 => ?_) (fun c109 => ?_)
              · exact absurd c109 (by decide)
              · refine lv_aload_n hx hb dX7_init_112 rfl (lv_at hl 2 rfl) ?_
                refine w_get (ci := 7) (C := RX7) (T := TX7) (N := 8) (ref := "LayoutDeskModel") hx hb hts in_X7_init_7 hown hw hm rfl 0 (by decide) (hts (.fieldLink RX7 10 "LayoutDeskModel" "types" "Ljava/util/ArrayList;") (by decide +kernel)) (fun _ h9 => h9) rfl dX7_init_113 ?_
                refine w_new (ci := 6) (C := RX6) (T := TX6) (N := 7) (fs := [.int 0, .int 0, .int 0, .int 0, .int 0, .null, .int 0]) hx hb hts in_X7_init_6 tyX6 tyX6_ok hown (hts (.classLink RX7 29 RX6) (by decide +kernel)) (hts (.instantiable RX6 7) (by decide +kernel)) (hts (.initialized RX6) (by decide +kernel)) hw rfl (fun j hj => by rcases (show j = 0 ∨ j = 1 ∨ j = 2 ∨ j = 3 ∨ j = 4 ∨ j = 5 ∨ j = 6 by omega) with rfl | rfl | rfl | rfl | rfl | rfl | rfl <;> rfl) (Nat.le_of_ble_eq_true rfl) (Nat.le_of_ble_eq_true rfl) dX7_init_116 (fun q H hq hw => ?_)
                refine lv_dup hx hb dX7_init_119 rfl ?_
                refine lv_iconst (v := 0) hx hb dX7_init_120 (by decide) ?_
                refine lv_iconst (v := 0) hx hb dX7_init_121 (by decide) ?_
                refine lv_iconst (v := 0) hx hb dX7_init_122 (by decide) ?_
                refine lv_aload_n hx hb dX7_init_123 rfl (lv_at hl 1 rfl) ?_
                refine lv_iload_n hx hb dX7_init_124 rfl (lv_at hl 0 rfl) ?_
                refine w_iald hx hb hw ((wu_n (ne_n hsz hq)).trans hsz) (by unfold vp_in; decide) dX7_init_125 ?_
                rw [eF6]
                refine w_call (va_runI (As := [.int 0, .int 0, .int 0, .int 4]) (rest := [.ref q, .ref kl]) ⟨hx, hb, hml, hown, hts⟩ (c_MType_init l g (wu h' q (.inr (6, [.int 0, .int 0, .int 0, .int 0, .int 0, .null, .int 0]))) q 0 0 0 4 (wu_s _ _ _) H.size) (cwI 4 hts gX7_init_X6_init rfl rfl rfl (hts (.initialized RX6) (by decide +kernel)) (hts (.methodLink RX7 31 yX6_init) (by decide +kernel)) (hts (.instanceMethod yX6_init) (by decide +kernel)) rfl (by decide +kernel) ⟨Nat.le_of_ble_eq_true rfl, Nat.le_of_ble_eq_true rfl⟩) ⟨pr_blind, pr_of hw⟩ rfl rfl hl.1 rfl (lv_room (Nat.le_of_ble_eq_true rfl)) dX7_init_126 ⟨Nat.le_of_ble_eq_true rfl, Nat.le_of_ble_eq_true rfl⟩) hw (fun v k' H locs hp hw => ?_)
                obtain ⟨ql, rfl, w1, w2, w3, w4⟩ := hp
                refine W.eq (g2 := F0 m 129 ls [.ref q, .ref kl]) rfl ?_
                have nqq : ql ≠ q := fun z => by rw [z, wu_s] at w1; cases w1
                have hql : h' ql = none := (wu_n nqq).symm.trans w1
                have hex : ext h' k' := fun z e9 hz => (w4 z (ne_n hz hq) (ne_n hz hql)).trans ((wu_n (ne_n hz hq)).trans hz)
                have hR1 : MR0 g k' mo (baseS.take 6) kl ka ty al aa ab (p1, p2, p3, p4) := MR_ext hR hex (w_z hw)
                have hz1 := w_z hw
                have hALq : AL g k' ql (gZ g) [] := ⟨⟨0, w3⟩, fun z hz => (by cases hz), Or.inr ⟨rfl, hz1, rfl⟩⟩
                have hsz1 := hex _ _ hsz
                have hc9 : cM k' q (0, 0, 0, 4, 4, [], false) ql [] := ⟨w2.trans (by rw [if_neg (by decide)]; rfl), rfl, fun j y d hj => (by cases hj)⟩
                obtain ⟨⟨mck, hk1⟩, -, -⟩ := id hR1.2.2.2.2.1.1
                obtain ⟨⟨mck0, hk0⟩, -, -⟩ := id hR.2.2.2.2.1.1
                refine w_call (va_runV (As := [.ref q]) (rest := []) ⟨hx, hb, hml, hown, hts⟩ (c_AL_add l g k' kl ka q ty hR1.2.2.2.2.1.1 ⟨6, _, w2, by decide, by decide⟩ (by rw [hR.2.2.2.2.2.1]; decide) H.size) (cwV 1 hts gX7_init_Jx4a65c_add_9ea2d rfl rfl rfl (by decide +kernel) ⟨Nat.le_of_ble_eq_true rfl, Nat.le_of_ble_eq_true rfl⟩) ⟨pr_blind, w_recv hw hk1 rfl, pr_of hw⟩ rfl rfl hl.1 rfl (lv_room (Nat.le_of_ble_eq_true rfl)) dX7_init_129 ⟨Nat.le_of_ble_eq_true rfl, Nat.le_of_ble_eq_true rfl⟩) hw (fun v h' H locs hp hw => ?_)
                obtain ⟨ka', rfl, q1, q2, q3⟩ := hp
                refine W.eq (g2 := F0 m 132 ls [.int 1]) rfl ?_
                have hR2 : MR0 g h' mo (baseS.take 7) kl ka' (ty ++ [q]) _ _ _ (p1, p2, p3, p4) := MR_app ql hR1 (w_z hw) (ty_freshM (MR_ty hR) hq) hc9 ⟨hALq, (ne_n hk0 hql).symm, fun k9 hk9 => by obtain ⟨⟨m9, z9⟩, -, -⟩ := (hR.2.2.2.2.1.2.2.1 k9 hk9 trivial).1; exact (ne_n z9 hql).symm⟩ q1 q2 q3
                have hsz2 : h' sz = some (arI g 11 F9) := (add_keepI hR1.2.2.2.2.1.1 hR1.2.2.2.1 q1 q3 hsz1).trans hsz1
                clear hsz
                have hsz := hsz2
                obtain ⟨ka, ty, al, aa, ab, hR⟩ : ∃ (ka : Nat) (ty : List Nat) (al aa : Nat → Nat) (ab : Nat → List Nat), MR0 g h' mo (baseS.take 7) kl ka ty al aa ab (p1, p2, p3, p4) := ⟨_, _, _, _, _, hR2⟩
                clear hR1 hc9 q1 q2 q3 hR2 hk1 hk0 hq hsz1 hsz2 hALq hql hex nqq w1 w2 w3 w4 hm
                refine lv_pop hx hb dX7_init_132 rfl ?_
                obtain ⟨z133, ez133⟩ : ∃ y : Int32, y = 6 + 1 := ⟨_, rfl⟩
                refine lv_iinc (v := z133) (lv' := [(2, .int z133), (1, .ref sz), (0, .ref mo)]) hx hb dX7_init_133 hl (k := 0) rfl (by rw [ez133]; rfl) (by decide) rfl (fun ls hl => ?_)
                have ez : z133 = 7 := ez133.trans (by decide)
                subst ez
                refine lv_goto (tgt := 106) hx hb dX7_init_136 (by decide) ?_
                obtain ⟨mem, rea, ali, hm⟩ := id hR.1
                refine lv_iload_n hx hb dX7_init_106 rfl (lv_at hl 0 rfl) ?_
                refine lv_bipush (v := 11) hx hb dX7_init_107 (by decide) ?_
                refine lv_icmp_ge (tgt := 139) hx hb dX7_init_109 (by decide) (fun c109 => ?_) (fun c109 => ?_)
                · exact absurd c109 (by decide)
                · refine lv_aload_n hx hb dX7_init_112 rfl (lv_at hl 2 rfl) ?_
                  refine w_get (ci := 7) (C := RX7) (T := TX7) (N := 8) (ref := "LayoutDeskModel") hx hb hts in_X7_init_7 hown hw hm rfl 0 (by decide) (hts (.fieldLink RX7 10 "LayoutDeskModel" "types" "Ljava/util/ArrayList;") (by decide +kernel)) (fun _ h9 => h9) rfl dX7_init_113 ?_
                  refine w_new (ci := 6) (C := RX6) (T := TX6) (N := 7) (fs := [.int 0, .int 0, .int 0, .int 0, .int 0, .null, .int 0]) hx hb hts in_X7_init_6 tyX6 tyX6_ok hown (hts (.classLink RX7 29 RX6) (by decide +kernel)) (hts (.instantiable RX6 7) (by decide +kernel)) (hts (.initialized RX6) (by decide +kernel)) hw rfl (fun j hj => by rcases (show j = 0 ∨ j = 1 ∨ j = 2 ∨ j = 3 ∨ j = 4 ∨ j = 5 ∨ j = 6 by omega) with rfl | rfl | rfl | rfl | rfl | rfl | rfl <;> rfl) (Nat.le_of_ble_eq_true rfl) (Nat.le_of_ble_eq_true rfl) dX7_init_116 (fun q H hq hw => ?_)
                  refine lv_dup hx hb dX7_init_119 rfl ?_
                  refine lv_iconst (v := 0) hx hb dX7_init_120 (by decide) ?_
                  refine lv_iconst (v := 0) hx hb dX7_init_121 (by decide) ?_
                  refine lv_iconst (v := 0) hx hb dX7_init_122 (by decide) ?_
                  refine lv_aload_n hx hb dX7_init_123 rfl (lv_at hl 1 rfl) ?_
                  refine lv_iload_n hx hb dX7_init_124 rfl (lv_at hl 0 rfl) ?_
                  refine w_iald hx hb hw ((wu_n (ne_n hsz hq)).trans hsz) (by unfold vp_in; decide) dX7_init_125 ?_
                  rw [eF7]
                  refine w_call (va_runI (As := [.int 0, .int 0, .int 0, .int 8]) (rest := [.ref q, .ref kl]) ⟨hx, hb, hml, hown, hts⟩ (c_MType_init l g (wu h' q (.inr (6, [.int 0, .int 0, .int 0, .int 0, .int 0, .null, .int 0]))) q 0 0 0 8 (wu_s _ _ _) H.size) (cwI 4 hts gX7_init_X6_init rfl rfl rfl (hts (.initialized RX6) (by decide +kernel)) (hts (.methodLink RX7 31 yX6_init) (by decide +kernel)) (hts (.instanceMethod yX6_init) (by decide +kernel)) rfl (by decide +kernel) ⟨Nat.le_of_ble_eq_true rfl, Nat.le_of_ble_eq_true rfl⟩) ⟨pr_blind, pr_of hw⟩ rfl rfl hl.1 rfl (lv_room (Nat.le_of_ble_eq_true rfl)) dX7_init_126 ⟨Nat.le_of_ble_eq_true rfl, Nat.le_of_ble_eq_true rfl⟩) hw (fun v k' H locs hp hw => ?_)
                  obtain ⟨ql, rfl, w1, w2, w3, w4⟩ := hp
                  refine W.eq (g2 := F0 m 129 ls [.ref q, .ref kl]) rfl ?_
                  have nqq : ql ≠ q := fun z => by rw [z, wu_s] at w1; cases w1
                  have hql : h' ql = none := (wu_n nqq).symm.trans w1
                  have hex : ext h' k' := fun z e9 hz => (w4 z (ne_n hz hq) (ne_n hz hql)).trans ((wu_n (ne_n hz hq)).trans hz)
                  have hR1 : MR0 g k' mo (baseS.take 7) kl ka ty al aa ab (p1, p2, p3, p4) := MR_ext hR hex (w_z hw)
                  have hz1 := w_z hw
                  have hALq : AL g k' ql (gZ g) [] := ⟨⟨0, w3⟩, fun z hz => (by cases hz), Or.inr ⟨rfl, hz1, rfl⟩⟩
                  have hsz1 := hex _ _ hsz
                  have hc9 : cM k' q (0, 0, 0, 8, 4, [], false) ql [] := ⟨w2.trans (by rw [if_pos (by decide)]; rfl), rfl, fun j y d hj => (by cases hj)⟩
                  obtain ⟨⟨mck, hk1⟩, -, -⟩ := id hR1.2.2.2.2.1.1
                  obtain ⟨⟨mck0, hk0⟩, -, -⟩ := id hR.2.2.2.2.1.1
                  refine w_call (va_runV (As := [.ref q]) (rest := []) ⟨hx, hb, hml, hown, hts⟩ (c_AL_add l g k' kl ka q ty hR1.2.2.2.2.1.1 ⟨6, _, w2, by decide, by decide⟩ (by rw [hR.2.2.2.2.2.1]; decide) H.size) (cwV 1 hts gX7_init_Jx4a65c_add_9ea2d rfl rfl rfl (by decide +kernel) ⟨Nat.le_of_ble_eq_true rfl, Nat.le_of_ble_eq_true rfl⟩) ⟨pr_blind, w_recv hw hk1 rfl, pr_of hw⟩ rfl rfl hl.1 rfl (lv_room (Nat.le_of_ble_eq_true rfl)) dX7_init_129 ⟨Nat.le_of_ble_eq_true rfl, Nat.le_of_ble_eq_true rfl⟩) hw (fun v h' H locs hp hw => ?_)
                  obtain ⟨ka', rfl, q1, q2, q3⟩ := hp
                  refine W.eq (g2 := F0 m 132 ls [.int 1]) rfl ?_
                  have hR2 : MR0 g h' mo (baseS.take 8) kl ka' (ty ++ [q]) _ _ _ (p1, p2, p3, p4) := MR_app ql hR1 (w_z hw) (ty_freshM (MR_ty hR) hq) hc9 ⟨hALq, (ne_n hk0 hql).symm, fun k9 hk9 => by obtain ⟨⟨m9, z9⟩, -, -⟩ := (hR.2.2.2.2.1.2.2.1 k9 hk9 trivial).1; exact (ne_n z9 hql).symm⟩ q1 q2 q3
                  have hsz2 : h' sz = some (arI g 11 F9) := (add_keepI hR1.2.2.2.2.1.1 hR1.2.2.2.1 q1 q3 hsz1).trans hsz1
                  clear hsz
                  have hsz := hsz2
                  obtain ⟨ka, ty, al, aa, ab, hR⟩ : ∃ (ka : Nat) (ty : List Nat) (al aa : Nat → Nat) (ab : Nat → List Nat), MR0 g h' mo (baseS.take 8) kl ka ty al aa ab (p1, p2, p3, p4) := ⟨_, _, _, _, _, hR2⟩
                  clear hR1 hc9 q1 q2 q3 hR2 hk1 hk0 hq hsz1 hsz2 hALq hql hex nqq w1 w2 w3 w4 hm
                  refine lv_pop hx hb dX7_init_132 rfl ?_
                  obtain ⟨z133, ez133⟩ : ∃ y : Int32, y = 7 + 1 := ⟨_, rfl⟩
                  refine lv_iinc (v := z133) (lv' := [(2, .int z133), (1, .ref sz), (0, .ref mo)]) hx hb dX7_init_133 hl (k := 0) rfl (by rw [ez133]; rfl) (by decide) rfl (fun ls hl => ?_)
                  have ez : z133 = 8 := ez133.trans (by decide)
                  subst ez
                  refine lv_goto (tgt := 106) hx hb dX7_init_136 (by decide) ?_
                  obtain ⟨mem, rea, ali, hm⟩ := id hR.1
                  refine lv_iload_n hx hb dX7_init_106 rfl (lv_at hl 0 rfl) ?_
                  refine lv_bipush (v := 11) hx hb dX7_init_107 (by decide) ?_
                  refine lv_icmp_ge (tgt := 139) hx hb dX7_init_109 (by decide) (fun c109 => ?_) (fun c109 => ?_)
                  · exact absurd c109 (by decide)
                  · refine lv_aload_n hx hb dX7_init_112 rfl (lv_at hl 2 rfl) ?_
                    refine w_get (ci := 7) (C := RX7) (T := TX7) (N := 8) (ref := "LayoutDeskModel") hx hb hts in_X7_init_7 hown hw hm rfl 0 (by decide) (hts (.fieldLink RX7 10 "LayoutDeskModel" "types" "Ljava/util/ArrayList;") (by decide +kernel)) (fun _ h9 => h9) rfl dX7_init_113 ?_
                    refine w_new (ci := 6) (C := RX6) (T := TX6) (N := 7) (fs := [.int 0, .int 0, .int 0, .int 0, .int 0, .null, .int 0]) hx hb hts in_X7_init_6 tyX6 tyX6_ok hown (hts (.classLink RX7 29 RX6) (by decide +kernel)) (hts (.instantiable RX6 7) (by decide +kernel)) (hts (.initialized RX6) (by decide +kernel)) hw rfl (fun j hj => by rcases (show j = 0 ∨ j = 1 ∨ j = 2 ∨ j = 3 ∨ j = 4 ∨ j = 5 ∨ j = 6 by omega) with rfl | rfl | rfl | rfl | rfl | rfl | rfl <;> rfl) (Nat.le_of_ble_eq_true rfl) (Nat.le_of_ble_eq_true rfl) dX7_init_116 (fun q H hq hw => ?_)
                    refine lv_dup hx hb dX7_init_119 rfl ?_
                    refine lv_iconst (v := 0) hx hb dX7_init_120 (by decide) ?_
                    refine lv_iconst (v := 0) hx hb dX7_init_121 (by decide) ?_
                    refine lv_iconst (v := 0) hx hb dX7_init_122 (by decide) ?_
                    refine lv_aload_n hx hb dX7_init_123 rfl (lv_at hl 1 rfl) ?_
                    refine lv_iload_n hx hb dX7_init_124 rfl (lv_at hl 0 rfl) ?_
                    refine w_iald hx hb hw ((wu_n (ne_n hsz hq)).trans hsz) (by unfold vp_in; decide) dX7_init_125 ?_
                    rw [eF8]
                    refine w_call (va_runI (As := [.int 0, .int 0, .int 0, .int 8]) (rest := [.ref q, .ref kl]) ⟨hx, hb, hml, hown, hts⟩ (c_MType_init l g (wu h' q (.inr (6, [.int 0, .int 0, .int 0, .int 0, .int 0, .null, .int 0]))) q 0 0 0 8 (wu_s _ _ _) H.size) (cwI 4 hts gX7_init_X6_init rfl rfl rfl (hts (.initialized RX6) (by decide +kernel)) (hts (.methodLink RX7 31 yX6_init) (by decide +kernel)) (hts (.instanceMethod yX6_init) (by decide +kernel)) rfl (by decide +kernel) ⟨Nat.le_of_ble_eq_true rfl, Nat.le_of_ble_eq_true rfl⟩) ⟨pr_blind, pr_of hw⟩ rfl rfl hl.1 rfl (lv_room (Nat.le_of_ble_eq_true rfl)) dX7_init_126 ⟨Nat.le_of_ble_eq_true rfl, Nat.le_of_ble_eq_true rfl⟩) hw (fun v k' H locs hp hw => ?_)
                    obtain ⟨ql, rfl, w1, w2, w3, w4⟩ := hp
                    refine W.eq (g2 := F0 m 129 ls [.ref q, .ref kl]) rfl ?_
                    have nqq : ql ≠ q := fun z => by rw [z, wu_s] at w1; cases w1
                    have hql : h' ql = none := (wu_n nqq).symm.trans w1
                    have hex : ext h' k' := fun z e9 hz => (w4 z (ne_n hz hq) (ne_n hz hql)).trans ((wu_n (ne_n hz hq)).trans hz)
                    have hR1 : MR0 g k' mo (baseS.take 8) kl ka ty al aa ab (p1, p2, p3, p4) := MR_ext hR hex (w_z hw)
                    have hz1 := w_z hw
                    have hALq : AL g k' ql (gZ g) [] := ⟨⟨0, w3⟩, fun z hz => (by cases hz), Or.inr ⟨rfl, hz1, rfl⟩⟩
                    have hsz1 := hex _ _ hsz
                    have hc9 : cM k' q (0, 0, 0, 8, 4, [], false) ql [] := ⟨w2.trans (by rw [if_pos (by decide)]; rfl), rfl, fun j y d hj => (by cases hj)⟩
                    obtain ⟨⟨mck, hk1⟩, -, -⟩ := id hR1.2.2.2.2.1.1
                    obtain ⟨⟨mck0, hk0⟩, -, -⟩ := id hR.2.2.2.2.1.1
                    refine w_call (va_runV (As := [.ref q]) (rest := []) ⟨hx, hb, hml, hown, hts⟩ (c_AL_add l g k' kl ka q ty hR1.2.2.2.2.1.1 ⟨6, _, w2, by decide, by decide⟩ (by rw [hR.2.2.2.2.2.1]; decide) H.size) (cwV 1 hts gX7_init_Jx4a65c_add_9ea2d rfl rfl rfl (by decide +kernel) ⟨Nat.le_of_ble_eq_true rfl, Nat.le_of_ble_eq_true rfl⟩) ⟨pr_blind, w_recv hw hk1 rfl, pr_of hw⟩ rfl rfl hl.1 rfl (lv_room (Nat.le_of_ble_eq_true rfl)) dX7_init_129 ⟨Nat.le_of_ble_eq_true rfl, Nat.le_of_ble_eq_true rfl⟩) hw (fun v h' H locs hp hw => ?_)
                    obtain ⟨ka', rfl, q1, q2, q3⟩ := hp
                    refine W.eq (g2 := F0 m 132 ls [.int 1]) rfl ?_
                    have hR2 : MR0 g h' mo (baseS.take 9) kl ka' (ty ++ [q]) _ _ _ (p1, p2, p3, p4) := MR_app ql hR1 (w_z hw) (ty_freshM (MR_ty hR) hq) hc9 ⟨hALq, (ne_n hk0 hql).symm, fun k9 hk9 => by obtain ⟨⟨m9, z9⟩, -, -⟩ := (hR.2.2.2.2.1.2.2.1 k9 hk9 trivial).1; exact (ne_n z9 hql).symm⟩ q1 q2 q3
                    have hsz2 : h' sz = some (arI g 11 F9) := (add_keepI hR1.2.2.2.2.1.1 hR1.2.2.2.1 q1 q3 hsz1).trans hsz1
                    clear hsz
                    have hsz := hsz2
                    obtain ⟨ka, ty, al, aa, ab, hR⟩ : ∃ (ka : Nat) (ty : List Nat) (al aa : Nat → Nat) (ab : Nat → List Nat), MR0 g h' mo (baseS.take 9) kl ka ty al aa ab (p1, p2, p3, p4) := ⟨_, _, _, _, _, hR2⟩
                    clear hR1 hc9 q1 q2 q3 hR2 hk1 hk0 hq hsz1 hsz2 hALq hql hex nqq w1 w2 w3 w4 hm
                    refine lv_pop hx hb dX7_init_132 rfl ?_
                    obtain ⟨z133, ez133⟩ : ∃ y : Int32, y = 8 + 1 := ⟨_, rfl⟩
                    refine lv_iinc (v := z133) (lv' := [(2, .int z133), (1, .ref sz), (0, .ref mo)]) hx hb dX7_init_133 hl (k := 0) rfl (by rw [ez133]; rfl) (by decide) rfl (fun ls hl => ?_)
                    have ez : z133 = 9 := ez133.trans (by decide)
                    subst ez
                    refine lv_goto (tgt := 106) hx hb dX7_init_136 (by decide) ?_
                    obtain ⟨mem, rea, ali, hm⟩ := id hR.1
                    refine lv_iload_n hx hb dX7_init_106 rfl (lv_at hl 0 rfl) ?_
                    refine lv_bipush (v := 11) hx hb dX7_init_107 (by decide) ?_
                    refine lv_icmp_ge (tgt := 139) hx hb dX7_init_109 (by decide) (fun c109 => ?_) (fun c109 => ?_)
                    · exact absurd c109 (by decide)
                    · refine lv_aload_n hx hb dX7_init_112 rfl (lv_at hl 2 rfl) ?_
                      refine w_get (ci := 7) (C := RX7) (T := TX7) (N := 8) (ref := "LayoutDeskModel") hx hb hts in_X7_init_7 hown hw hm rfl 0 (by decide) (hts (.fieldLink RX7 10 "LayoutDeskModel" "types" "Ljava/util/ArrayList;") (by decide +kernel)) (fun _ h9 => h9) rfl dX7_init_113 ?_
                      refine w_new (ci := 6) (C := RX6) (T := TX6) (N := 7) (fs := [.int 0, .int 0, .int 0, .int 0, .int 0, .null, .int 0]) hx hb hts in_X7_init_6 tyX6 tyX6_ok hown (hts (.classLink RX7 29 RX6) (by decide +kernel)) (hts (.instantiable RX6 7) (by decide +kernel)) (hts (.initialized RX6) (by decide +kernel)) hw rfl (fun j hj => by rcases (show j = 0 ∨ j = 1 ∨ j = 2 ∨ j = 3 ∨ j = 4 ∨ j = 5 ∨ j = 6 by omega) with rfl | rfl | rfl | rfl | rfl | rfl | rfl <;> rfl) (Nat.le_of_ble_eq_true rfl) (Nat.le_of_ble_eq_true rfl) dX7_init_116 (fun q H hq hw => ?_)
                      refine lv_dup hx hb dX7_init_119 rfl ?_
                      refine lv_iconst (v := 0) hx hb dX7_init_120 (by decide) ?_
                      refine lv_iconst (v := 0) hx hb dX7_init_121 (by decide) ?_
                      refine lv_iconst (v := 0) hx hb dX7_init_122 (by decide) ?_
                      refine lv_aload_n hx hb dX7_init_123 rfl (lv_at hl 1 rfl) ?_
                      refine lv_iload_n hx hb dX7_init_124 rfl (lv_at hl 0 rfl) ?_
                      refine w_iald hx hb hw ((wu_n (ne_n hsz hq)).trans hsz) (by unfold vp_in; decide) dX7_init_125 ?_
                      rw [eF9]
                      refine w_call (va_runI (As := [.int 0, .int 0, .int 0, .int 4]) (rest := [.ref q, .ref kl]) ⟨hx, hb, hml, hown, hts⟩ (c_MType_init l g (wu h' q (.inr (6, [.int 0, .int 0, .int 0, .int 0, .int 0, .null, .int 0]))) q 0 0 0 4 (wu_s _ _ _) H.size) (cwI 4 hts gX7_init_X6_init rfl rfl rfl (hts (.initialized RX6) (by decide +kernel)) (hts (.methodLink RX7 31 yX6_init) (by decide +kernel)) (hts (.instanceMethod yX6_init) (by decide +kernel)) rfl (by decide +kernel) ⟨Nat.le_of_ble_eq_true rfl, Nat.le_of_ble_eq_true rfl⟩) ⟨pr_blind, pr_of hw⟩ rfl rfl hl.1 rfl (lv_room (Nat.le_of_ble_eq_true rfl)) dX7_init_126 ⟨Nat.le_of_ble_eq_true rfl, Nat.le_of_ble_eq_true rfl⟩) hw (fun v k' H locs hp hw => ?_)
                      obtain ⟨ql, rfl, w1, w2, w3, w4⟩ := hp
                      refine W.eq (g2 := F0 m 129 ls [.ref q, .ref kl]) rfl ?_
                      have nqq : ql ≠ q := fun z => by rw [z, wu_s] at w1; cases w1
                      have hql : h' ql = none := (wu_n nqq).symm.trans w1
                      have hex : ext h' k' := fun z e9 hz => (w4 z (ne_n hz hq) (ne_n hz hql)).trans ((wu_n (ne_n hz hq)).trans hz)
                      have hR1 : MR0 g k' mo (baseS.take 9) kl ka ty al aa ab (p1, p2, p3, p4) := MR_ext hR hex (w_z hw)
                      have hz1 := w_z hw
                      have hALq : AL g k' ql (gZ g) [] := ⟨⟨0, w3⟩, fun z hz => (by cases hz), Or.inr ⟨rfl, hz1, rfl⟩⟩
                      have hsz1 := hex _ _ hsz
                      have hc9 : cM k' q (0, 0, 0, 4, 4, [], false) ql [] := ⟨w2.trans (by rw [if_neg (by decide)]; rfl), rfl, fun j y d hj => (by cases hj)⟩
                      obtain ⟨⟨mck, hk1⟩, -, -⟩ := id hR1.2.2.2.2.1.1
                      obtain ⟨⟨mck0, hk0⟩, -, -⟩ := id hR.2.2.2.2.1.1
                      refine w_call (va_runV (As := [.ref q]) (rest := []) ⟨hx, hb, hml, hown, hts⟩ (c_AL_add l g k' kl ka q ty hR1.2.2.2.2.1.1 ⟨6, _, w2, by decide, by decide⟩ (by rw [hR.2.2.2.2.2.1]; decide) H.size) (cwV 1 hts gX7_init_Jx4a65c_add_9ea2d rfl rfl rfl (by decide +kernel) ⟨Nat.le_of_ble_eq_true rfl, Nat.le_of_ble_eq_true rfl⟩) ⟨pr_blind, w_recv hw hk1 rfl, pr_of hw⟩ rfl rfl hl.1 rfl (lv_room (Nat.le_of_ble_eq_true rfl)) dX7_init_129 ⟨Nat.le_of_ble_eq_true rfl, Nat.le_of_ble_eq_true rfl⟩) hw (fun v h' H locs hp hw => ?_)
                      obtain ⟨ka', rfl, q1, q2, q3⟩ := hp
                      refine W.eq (g2 := F0 m 132 ls [.int 1]) rfl ?_
                      have hR2 : MR0 g h' mo (baseS.take 10) kl ka' (ty ++ [q]) _ _ _ (p1, p2, p3, p4) := MR_app ql hR1 (w_z hw) (ty_freshM (MR_ty hR) hq) hc9 ⟨hALq, (ne_n hk0 hql).symm, fun k9 hk9 => by obtain ⟨⟨m9, z9⟩, -, -⟩ := (hR.2.2.2.2.1.2.2.1 k9 hk9 trivial).1; exact (ne_n z9 hql).symm⟩ q1 q2 q3
                      have hsz2 : h' sz = some (arI g 11 F9) := (add_keepI hR1.2.2.2.2.1.1 hR1.2.2.2.1 q1 q3 hsz1).trans hsz1
                      clear hsz
                      have hsz := hsz2
                      obtain ⟨ka, ty, al, aa, ab, hR⟩ : ∃ (ka : Nat) (ty : List Nat) (al aa : Nat → Nat) (ab : Nat → List Nat), MR0 g h' mo (baseS.take 10) kl ka ty al aa ab (p1, p2, p3, p4) := ⟨_, _, _, _, _, hR2⟩
                      clear hR1 hc9 q1 q2 q3 hR2 hk1 hk0 hq hsz1 hsz2 hALq hql hex nqq w1 w2 w3 w4 hm
                      refine lv_pop hx hb dX7_init_132 rfl ?_
                      obtain ⟨z133, ez133⟩ : ∃ y : Int32, y = 9 + 1 := ⟨_, rfl⟩
                      refine lv_iinc (v := z133) (lv' := [(2, .int z133), (1, .ref sz), (0, .ref mo)]) hx hb dX7_init_133 hl (k := 0) rfl (by rw [ez133]; rfl) (by decide) rfl (fun ls hl => ?_)
                      have ez : z133 = 10 := ez133.trans (by decide)
                      subst ez
                      refine lv_goto (tgt := 106) hx hb dX7_init_136 (by decide) ?_
                      obtain ⟨mem, rea, ali, hm⟩ := id hR.1
                      refine lv_iload_n hx hb dX7_init_106 rfl (lv_at hl 0 rfl) ?_
                      refine lv_bipush (v := 11) hx hb dX7_init_107 (by decide) ?_
                      refine lv_icmp_ge (tgt := 139) hx hb dX7_init_109 (by decide) (fun c109 => ?_) (fun c109 => ?_)
                      · exact absurd c109 (by decide)
                      · refine lv_aload_n hx hb dX7_init_112 rfl (lv_at hl 2 rfl) ?_
                        refine w_get (ci := 7) (C := RX7) (T := TX7) (N := 8) (ref := "LayoutDeskModel") hx hb hts in_X7_init_7 hown hw hm rfl 0 (by decide) (hts (.fieldLink RX7 10 "LayoutDeskModel" "types" "Ljava/util/ArrayList;") (by decide +kernel)) (fun _ h9 => h9) rfl dX7_init_113 ?_
                        refine w_new (ci := 6) (C := RX6) (T := TX6) (N := 7) (fs := [.int 0, .int 0, .int 0, .int 0, .int 0, .null, .int 0]) hx hb hts in_X7_init_6 tyX6 tyX6_ok hown (hts (.classLink RX7 29 RX6) (by decide +kernel)) (hts (.instantiable RX6 7) (by decide +kernel)) (hts (.initialized RX6) (by decide +kernel)) hw rfl (fun j hj => by rcases (show j = 0 ∨ j = 1 ∨ j = 2 ∨ j = 3 ∨ j = 4 ∨ j = 5 ∨ j = 6 by omega) with rfl | rfl | rfl | rfl | rfl | rfl | rfl <;> rfl) (Nat.le_of_ble_eq_true rfl) (Nat.le_of_ble_eq_true rfl) dX7_init_116 (fun q H hq hw => ?_)
                        refine lv_dup hx hb dX7_init_119 rfl ?_
                        refine lv_iconst (v := 0) hx hb dX7_init_120 (by decide) ?_
                        refine lv_iconst (v := 0) hx hb dX7_init_121 (by decide) ?_
                        refine lv_iconst (v := 0) hx hb dX7_init_122 (by decide) ?_
                        refine lv_aload_n hx hb dX7_init_123 rfl (lv_at hl 1 rfl) ?_
                        refine lv_iload_n hx hb dX7_init_124 rfl (lv_at hl 0 rfl) ?_
                        refine w_iald hx hb hw ((wu_n (ne_n hsz hq)).trans hsz) (by unfold vp_in; decide) dX7_init_125 ?_
                        rw [eF10]
                        refine w_call (va_runI (As := [.int 0, .int 0, .int 0, .int 8]) (rest := [.ref q, .ref kl]) ⟨hx, hb, hml, hown, hts⟩ (c_MType_init l g (wu h' q (.inr (6, [.int 0, .int 0, .int 0, .int 0, .int 0, .null, .int 0]))) q 0 0 0 8 (wu_s _ _ _) H.size) (cwI 4 hts gX7_init_X6_init rfl rfl rfl (hts (.initialized RX6) (by decide +kernel)) (hts (.methodLink RX7 31 yX6_init) (by decide +kernel)) (hts (.instanceMethod yX6_init) (by decide +kernel)) rfl (by decide +kernel) ⟨Nat.le_of_ble_eq_true rfl, Nat.le_of_ble_eq_true rfl⟩) ⟨pr_blind, pr_of hw⟩ rfl rfl hl.1 rfl (lv_room (Nat.le_of_ble_eq_true rfl)) dX7_init_126 ⟨Nat.le_of_ble_eq_true rfl, Nat.le_of_ble_eq_true rfl⟩) hw (fun v k' H locs hp hw => ?_)
                        obtain ⟨ql, rfl, w1, w2, w3, w4⟩ := hp
                        refine W.eq (g2 := F0 m 129 ls [.ref q, .ref kl]) rfl ?_
                        have nqq : ql ≠ q := fun z => by rw [z, wu_s] at w1; cases w1
                        have hql : h' ql = none := (wu_n nqq).symm.trans w1
                        have hex : ext h' k' := fun z e9 hz => (w4 z (ne_n hz hq) (ne_n hz hql)).trans ((wu_n (ne_n hz hq)).trans hz)
                        have hR1 : MR0 g k' mo (baseS.take 10) kl ka ty al aa ab (p1, p2, p3, p4) := MR_ext hR hex (w_z hw)
                        have hz1 := w_z hw
                        have hALq : AL g k' ql (gZ g) [] := ⟨⟨0, w3⟩, fun z hz => (by cases hz), Or.inr ⟨rfl, hz1, rfl⟩⟩
                        have hsz1 := hex _ _ hsz
                        have hc9 : cM k' q (0, 0, 0, 8, 4, [], false) ql [] := ⟨w2.trans (by rw [if_pos (by decide)]; rfl), rfl, fun j y d hj => (by cases hj)⟩
                        obtain ⟨⟨mck, hk1⟩, -, -⟩ := id hR1.2.2.2.2.1.1
                        obtain ⟨⟨mck0, hk0⟩, -, -⟩ := id hR.2.2.2.2.1.1
                        refine w_call (va_runV (As := [.ref q]) (rest := []) ⟨hx, hb, hml, hown, hts⟩ (c_AL_add l g k' kl ka q ty hR1.2.2.2.2.1.1 ⟨6, _, w2, by decide, by decide⟩ (by rw [hR.2.2.2.2.2.1]; decide) H.size) (cwV 1 hts gX7_init_Jx4a65c_add_9ea2d rfl rfl rfl (by decide +kernel) ⟨Nat.le_of_ble_eq_true rfl, Nat.le_of_ble_eq_true rfl⟩) ⟨pr_blind, w_recv hw hk1 rfl, pr_of hw⟩ rfl rfl hl.1 rfl (lv_room (Nat.le_of_ble_eq_true rfl)) dX7_init_129 ⟨Nat.le_of_ble_eq_true rfl, Nat.le_of_ble_eq_true rfl⟩) hw (fun v h' H locs hp hw => ?_)
                        obtain ⟨ka', rfl, q1, q2, q3⟩ := hp
                        refine W.eq (g2 := F0 m 132 ls [.int 1]) rfl ?_
                        have hR2 : MR0 g h' mo (baseS.take 11) kl ka' (ty ++ [q]) _ _ _ (p1, p2, p3, p4) := MR_app ql hR1 (w_z hw) (ty_freshM (MR_ty hR) hq) hc9 ⟨hALq, (ne_n hk0 hql).symm, fun k9 hk9 => by obtain ⟨⟨m9, z9⟩, -, -⟩ := (hR.2.2.2.2.1.2.2.1 k9 hk9 trivial).1; exact (ne_n z9 hql).symm⟩ q1 q2 q3
                        have hsz2 : h' sz = some (arI g 11 F9) := (add_keepI hR1.2.2.2.2.1.1 hR1.2.2.2.1 q1 q3 hsz1).trans hsz1
                        clear hsz
                        have hsz := hsz2
                        obtain ⟨ka, ty, al, aa, ab, hR⟩ : ∃ (ka : Nat) (ty : List Nat) (al aa : Nat → Nat) (ab : Nat → List Nat), MR0 g h' mo (baseS.take 11) kl ka ty al aa ab (p1, p2, p3, p4) := ⟨_, _, _, _, _, hR2⟩
                        clear hR1 hc9 q1 q2 q3 hR2 hk1 hk0 hq hsz1 hsz2 hALq hql hex nqq w1 w2 w3 w4 hm
                        refine lv_pop hx hb dX7_init_132 rfl ?_
                        obtain ⟨z133, ez133⟩ : ∃ y : Int32, y = 10 + 1 := ⟨_, rfl⟩
                        refine lv_iinc (v := z133) (lv' := [(2, .int z133), (1, .ref sz), (0, .ref mo)]) hx hb dX7_init_133 hl (k := 0) rfl (by rw [ez133]; rfl) (by decide) rfl (fun ls hl => ?_)
                        have ez : z133 = 11 := ez133.trans (by decide)
                        subst ez
                        refine lv_goto (tgt := 106) hx hb dX7_init_136 (by decide) ?_
                        obtain ⟨mem, rea, ali, hm⟩ := id hR.1
                        refine lv_iload_n hx hb dX7_init_106 rfl (lv_at hl 0 rfl) ?_
                        refine lv_bipush (v := 11) hx hb dX7_init_107 (by decide) ?_
                        refine lv_icmp_ge (tgt := 139) hx hb dX7_init_109 (by decide) (fun c109 => ?_) (fun c109 => ?_)
                        · exact r_void hx hb hr hlocks hw dX7_init_139 (Nat.le_of_ble_eq_true rfl) (Nat.le_of_ble_eq_true rfl) (⟨rfl, _, _, _, _, _, _, _, hR⟩)
                        · exact absurd (by decide) c109
