/-! the desk: its constructor -/
theorem in_X4_init_0 : ∀ w ∈ u_ws RJx4a65c TJx4a65c 3, w ∈ wsX4_init := by decide +kernel
theorem in_X4_init_3 : ∀ w ∈ u_ws RX2 TX2 5, w ∈ wsX4_init := by decide +kernel
theorem in_X4_init_4 : ∀ w ∈ u_ws RX4 TX4 1, w ∈ wsX4_init := by decide +kernel
set_option maxHeartbeats 4000000 in
set_option maxRecDepth 100000 in
theorem c_Desk_init (l : Launch) (g : GG) (h : Nat → Option va_E) (x : Nat) (hx0 : h x = some (.inr (4, [.null]))) : Con l yX4_init wsX4_init 7 171 23 8858 [.ref x] g h (fun v h' => v = none ∧ DR g h' x baseS) := by
  refine m_start (cc := cX4_init) (maxL := 3) (ret := none) (by decide) rfl (Nat.le_of_ble_eq_true rfl) ?_
  intro p e s m below meth c A ls hx hb hr hml hts hown hlocks hin hw hl
  have hl : lv_has ls 3 [(0, .ref x)] := hl
  have hown : s.vm.findClass RX4 = some m.cls := hown
  refine lv_aload_n hx hb dX4_init_0 rfl (lv_at hl 0 rfl) ?_
  refine W.objInit hx hb hown (hts (.methodLink RX4 1 objectInit) (by decide +kernel)) (hts (.instanceMethod objectInit) (by decide +kernel)) (hts _ (List.mem_of_getElem? (i := 3) rfl)) rfl (by rw [hml]; exact hl.1) rfl dX4_init_1 (Nat.le_of_ble_eq_true rfl) (Nat.le_of_ble_eq_true rfl) ?_
  refine W.eq (g2 := F0 m 4 ls []) rfl ?_
  refine lv_aload_n hx hb dX4_init_4 rfl (lv_at hl 0 rfl) ?_
  refine w_new (ci := 0) (C := RJx4a65c) (T := TJx4a65c) (N := 3) (fs := [.int 0, .null, .int 0]) hx hb hts in_X4_init_0 tyJx4a65c tyJx4a65c_ok hown (hts (.classLink RX4 7 RJx4a65c) (by decide +kernel)) (hts (.instantiable RJx4a65c 3) (by decide +kernel)) (hts (.initialized RJx4a65c) (by decide +kernel)) hw rfl (fun j hj => by rcases (show j = 0 ∨ j = 1 ∨ j = 2 by omega) with rfl | rfl | rfl <;> rfl) (Nat.le_of_ble_eq_true rfl) (Nat.le_of_ble_eq_true rfl) dX4_init_5 (fun kl H hkl hw => ?_)
  refine lv_dup hx hb dX4_init_8 rfl ?_
  refine w_call (va_runI (As := []) (rest := [.ref kl, .ref x]) ⟨hx, hb, hml, hown, hts⟩ (c_AL_init l g (wu h kl (.inr (0, [.int 0, .null, .int 0]))) kl 0 0 .null (wu_s _ _ _) H.size) (cwI 0 hts gX4_init_Jx4a65c_init_da8c8 rfl rfl rfl (hts (.initialized RJx4a65c) (by decide +kernel)) (hts (.methodLink RX4 9 yJx4a65c_init_da8c8) (by decide +kernel)) (hts (.instanceMethod yJx4a65c_init_da8c8) (by decide +kernel)) rfl (by decide +kernel) ⟨Nat.le_of_ble_eq_true rfl, Nat.le_of_ble_eq_true rfl⟩) ⟨pr_blind, pr_of hw⟩ rfl rfl hl.1 rfl (lv_room (Nat.le_of_ble_eq_true rfl)) dX4_init_9 ⟨Nat.le_of_ble_eq_true rfl, Nat.le_of_ble_eq_true rfl⟩) hw (fun v h' H locs hp hw => ?_)
  obtain ⟨rfl, rfl⟩ := hp
  refine W.eq (g2 := F0 m 12 ls [.ref kl, .ref x]) rfl ?_
  refine w_putF (ci := 4) (C := RX4) (T := TX4) (N := 1) (ref := "LayoutDesk") (ty := .object "java/util/ArrayList") (fs' := [.ref kl]) hx hb hts in_X4_init_4 tyX4 tyX4_ok nmX4 hown hw ((wu_n (ne_n hx0 hkl)).trans ((wu_n (ne_n hx0 hkl)).trans hx0)) rfl 0 (by decide) (hts (.fieldLink RX4 10 "LayoutDesk" "known" "Ljava/util/ArrayList;") (by decide +kernel)) (fun _ h9 => h9) rfl hin rfl (by decide +kernel) rfl rfl (Nat.le_of_ble_eq_true rfl) rfl dX4_init_12 (fun H locs hw => ?_)
  refine lv_iconst (v := 0) hx hb dX4_init_15 (by decide) ?_
  refine lv_istore_n (lv' := [(1, .int 0), (0, .ref x)]) hx hb dX4_init_16 rfl hl (by decide) rfl (fun ls hl => ?_)
  have hR : DR0 g (wu (wu (wu h kl (.inr (0, [.int 0, .null, .int 0]))) kl (.inr (0, [.int 0, .ref (gZ g), .int 0]))) x (.inr (4, [.ref kl]))) x (baseS.take 0) kl (gZ g) [] (fun _ => 0) (fun _ => 0) (fun _ => []) := ⟨wu_s _ _ _, w_z hw, ⟨⟨⟨0, ((wu_n ((ne_n hx0 hkl)).symm).trans (wu_s _ _ _))⟩, fun z hz => (by cases hz), Or.inr ⟨rfl, w_z hw, rfl⟩⟩, List.nodup_nil, fun k hk => absurd hk (Nat.not_lt_zero _), fun j k hj => absurd hj (Nat.not_lt_zero _)⟩, rfl, fun k T a hk => (by cases hk)⟩
  obtain ⟨ka, ty, ml, ma, mb, hR⟩ : ∃ (ka : Nat) (ty : List Nat) (ml ma : Nat → Nat) (mb : Nat → List Nat), DR0 g (wu (wu (wu h kl (.inr (0, [.int 0, .null, .int 0]))) kl (.inr (0, [.int 0, .ref (gZ g), .int 0]))) x (.inr (4, [.ref kl]))) x (baseS.take 0) kl ka ty ml ma mb := ⟨_, _, _, _, _, hR⟩
  generalize (wu (wu (wu h kl (.inr (0, [.int 0, .null, .int 0]))) kl (.inr (0, [.int 0, .ref (gZ g), .int 0]))) x (.inr (4, [.ref kl]))) = h0 at hw hR
  clear hkl
  refine lv_iload_n hx hb dX4_init_17 rfl (lv_at hl 0 rfl) ?_
  refine va_gets hx hb hw.2.2.2.2.2.2.1 hw.2.2.1 hown (hts (.fieldLink RX4 16 "LayoutDesk" "BASIC_BYTES" "[I") (by decide +kernel)) (fun _ h9 => h9) dX4_init_18 ?_
  refine va_tlen (v := 11) hx hb hw.2.2.2.2.2.2.2.1 hw.2.2.1 (by decide) dX4_init_21 ?_
  refine lv_icmp_ge (tgt := 61) hx hb dX4_init_22 (by decide) (fun c22 => ?_) (fun c22 => ?_)
  · exact absurd c22 (by decide)
  · refine va_gets hx hb hw.2.2.2.2.2.2.1 hw.2.2.1 hown (hts (.fieldLink RX4 16 "LayoutDesk" "BASIC_BYTES" "[I") (by decide +kernel)) (fun _ h9 => h9) dX4_init_25 ?_
    refine lv_iload_n hx hb dX4_init_28 rfl (lv_at hl 0 rfl) ?_
    refine va_ti (v := .int 0) hx hb hw.2.2.2.2.2.2.2.1 hw.2.2.1 (by unfold vp_in; decide) (by decide) dX4_init_29 ?_
    refine lv_istore_n (lv' := [(2, .int 0), (1, .int 0), (0, .ref x)]) hx hb dX4_init_30 rfl hl (by decide) rfl (fun ls hl => ?_)
    refine lv_aload_n hx hb dX4_init_31 rfl (lv_at hl 2 rfl) ?_
    refine w_get (ci := 4) (C := RX4) (T := TX4) (N := 1) (ref := "LayoutDesk") hx hb hts in_X4_init_4 hown hw hR.1 rfl 0 (by decide) (hts (.fieldLink RX4 10 "LayoutDesk" "known" "Ljava/util/ArrayList;") (by decide +kernel)) (fun _ h9 => h9) rfl dX4_init_32 ?_
    refine w_new (ci := 3) (C := RX2) (T := TX2) (N := 5) (fs := [.int 0, .int 0, .int 0, .int 0, .int 0]) hx hb hts in_X4_init_3 tyX2 tyX2_ok hown (hts (.classLink RX4 20 RX2) (by decide +kernel)) (hts (.instantiable RX2 5) (by decide +kernel)) (hts (.initialized RX2) (by decide +kernel)) hw rfl (fun j hj => by rcases (show j = 0 ∨ j = 1 ∨ j = 2 ∨ j = 3 ∨ j = 4 by omega) with rfl | rfl | rfl | rfl | rfl <;> rfl) (Nat.le_of_ble_eq_true rfl) (Nat.le_of_ble_eq_true rfl) dX4_init_35 (fun q H hq hw => ?_)
    refine lv_dup hx hb dX4_init_38 rfl ?_
    refine lv_iconst (v := 0) hx hb dX4_init_39 (by decide) ?_
    refine lv_iconst (v := (-1)) hx hb dX4_init_40 (by decide) ?_
    refine lv_iconst (v := 0) hx hb dX4_init_41 (by decide) ?_
    refine lv_iload_n hx hb dX4_init_42 rfl (lv_at hl 0 rfl) ?_
    refine lv_iload_n hx hb dX4_init_43 rfl (lv_at hl 0 rfl) ?_
    refine lv_iconst (v := 4) hx hb dX4_init_44 (by decide) ?_
    refine va_mmin hx hb (hml.trans hl.1.symm) hown (hts (.methodLink RX4 22 Lib.Math.min.name) (by decide +kernel)) (hts (.static Lib.Math.min.name) (by decide +kernel)) (hts (.initialized "java/lang/Math") (by decide +kernel)) (hts _ (List.mem_of_getElem? (i := 15) rfl)) (Nat.le_of_ble_eq_true rfl) (Nat.le_of_ble_eq_true rfl) (Nat.le_of_ble_eq_true rfl) (Nat.le_of_ble_eq_true rfl) dX4_init_45 ?_
    refine lv_topi (fun mn emn => ?_)
    have emn2 : mn = 0 := emn.trans (by decide)
    subst emn2
    refine w_call (va_runI (As := [.int 0, .int (-1), .int 0, .int 0, .int 0]) (rest := [.ref q, .ref kl]) ⟨hx, hb, hml, hown, hts⟩ (c_Simple_init l g (wu h0 q (.inr (3, [.int 0, .int 0, .int 0, .int 0, .int 0]))) q 0 0 0 0 0 0 (-1) 0 0 0 (wu_s _ _ _) H.size) (cwI 5 hts gX4_init_X2_init rfl rfl rfl (hts (.initialized RX2) (by decide +kernel)) (hts (.methodLink RX4 28 yX2_init) (by decide +kernel)) (hts (.instanceMethod yX2_init) (by decide +kernel)) rfl (by decide +kernel) ⟨Nat.le_of_ble_eq_true rfl, Nat.le_of_ble_eq_true rfl⟩) ⟨pr_blind, pr_of hw⟩ rfl rfl hl.1 rfl (lv_room (Nat.le_of_ble_eq_true rfl)) dX4_init_48 ⟨Nat.le_of_ble_eq_true rfl, Nat.le_of_ble_eq_true rfl⟩) hw (fun v h' H locs hp hw => ?_)
    obtain ⟨rfl, rfl⟩ := hp
    refine W.eq (g2 := F0 m 51 ls [.ref q, .ref kl]) rfl ?_
    have hR1 : DR0 g (wu (wu h0 q (.inr (3, [.int 0, .int 0, .int 0, .int 0, .int 0]))) q (.inr (3, [.int 0, .int 0, .int 0, .int (-1), .int 0]))) x (baseS.take 0) kl ka ty ml ma mb := DR_ext hR (ext_re (ext_new hq) hq) (w_z hw)
    have hc9 : cX (wu (wu h0 q (.inr (3, [.int 0, .int 0, .int 0, .int 0, .int 0]))) q (.inr (3, [.int 0, .int 0, .int 0, .int (-1), .int 0]))) q (0, 0, 0, 0, 0, [], false) 0 [] := Or.inl ⟨show 0 < 3 by decide, wu_s _ _ _⟩
    obtain ⟨⟨mck, hk1⟩, -, -⟩ := id hR1.2.2.1.1
    refine w_call (va_runV (As := [.ref q]) (rest := []) ⟨hx, hb, hml, hown, hts⟩ (c_AL_add l g (wu (wu h0 q (.inr (3, [.int 0, .int 0, .int 0, .int 0, .int 0]))) q (.inr (3, [.int 0, .int 0, .int 0, .int (-1), .int 0]))) kl ka q ty hR1.2.2.1.1 ⟨3, _, wu_s _ _ _, by decide, by decide⟩ (by rw [hR.2.2.2.1]; decide) H.size) (cwV 1 hts gX4_init_Jx4a65c_add_9ea2d rfl rfl rfl (by decide +kernel) ⟨Nat.le_of_ble_eq_true rfl, Nat.le_of_ble_eq_true rfl⟩) ⟨pr_blind, w_recv hw hk1 rfl, pr_of hw⟩ rfl rfl hl.1 rfl (lv_room (Nat.le_of_ble_eq_true rfl)) dX4_init_51 ⟨Nat.le_of_ble_eq_true rfl, Nat.le_of_ble_eq_true rfl⟩) hw (fun v h' H locs hp hw => ?_)
    obtain ⟨ka', rfl, q1, q2, q3⟩ := hp
    refine W.eq (g2 := F0 m 54 ls [.int 1]) rfl ?_
    have hR2 : DR0 g h' x (baseS.take 1) kl ka' (ty ++ [q]) _ _ _ := DR_app 0 hR1 (w_z hw) (ty_fresh (DR_ty hR) hq) hc9 (fun z => absurd (show 3 ≤ 0 from z) (by decide)) q1 q2 q3
    obtain ⟨ka, ty, ml, ma, mb, hR⟩ : ∃ (ka : Nat) (ty : List Nat) (ml ma : Nat → Nat) (mb : Nat → List Nat), DR0 g h' x (baseS.take 1) kl ka ty ml ma mb := ⟨_, _, _, _, _, hR2⟩
    clear hR1 hc9 q1 q2 q3 hR2 hk1 hq
    refine lv_pop hx hb dX4_init_54 rfl ?_
    obtain ⟨z55, ez55⟩ : ∃ y : Int32, y = 0 + 1 := ⟨_, rfl⟩
    refine lv_iinc (v := z55) (lv' := [(1, .int z55), (2, .int 0), (0, .ref x)]) hx hb dX4_init_55 hl (k := 1) rfl (by rw [ez55]; rfl) (by decide) rfl (fun ls hl => ?_)
    have ez : z55 = 1 := ez55.trans (by decide)
    subst ez
    refine lv_goto (tgt := 17) hx hb dX4_init_58 (by decide) ?_
    refine lv_iload_n hx hb dX4_init_17 rfl (lv_at hl 0 rfl) ?_
    refine va_gets hx hb hw.2.2.2.2.2.2.1 hw.2.2.1 hown (hts (.fieldLink RX4 16 "LayoutDesk" "BASIC_BYTES" "[I") (by decide +kernel)) (fun _ h9 => h9) dX4_init_18 ?_
    refine va_tlen (v := 11) hx hb hw.2.2.2.2.2.2.2.1 hw.2.2.1 (by decide) dX4_init_21 ?_
    refine lv_icmp_ge (tgt := 61) hx hb dX4_init_22 (by decide) (fun c22 => ?_) (fun c22 => ?_)
    · exact absurd c22 (by decide)
    · refine va_gets hx hb hw.2.2.2.2.2.2.1 hw.2.2.1 hown (hts (.fieldLink RX4 16 "LayoutDesk" "BASIC_BYTES" "[I") (by decide +kernel)) (fun _ h9 => h9) dX4_init_25 ?_
      refine lv_iload_n hx hb dX4_init_28 rfl (lv_at hl 0 rfl) ?_
      refine va_ti (v := .int 1) hx hb hw.2.2.2.2.2.2.2.1 hw.2.2.1 (by unfold vp_in; decide) (by decide) dX4_init_29 ?_
      refine lv_istore_n (lv' := [(2, .int 1), (1, .int 1), (0, .ref x)]) hx hb dX4_init_30 rfl hl (by decide) rfl (fun ls hl => ?_)
      refine lv_aload_n hx hb dX4_init_31 rfl (lv_at hl 2 rfl) ?_
      refine w_get (ci := 4) (C := RX4) (T := TX4) (N := 1) (ref := "LayoutDesk") hx hb hts in_X4_init_4 hown hw hR.1 rfl 0 (by decide) (hts (.fieldLink RX4 10 "LayoutDesk" "known" "Ljava/util/ArrayList;") (by decide +kernel)) (fun _ h9 => h9) rfl dX4_init_32 ?_
      refine w_new (ci := 3) (C := RX2) (T := TX2) (N := 5) (fs := [.int 0, .int 0, .int 0, .int 0, .int 0]) hx hb hts in_X4_init_3 tyX2 tyX2_ok hown (hts (.classLink RX4 20 RX2) (by decide +kernel)) (hts (.instantiable RX2 5) (by decide +kernel)) (hts (.initialized RX2) (by decide +kernel)) hw rfl (fun j hj => by rcases (show j = 0 ∨ j = 1 ∨ j = 2 ∨ j = 3 ∨ j = 4 by omega) with rfl | rfl | rfl | rfl | rfl <;> rfl) (Nat.le_of_ble_eq_true rfl) (Nat.le_of_ble_eq_true rfl) dX4_init_35 (fun q H hq hw => ?_)
      refine lv_dup hx hb dX4_init_38 rfl ?_
      refine lv_iconst (v := 0) hx hb dX4_init_39 (by decide) ?_
      refine lv_iconst (v := (-1)) hx hb dX4_init_40 (by decide) ?_
      refine lv_iconst (v := 0) hx hb dX4_init_41 (by decide) ?_
      refine lv_iload_n hx hb dX4_init_42 rfl (lv_at hl 0 rfl) ?_
      refine lv_iload_n hx hb dX4_init_43 rfl (lv_at hl 0 rfl) ?_
      refine lv_iconst (v := 4) hx hb dX4_init_44 (by decide) ?_
      refine va_mmin hx hb (hml.trans hl.1.symm) hown (hts (.methodLink RX4 22 Lib.Math.min.name) (by decide +kernel)) (hts (.static Lib.Math.min.name) (by decide +kernel)) (hts (.initialized "java/lang/Math") (by decide +kernel)) (hts _ (List.mem_of_getElem? (i := 15) rfl)) (Nat.le_of_ble_eq_true rfl) (Nat.le_of_ble_eq_true rfl) (Nat.le_of_ble_eq_true rfl) (Nat.le_of_ble_eq_true rfl) dX4_init_45 ?_
      refine lv_topi (fun mn emn => ?_)
      have emn2 : mn = 1 := emn.trans (by decide)
      subst emn2
      refine w_call (va_runI (As := [.int 0, .int (-1), .int 0, .int 1, .int 1]) (rest := [.ref q, .ref kl]) ⟨hx, hb, hml, hown, hts⟩ (c_Simple_init l g (wu h' q (.inr (3, [.int 0, .int 0, .int 0, .int 0, .int 0]))) q 0 0 0 0 0 0 (-1) 0 1 1 (wu_s _ _ _) H.size) (cwI 5 hts gX4_init_X2_init rfl rfl rfl (hts (.initialized RX2) (by decide +kernel)) (hts (.methodLink RX4 28 yX2_init) (by decide +kernel)) (hts (.instanceMethod yX2_init) (by decide +kernel)) rfl (by decide +kernel) ⟨Nat.le_of_ble_eq_true rfl, Nat.le_of_ble_eq_true rfl⟩) ⟨pr_blind, pr_of hw⟩ rfl rfl hl.1 rfl (lv_room (Nat.le_of_ble_eq_true rfl)) dX4_init_48 ⟨Nat.le_of_ble_eq_true rfl, Nat.le_of_ble_eq_true rfl⟩) hw (fun v h' H locs hp hw => ?_)
      obtain ⟨rfl, rfl⟩ := hp
      refine W.eq (g2 := F0 m 51 ls [.ref q, .ref kl]) rfl ?_
      have hR1 : DR0 g (wu (wu h' q (.inr (3, [.int 0, .int 0, .int 0, .int 0, .int 0]))) q (.inr (3, [.int 1, .int 1, .int 0, .int (-1), .int 0]))) x (baseS.take 1) kl ka ty ml ma mb := DR_ext hR (ext_re (ext_new hq) hq) (w_z hw)
      have hc9 : cX (wu (wu h' q (.inr (3, [.int 0, .int 0, .int 0, .int 0, .int 0]))) q (.inr (3, [.int 1, .int 1, .int 0, .int (-1), .int 0]))) q (0, 0, 0, 1, 1, [], false) 0 [] := Or.inl ⟨show 0 < 3 by decide, wu_s _ _ _⟩
      obtain ⟨⟨mck, hk1⟩, -, -⟩ := id hR1.2.2.1.1
      refine w_call (va_runV (As := [.ref q]) (rest := []) ⟨hx, hb, hml, hown, hts⟩ (c_AL_add l g (wu (wu h' q (.inr (3, [.int 0, .int 0, .int 0, .int 0, .int 0]))) q (.inr (3, [.int 1, .int 1, .int 0, .int (-1), .int 0]))) kl ka q ty hR1.2.2.1.1 ⟨3, _, wu_s _ _ _, by decide, by decide⟩ (by rw [hR.2.2.2.1]; decide) H.size) (cwV 1 hts gX4_init_Jx4a65c_add_9ea2d rfl rfl rfl (by decide +kernel) ⟨Nat.le_of_ble_eq_true rfl, Nat.le_of_ble_eq_true rfl⟩) ⟨pr_blind, w_recv hw hk1 rfl, pr_of hw⟩ rfl rfl hl.1 rfl (lv_room (Nat.le_of_ble_eq_true rfl)) dX4_init_51 ⟨Nat.le_of_ble_eq_true rfl, Nat.le_of_ble_eq_true rfl⟩) hw (fun v h' H locs hp hw => ?_)
      obtain ⟨ka', rfl, q1, q2, q3⟩ := hp
      refine W.eq (g2 := F0 m 54 ls [.int 1]) rfl ?_
      have hR2 : DR0 g h' x (baseS.take 2) kl ka' (ty ++ [q]) _ _ _ := DR_app 0 hR1 (w_z hw) (ty_fresh (DR_ty hR) hq) hc9 (fun z => absurd (show 3 ≤ 0 from z) (by decide)) q1 q2 q3
      obtain ⟨ka, ty, ml, ma, mb, hR⟩ : ∃ (ka : Nat) (ty : List Nat) (ml ma : Nat → Nat) (mb : Nat → List Nat), DR0 g h' x (baseS.take 2) kl ka ty ml ma mb := ⟨_, _, _, _, _, hR2⟩
      clear hR1 hc9 q1 q2 q3 hR2 hk1 hq
      refine lv_pop hx hb dX4_init_54 rfl ?_
      obtain ⟨z55, ez55⟩ : ∃ y : Int32, y = 1 + 1 := ⟨_, rfl⟩
      refine lv_iinc (v := z55) (lv' := [(1, .int z55), (2, .int 1), (0, .ref x)]) hx hb dX4_init_55 hl (k := 1) rfl (by rw [ez55]; rfl) (by decide) rfl (fun ls hl => ?_)
      have ez : z55 = 2 := ez55.trans (by decide)
      subst ez
      refine lv_goto (tgt := 17) hx hb dX4_init_58 (by decide) ?_
      refine lv_iload_n hx hb dX4_init_17 rfl (lv_at hl 0 rfl) ?_
      refine va_gets hx hb hw.2.2.2.2.2.2.1 hw.2.2.1 hown (hts (.fieldLink RX4 16 "LayoutDesk" "BASIC_BYTES" "[I") (by decide +kernel)) (fun _ h9 => h9) dX4_init_18 ?_
      refine va_tlen (v := 11) hx hb hw.2.2.2.2.2.2.2.1 hw.2.2.1 (by decide) dX4_init_21 ?_
      refine lv_icmp_ge (tgt := 61) hx hb dX4_init_22 (by decide) (fun c22 => ?_) (fun c22 => ?_)
      · exact absurd c22 (by decide)
      · refine va_gets hx hb hw.2.2.2.2.2.2.1 hw.2.2.1 hown (hts (.fieldLink RX4 16 "LayoutDesk" "BASIC_BYTES" "[I") (by decide +kernel)) (fun _ h9 => h9) dX4_init_25 ?_
        refine lv_iload_n hx hb dX4_init_28 rfl (lv_at hl 0 rfl) ?_
        refine va_ti (v := .int 1) hx hb hw.2.2.2.2.2.2.2.1 hw.2.2.1 (by unfold vp_in; decide) (by decide) dX4_init_29 ?_
        refine lv_istore_n (lv' := [(2, .int 1), (1, .int 2), (0, .ref x)]) hx hb dX4_init_30 rfl hl (by decide) rfl (fun ls hl => ?_)
        refine lv_aload_n hx hb dX4_init_31 rfl (lv_at hl 2 rfl) ?_
        refine w_get (ci := 4) (C := RX4) (T := TX4) (N := 1) (ref := "LayoutDesk") hx hb hts in_X4_init_4 hown hw hR.1 rfl 0 (by decide) (hts (.fieldLink RX4 10 "LayoutDesk" "known" "Ljava/util/ArrayList;") (by decide +kernel)) (fun _ h9 => h9) rfl dX4_init_32 ?_
        refine w_new (ci := 3) (C := RX2) (T := TX2) (N := 5) (fs := [.int 0, .int 0, .int 0, .int 0, .int 0]) hx hb hts in_X4_init_3 tyX2 tyX2_ok hown (hts (.classLink RX4 20 RX2) (by decide +kernel)) (hts (.instantiable RX2 5) (by decide +kernel)) (hts (.initialized RX2) (by decide +kernel)) hw rfl (fun j hj => by rcases (show j = 0 ∨ j = 1 ∨ j = 2 ∨ j = 3 ∨ j = 4 by omega) with rfl | rfl | rfl | rfl | rfl <;> rfl) (Nat.le_of_ble_eq_true rfl) (Nat.le_of_ble_eq_true rfl) dX4_init_35 (fun q H hq hw => ?_)
        refine lv_dup hx hb dX4_init_38 rfl ?_
        refine lv_iconst (v := 0) hx hb dX4_init_39 (by decide) ?_
        refine lv_iconst (v := (-1)) hx hb dX4_init_40 (by decide) ?_
        refine lv_iconst (v := 0) hx hb dX4_init_41 (by decide) ?_
        refine lv_iload_n hx hb dX4_init_42 rfl (lv_at hl 0 rfl) ?_
        refine lv_iload_n hx hb dX4_init_43 rfl (lv_at hl 0 rfl) ?_
        refine lv_iconst (v := 4) hx hb dX4_init_44 (by decide) ?_
        refine va_mmin hx hb (hml.trans hl.1.symm) hown (hts (.methodLink RX4 22 Lib.Math.min.name) (by decide +kernel)) (hts (.static Lib.Math.min.name) (by decide +kernel)) (hts (.initialized "java/lang/Math") (by decide +kernel)) (hts _ (List.mem_of_getElem? (i := 15) rfl)) (Nat.le_of_ble_eq_true rfl) (Nat.le_of_ble_eq_true rfl) (Nat.le_of_ble_eq_true rfl) (Nat.le_of_ble_eq_true rfl) dX4_init_45 ?_
        refine lv_topi (fun mn emn => ?_)
        have emn2 : mn = 1 := emn.trans (by decide)
        subst emn2
        refine w_call (va_runI (As := [.int 0, .int (-1), .int 0, .int 1, .int 1]) (rest := [.ref q, .ref kl]) ⟨hx, hb, hml, hown, hts⟩ (c_Simple_init l g (wu h' q (.inr (3, [.int 0, .int 0, .int 0, .int 0, .int 0]))) q 0 0 0 0 0 0 (-1) 0 1 1 (wu_s _ _ _) H.size) (cwI 5 hts gX4_init_X2_init rfl rfl rfl (hts (.initialized RX2) (by decide +kernel)) (hts (.methodLink RX4 28 yX2_init) (by decide +kernel)) (hts (.instanceMethod yX2_init) (by decide +kernel)) rfl (by decide +kernel) ⟨Nat.le_of_ble_eq_true rfl, Nat.le_of_ble_eq_true rfl⟩) ⟨pr_blind, pr_of hw⟩ rfl rfl hl.1 rfl (lv_room (Nat.le_of_ble_eq_true rfl)) dX4_init_48 ⟨Nat.le_of_ble_eq_true rfl, Nat.le_of_ble_eq_true rfl⟩) hw (fun v h' H locs hp hw => ?_)
        obtain ⟨rfl, rfl⟩ := hp
        refine W.eq (g2 := F0 m 51 ls [.ref q, .ref kl]) rfl ?_
        have hR1 : DR0 g (wu (wu h' q (.inr (3, [.int 0, .int 0, .int 0, .int 0, .int 0]))) q (.inr (3, [.int 1, .int 1, .int 0, .int (-1), .int 0]))) x (baseS.take 2) kl ka ty ml ma mb := DR_ext hR (ext_re (ext_new hq) hq) (w_z hw)
        have hc9 : cX (wu (wu h' q (.inr (3, [.int 0, .int 0, .int 0, .int 0, .int 0]))) q (.inr (3, [.int 1, .int 1, .int 0, .int (-1), .int 0]))) q (0, 0, 0, 1, 1, [], false) 0 [] := Or.inl ⟨show 0 < 3 by decide, wu_s _ _ _⟩
        obtain ⟨⟨mck, hk1⟩, -, -⟩ := id hR1.2.2.1.1
        refine w_call (va_runV (As := [.ref q]) (rest := []) ⟨hx, hb, hml, hown, hts⟩ (c_AL_add l g (wu (wu h' q (.inr (3, [.int 0, .int 0, .int 0, .int 0, .int 0]))) q (.inr (3, [.int 1, .int 1, .int 0, .int (-1), .int 0]))) kl ka q ty hR1.2.2.1.1 ⟨3, _, wu_s _ _ _, by decide, by decide⟩ (by rw [hR.2.2.2.1]; decide) H.size) (cwV 1 hts gX4_init_Jx4a65c_add_9ea2d rfl rfl rfl (by decide +kernel) ⟨Nat.le_of_ble_eq_true rfl, Nat.le_of_ble_eq_true rfl⟩) ⟨pr_blind, w_recv hw hk1 rfl, pr_of hw⟩ rfl rfl hl.1 rfl (lv_room (Nat.le_of_ble_eq_true rfl)) dX4_init_51 ⟨Nat.le_of_ble_eq_true rfl, Nat.le_of_ble_eq_true rfl⟩) hw (fun v h' H locs hp hw => ?_)
        obtain ⟨ka', rfl, q1, q2, q3⟩ := hp
        refine W.eq (g2 := F0 m 54 ls [.int 1]) rfl ?_
        have hR2 : DR0 g h' x (baseS.take 3) kl ka' (ty ++ [q]) _ _ _ := DR_app 0 hR1 (w_z hw) (ty_fresh (DR_ty hR) hq) hc9 (fun z => absurd (show 3 ≤ 0 from z) (by decide)) q1 q2 q3
        obtain ⟨ka, ty, ml, ma, mb, hR⟩ : ∃ (ka : Nat) (ty : List Nat) (ml ma : Nat → Nat) (mb : Nat → List Nat), DR0 g h' x (baseS.take 3) kl ka ty ml ma mb := ⟨_, _, _, _, _, hR2⟩
        clear hR1 hc9 q1 q2 q3 hR2 hk1 hq
        refine lv_pop hx hb dX4_init_54 rfl ?_
        obtain ⟨z55, ez55⟩ : ∃ y : Int32, y = 2 + 1 := ⟨_, rfl⟩
        refine lv_iinc (v := z55) (lv' := [(1, .int z55), (2, .int 1), (0, .ref x)]) hx hb dX4_init_55 hl (k := 1) rfl (by rw [ez55]; rfl) (by decide) rfl (fun ls hl => ?_)
        have ez : z55 = 3 := ez55.trans (by decide)
        subst ez
        refine lv_goto (tgt := 17) hx hb dX4_init_58 (by decide) ?_
        refine lv_iload_n hx hb dX4_init_17 rfl (lv_at hl 0 rfl) ?_
        refine va_gets hx hb hw.2.2.2.2.2.2.1 hw.2.2.1 hown (hts (.fieldLink RX4 16 "LayoutDesk" "BASIC_BYTES" "[I") (by decide +kernel)) (fun _ h9 => h9) dX4_init_18 ?_
        refine va_tlen (v := 11) hx hb hw.2.2.2.2.2.2.2.1 hw.2.2.1 (by decide) dX4_init_21 ?_
        refine lv_icmp_ge (tgt := 61) hx hb dX4_init_22 (by decide) (fun c22 => ?_) (fun c22 => ?_)
        · exact absurd c22 (by decide)
        · refine va_gets hx hb hw.2.2.2.2.2.2.1 hw.2.2.1 hown (hts (.fieldLink RX4 16 "LayoutDesk" "BASIC_BYTES" "[I") (by decide +kernel)) (fun _ h9 => h9) dX4_init_25 ?_
          refine lv_iload_n hx hb dX4_init_28 rfl (lv_at hl 0 rfl) ?_
          refine va_ti (v := .int 2) hx hb hw.2.2.2.2.2.2.2.1 hw.2.2.1 (by unfold vp_in; decide) (by decide) dX4_init_29 ?_
          refine lv_istore_n (lv' := [(2, .int 2), (1, .int 3), (0, .ref x)]) hx hb dX4_init_30 rfl hl (by decide) rfl (fun ls hl => ?_)
          refine lv_aload_n hx hb dX4_init_31 rfl (lv_at hl 2 rfl) ?_
          refine w_get (ci := 4) (C := RX4) (T := TX4) (N := 1) (ref := "LayoutDesk") hx hb hts in_X4_init_4 hown hw hR.1 rfl 0 (by decide) (hts (.fieldLink RX4 10 "LayoutDesk" "known" "Ljava/util/ArrayList;") (by decide +kernel)) (fun _ h9 => h9) rfl dX4_init_32 ?_
          refine w_new (ci := 3) (C := RX2) (T := TX2) (N := 5) (fs := [.int 0, .int 0, .int 0, .int 0, .int 0]) hx hb hts in_X4_init_3 tyX2 tyX2_ok hown (hts (.classLink RX4 20 RX2) (by decide +kernel)) (hts (.instantiable RX2 5) (by decide +kernel)) (hts (.initialized RX2) (by decide +kernel)) hw rfl (fun j hj => by rcases (show j = 0 ∨ j = 1 ∨ j = 2 ∨ j = 3 ∨ j = 4 by omega) with rfl | rfl | rfl | rfl | rfl <;> rfl) (Nat.le_of_ble_eq_true rfl) (Nat.le_of_ble_eq_true rfl) dX4_init_35 (fun q H hq hw => ?_)
          refine lv_dup hx hb dX4_init_38 rfl ?_
          refine lv_iconst (v := 0) hx hb dX4_init_39 (by decide) ?_
          refine lv_iconst (v := (-1)) hx hb dX4_init_40 (by decide) ?_
          refine lv_iconst (v := 0) hx hb dX4_init_41 (by decide) ?_
          refine lv_iload_n hx hb dX4_init_42 rfl (lv_at hl 0 rfl) ?_
          refine lv_iload_n hx hb dX4_init_43 rfl (lv_at hl 0 rfl) ?_
          refine lv_iconst (v := 4) hx hb dX4_init_44 (by decide) ?_
          refine va_mmin hx hb (hml.trans hl.1.symm) hown (hts (.methodLink RX4 22 Lib.Math.min.name) (by decide +kernel)) (hts (.static Lib.Math.min.name) (by decide +kernel)) (hts (.initialized "java/lang/Math") (by decide +kernel)) (hts _ (List.mem_of_getElem? (i := 15) rfl)) (Nat.le_of_ble_eq_true rfl) (Nat.le_of_ble_eq_true rfl) (Nat.le_of_ble_eq_true rfl) (Nat.le_of_ble_eq_true rfl) dX4_init_45 ?_
          refine lv_topi (fun mn emn => ?_)
          have emn2 : mn = 2 := emn.trans (by decide)
          subst emn2
          refine w_call (va_runI (As := [.int 0, .int (-1), .int 0, .int 2, .int 2]) (rest := [.ref q, .ref kl]) ⟨hx, hb, hml, hown, hts⟩ (c_Simple_init l g (wu h' q (.inr (3, [.int 0, .int 0, .int 0, .int 0, .int 0]))) q 0 0 0 0 0 0 (-1) 0 2 2 (wu_s _ _ _) H.size) (cwI 5 hts gX4_init_X2_init rfl rfl rfl (hts (.initialized RX2) (by decide +kernel)) (hts (.methodLink RX4 28 yX2_init) (by decide +kernel)) (hts (.instanceMethod yX2_init) (by decide +kernel)) rfl (by decide +kernel) ⟨Nat.le_of_ble_eq_true rfl, Nat.le_of_ble_eq_true rfl⟩) ⟨pr_blind, pr_of hw⟩ rfl rfl hl.1 rfl (lv_room (Nat.le_of_ble_eq_true rfl)) dX4_init_48 ⟨Nat.le_of_ble_eq_true rfl, Nat.le_of_ble_eq_true rfl⟩) hw (fun v h' H locs hp hw => ?_)
          obtain ⟨rfl, rfl⟩ := hp
          refine W.eq (g2 := F0 m 51 ls [.ref q, .ref kl]) rfl ?_
          have hR1 : DR0 g (wu (wu h' q (.inr (3, [.int 0, .int 0, .int 0, .int 0, .int 0]))) q (.inr (3, [.int 2, .int 2, .int 0, .int (-1), .int 0]))) x (baseS.take 3) kl ka ty ml ma mb := DR_ext hR (ext_re (ext_new hq) hq) (w_z hw)
          have hc9 : cX (wu (wu h' q (.inr (3, [.int 0, .int 0, .int 0, .int 0, .int 0]))) q (.inr (3, [.int 2, .int 2, .int 0, .int (-1), .int 0]))) q (0, 0, 0, 2, 2, [], false) 0 [] := Or.inl ⟨show 0 < 3 by decide, wu_s _ _ _⟩
          obtain ⟨⟨mck, hk1⟩, -, -⟩ := id hR1.2.2.1.1
          refine w_call (va_runV (As := [.ref q]) (rest := []) ⟨hx, hb, hml, hown, hts⟩ (c_AL_add l g (wu (wu h' q (.inr (3, [.int 0, .int 0, .int 0, .int 0, .int 0]))) q (.inr (3, [.int 2, .int 2, .int 0, .int (-1), .int 0]))) kl ka q ty hR1.2.2.1.1 ⟨3, _, wu_s _ _ _, by decide, by decide⟩ (by rw [hR.2.2.2.1]; decide) H.size) (cwV 1 hts gX4_init_Jx4a65c_add_9ea2d rfl rfl rfl (by decide +kernel) ⟨Nat.le_of_ble_eq_true rfl, Nat.le_of_ble_eq_true rfl⟩) ⟨pr_blind, w_recv hw hk1 rfl, pr_of hw⟩ rfl rfl hl.1 rfl (lv_room (Nat.le_of_ble_eq_true rfl)) dX4_init_51 ⟨Nat.le_of_ble_eq_true rfl, Nat.le_of_ble_eq_true rfl⟩) hw (fun v h' H locs hp hw => ?_)
          obtain ⟨ka', rfl, q1, q2, q3⟩ := hp
          refine W.eq (g2 := F0 m 54 ls [.int 1]) rfl ?_
          have hR2 : DR0 g h' x (baseS.take 4) kl ka' (ty ++ [q]) _ _ _ := DR_app 0 hR1 (w_z hw) (ty_fresh (DR_ty hR) hq) hc9 (fun z => absurd (show 3 ≤ 0 from z) (by decide)) q1 q2 q3
          obtain ⟨ka, ty, ml, ma, mb, hR⟩ : ∃ (ka : Nat) (ty : List Nat) (ml ma : Nat → Nat) (mb : Nat → List Nat), DR0 g h' x (baseS.take 4) kl ka ty ml ma mb := ⟨_, _, _, _, _, hR2⟩
          clear hR1 hc9 q1 q2 q3 hR2 hk1 hq
          refine lv_pop hx hb dX4_init_54 rfl ?_
          obtain ⟨z55, ez55⟩ : ∃ y : Int32, y = 3 + 1 := ⟨_, rfl⟩
          refine lv_iinc (v := z55) (lv' := [(1, .int z55), (2, .int 2), (0, .ref x)]) hx hb dX4_init_55 hl (k := 1) rfl (by rw [ez55]; rfl) (by decide) rfl (fun ls hl => ?_)
          have ez : z55 = 4 := ez55.trans (by decide)
          subst ez
          refine lv_goto (tgt := 17) hx hb dX4_init_58 (by decide) ?_
          refine lv_iload_n hx hb dX4_init_17 rfl (lv_at hl 0 rfl) ?_
          refine va_gets hx hb hw.2.2.2.2.2.2.1 hw.2.2.1 hown (hts (.fieldLink RX4 16 "LayoutDesk" "BASIC_BYTES" "[I") (by decide +kernel)) (fun _ h9 => h9) dX4_init_18 ?_
          refine va_tlen (v := 11) hx hb hw.2.2.2.2.2.2.2.1 hw.2.2.1 (by decide) dX4_init_21 ?_
          refine lv_icmp_ge (tgt := 61) hx hb dX4_init_22 (by decide) (fun c22 => ?_) (fun c22 => ?_)
          · exact absurd c22 (by decide)
          · refine va_gets hx hb hw.2.2.2.2.2.2.1 hw.2.2.1 hown (hts (.fieldLink RX4 16 "LayoutDesk" "BASIC_BYTES" "[I") (by decide +kernel)) (fun _ h9 => h9) dX4_init_25 ?_
            refine lv_iload_n hx hb dX4_init_28 rfl (lv_at hl 0 rfl) ?_
            refine va_ti (v := .int 2) hx hb hw.2.2.2.2.2.2.2.1 hw.2.2.1 (by unfold vp_in; decide) (by decide) dX4_init_29 ?_
            refine lv_istore_n (lv' := [(2, .int 2), (1, .int 4), (0, .ref x)]) hx hb dX4_init_30 rfl hl (by decide) rfl (fun ls hl => ?_)
            refine lv_aload_n hx hb dX4_init_31 rfl (lv_at hl 2 rfl) ?_
            refine w_get (ci := 4) (C := RX4) (T := TX4) (N := 1) (ref := "LayoutDesk") hx hb hts in_X4_init_4 hown hw hR.1 rfl 0 (by decide) (hts (.fieldLink RX4 10 "LayoutDesk" "known" "Ljava/util/ArrayList;") (by decide +kernel)) (fun _ h9 => h9) rfl dX4_init_32 ?_
            refine w_new (ci := 3) (C := RX2) (T := TX2) (N := 5) (fs := [.int 0, .int 0, .int 0, .int 0, .int 0]) hx hb hts in_X4_init_3 tyX2 tyX2_ok hown (hts (.classLink RX4 20 RX2) (by decide +kernel)) (hts (.instantiable RX2 5) (by decide +kernel)) (hts (.initialized RX2) (by decide +kernel)) hw rfl (fun j hj => by rcases (show j = 0 ∨ j = 1 ∨ j = 2 ∨ j = 3 ∨ j = 4 by omega) with rfl | rfl | rfl | rfl | rfl <;> rfl) (Nat.le_of_ble_eq_true rfl) (Nat.le_of_ble_eq_true rfl) dX4_init_35 (fun q H hq hw => ?_)
            refine lv_dup hx hb dX4_init_38 rfl ?_
            refine lv_iconst (v := 0) hx hb dX4_init_39 (by decide) ?_
            refine lv_iconst (v := (-1)) hx hb dX4_init_40 (by decide) ?_
            refine lv_iconst (v := 0) hx hb dX4_init_41 (by decide) ?_
            refine lv_iload_n hx hb dX4_init_42 rfl (lv_at hl 0 rfl) ?_
            refine lv_iload_n hx hb dX4_init_43 rfl (lv_at hl 0 rfl) ?_
            refine lv_iconst (v := 4) hx hb dX4_init_44 (by decide) ?_
            refine va_mmin hx hb (hml.trans hl.1.symm) hown (hts (.methodLink RX4 22 Lib.Math.min.name) (by decide +kernel)) (hts (.static Lib.Math.min.name) (by decide +kernel)) (hts (.initialized "java/lang/Math") (by decide +kernel)) (hts _ (List.mem_of_getElem? (i := 15) rfl)) (Nat.le_of_ble_eq_true rfl) (Nat.le_of_ble_eq_true rfl) (Nat.le_of_ble_eq_true rfl) (Nat.le_of_ble_eq_true rfl) dX4_init_45 ?_
            refine lv_topi (fun mn emn => ?_)
            have emn2 : mn = 2 := emn.trans (by decide)
            subst emn2
            refine w_call (va_runI (As := [.int 0, .int (-1), .int 0, .int 2, .int 2]) (rest := [.ref q, .ref kl]) ⟨hx, hb, hml, hown, hts⟩ (c_Simple_init l g (wu h' q (.inr (3, [.int 0, .int 0, .int 0, .int 0, .int 0]))) q 0 0 0 0 0 0 (-1) 0 2 2 (wu_s _ _ _) H.size) (cwI 5 hts gX4_init_X2_init rfl rfl rfl (hts (.initialized RX2) (by decide +kernel)) (hts (.methodLink RX4 28 yX2_init) (by decide +kernel)) (hts (.instanceMethod yX2_init) (by decide +kernel)) rfl (by decide +kernel) ⟨Nat.le_of_ble_eq_true rfl, Nat.le_of_ble_eq_true rfl⟩) ⟨pr_blind, pr_of hw⟩ rfl rfl hl.1 rfl (lv_room (Nat.le_of_ble_eq_true rfl)) dX4_init_48 ⟨Nat.le_of_ble_eq_true rfl, Nat.le_of_ble_eq_true rfl⟩) hw (fun v h' H locs hp hw => ?_)
            obtain ⟨rfl, rfl⟩ := hp
            refine W.eq (g2 := F0 m 51 ls [.ref q, .ref kl]) rfl ?_
            have hR1 : DR0 g (wu (wu h' q (.inr (3, [.int 0, .int 0, .int 0, .int 0, .int 0]))) q (.inr (3, [.int 2, .int 2, .int 0, .int (-1), .int 0]))) x (baseS.take 4) kl ka ty ml ma mb := DR_ext hR (ext_re (ext_new hq) hq) (w_z hw)
            have hc9 : cX (wu (wu h' q (.inr (3, [.int 0, .int 0, .int 0, .int 0, .int 0]))) q (.inr (3, [.int 2, .int 2, .int 0, .int (-1), .int 0]))) q (0, 0, 0, 2, 2, [], false) 0 [] := Or.inl ⟨show 0 < 3 by decide, wu_s _ _ _⟩
            obtain ⟨⟨mck, hk1⟩, -, -⟩ := id hR1.2.2.1.1
            refine w_call (va_runV (As := [.ref q]) (rest := []) ⟨hx, hb, hml, hown, hts⟩ (c_AL_add l g (wu (wu h' q (.inr (3, [.int 0, .int 0, .int 0, .int 0, .int 0]))) q (.inr (3, [.int 2, .int 2, .int 0, .int (-1), .int 0]))) kl ka q ty hR1.2.2.1.1 ⟨3, _, wu_s _ _ _, by decide, by decide⟩ (by rw [hR.2.2.2.1]; decide) H.size) (cwV 1 hts gX4_init_Jx4a65c_add_9ea2d rfl rfl rfl (by decide +kernel) ⟨Nat.le_of_ble_eq_true rfl, Nat.le_of_ble_eq_true rfl⟩) ⟨pr_blind, w_recv hw hk1 rfl, pr_of hw⟩ rfl rfl hl.1 rfl (lv_room (Nat.le_of_ble_eq_true rfl)) dX4_init_51 ⟨Nat.le_of_ble_eq_true rfl, Nat.le_of_ble_eq_true rfl⟩) hw (fun v h' H locs hp hw => ?_)
            obtain ⟨ka', rfl, q1, q2, q3⟩ := hp
            refine W.eq (g2 := F0 m 54 ls [.int 1]) rfl ?_
            have hR2 : DR0 g h' x (baseS.take 5) kl ka' (ty ++ [q]) _ _ _ := DR_app 0 hR1 (w_z hw) (ty_fresh (DR_ty hR) hq) hc9 (fun z => absurd (show 3 ≤ 0 from z) (by decide)) q1 q2 q3
            obtain ⟨ka, ty, ml, ma, mb, hR⟩ : ∃ (ka : Nat) (ty : List Nat) (ml ma : Nat → Nat) (mb : Nat → List Nat), DR0 g h' x (baseS.take 5) kl ka ty ml ma mb := ⟨_, _, _, _, _, hR2⟩
            clear hR1 hc9 q1 q2 q3 hR2 hk1 hq
            refine lv_pop hx hb dX4_init_54 rfl ?_
            obtain ⟨z55, ez55⟩ : ∃ y : Int32, y = 4 + 1 := ⟨_, rfl⟩
            refine lv_iinc (v := z55) (lv' := [(1, .int z55), (2, .int 2), (0, .ref x)]) hx hb dX4_init_55 hl (k := 1) rfl (by rw [ez55]; rfl) (by decide) rfl (fun ls hl => ?_)
            have ez : z55 = 5 := ez55.trans (by decide)
            subst ez
            refine lv_goto (tgt := 17) hx hb dX4_init_58 (by decide) ?_
            refine lv_iload_n hx hb dX4_init_17 rfl (lv_at hl 0 rfl) ?_
            refine va_gets hx hb hw.2.2.2.2.2.2.1 hw.2.2.1 hown (hts (.fieldLink RX4 16 "LayoutDesk" "BASIC_BYTES" "[I") (by decide +kernel)) (fun _ h9 => h9) dX4_init_18 ?_
            refine va_tlen (v := 11) hx hb hw.2.2.2.2.2.2.2.1 hw.2.2.1 (by decide) dX4_init_21 ?_
            refine lv_icmp_ge (tgt := 61) hx hb dX4_init_22 (by decide) (fun c22 => ?_) (fun c22 => ?_)
            · exact absurd c22 (by decide)
            · refine va_gets hx hb hw.2.2.2.2.2.2.1 hw.2.2.1 hown (hts (.fieldLink RX4 16 "LayoutDesk" "BASIC_BYTES" "[I") (by decide +kernel)) (fun _ h9 => h9) dX4_init_25 ?_
              refine lv_iload_n hx hb dX4_init_28 rfl (lv_at hl 0 rfl) ?_
              refine va_ti (v := .int 4) hx hb hw.2.2.2.2.2.2.2.1 hw.2.2.1 (by unfold vp_in; decide) (by decide) dX4_init_29 ?_
              refine lv_istore_n (lv' := [(2, .int 4), (1, .int 5), (0, .ref x)]) hx hb dX4_init_30 rfl hl (by decide) rfl (fun ls hl => ?_)
              refine lv_aload_n hx hb dX4_init_31 rfl (lv_at hl 2 rfl) ?_
              refine w_get (ci := 4) (C := RX4) (T := TX4) (N := 1) (ref := "LayoutDesk") hx hb hts in_X4_init_4 hown hw hR.1 rfl 0 (by decide) (hts (.fieldLink RX4 10 "LayoutDesk" "known" "Ljava/util/ArrayList;") (by decide +kernel)) (fun _ h9 => h9) rfl dX4_init_32 ?_
              refine w_new (ci := 3) (C := RX2) (T := TX2) (N := 5) (fs := [.int 0, .int 0, .int 0, .int 0, .int 0]) hx hb hts in_X4_init_3 tyX2 tyX2_ok hown (hts (.classLink RX4 20 RX2) (by decide +kernel)) (hts (.instantiable RX2 5) (by decide +kernel)) (hts (.initialized RX2) (by decide +kernel)) hw rfl (fun j hj => by rcases (show j = 0 ∨ j = 1 ∨ j = 2 ∨ j = 3 ∨ j = 4 by omega) with rfl | rfl | rfl | rfl | rfl <;> rfl) (Nat.le_of_ble_eq_true rfl) (Nat.le_of_ble_eq_true rfl) dX4_init_35 (fun q H hq hw => ?_)
              refine lv_dup hx hb dX4_init_38 rfl ?_
              refine lv_iconst (v := 0) hx hb dX4_init_39 (by decide) ?_
              refine lv_iconst (v := (-1)) hx hb dX4_init_40 (by decide) ?_
              refine lv_iconst (v := 0) hx hb dX4_init_41 (by decide) ?_
              refine lv_iload_n hx hb dX4_init_42 rfl (lv_at hl 0 rfl) ?_
              refine lv_iload_n hx hb dX4_init_43 rfl (lv_at hl 0 rfl) ?_
              refine lv_iconst (v := 4) hx hb dX4_init_44 (by decide) ?_
              refine va_mmin hx hb (hml.trans hl.1.symm) hown (hts (.methodLink RX4 22 Lib.Math.min.name) (by decide +kernel)) (hts (.static Lib.Math.min.name) (by decide +kernel)) (hts (.initialized "java/lang/Math") (by decide +kernel)) (hts _ (List.mem_of_getElem? (i := 15) rfl)) (Nat.le_of_ble_eq_true rfl) (Nat.le_of_ble_eq_true rfl) (Nat.le_of_ble_eq_true rfl) (Nat.le_of_ble_eq_true rfl) dX4_init_45 ?_
              refine lv_topi (fun mn emn => ?_)
              have emn2 : mn = 4 := emn.trans (by decide)
              subst emn2
              refine w_call (va_runI (As := [.int 0, .int (-1), .int 0, .int 4, .int 4]) (rest := [.ref q, .ref kl]) ⟨hx, hb, hml, hown, hts⟩ (c_Simple_init l g (wu h' q (.inr (3, [.int 0, .int 0, .int 0, .int 0, .int 0]))) q 0 0 0 0 0 0 (-1) 0 4 4 (wu_s _ _ _) H.size) (cwI 5 hts gX4_init_X2_init rfl rfl rfl (hts (.initialized RX2) (by decide +kernel)) (hts (.methodLink RX4 28 yX2_init) (by decide +kernel)) (hts (.instanceMethod yX2_init) (by decide +kernel)) rfl (by decide +kernel) ⟨Nat.le_of_ble_eq_true rfl, Nat.le_of_ble_eq_true rfl⟩) ⟨pr_blind, pr_of hw⟩ rfl rfl hl.1 rfl (lv_room (Nat.le_of_ble_eq_true rfl)) dX4_init_48 ⟨Nat.le_of_ble_eq_true rfl, Nat.le_of_ble_eq_true rfl⟩) hw (fun v h' H locs hp hw => ?_)
              obtain ⟨rfl, rfl⟩ := hp
              refine W.eq (g2 := F0 m 51 ls [.ref q, .ref kl]) rfl ?_
              have hR1 : DR0 g (wu (wu h' q (.inr (3, [.int 0, .int 0, .int 0, .int 0, .int 0]))) q (.inr (3, [.int 4, .int 4, .int 0, .int (-1), .int 0]))) x (baseS.take 5) kl ka ty ml ma mb := DR_ext hR (ext_re (ext_new hq) hq) (w_z hw)
              have hc9 : cX (wu (wu h' q (.inr (3, [.int 0, .int 0, .int 0, .int 0, .int 0]))) q (.inr (3, [.int 4, .int 4, .int 0, .int (-1), .int 0]))) q (0, 0, 0, 4, 4, [], false) 0 [] := Or.inl ⟨show 0 < 3 by decide, wu_s _ _ _⟩
              obtain ⟨⟨mck, hk1⟩, -, -⟩ := id hR1.2.2.1.1
              refine w_call (va_runV (As := [.ref q]) (rest := []) ⟨hx, hb, hml, hown, hts⟩ (c_AL_add l g (wu (wu h' q (.inr (3, [.int 0, .int 0, .int 0, .int 0, .int 0]))) q (.inr (3, [.int 4, .int 4, .int 0, .int (-1), .int 0]))) kl ka q ty hR1.2.2.1.1 ⟨3, _, wu_s _ _ _, by decide, by decide⟩ (by rw [hR.2.2.2.1]; decide) H.size) (cwV 1 hts gX4_init_Jx4a65c_add_9ea2d rfl rfl rfl (by decide +kernel) ⟨Nat.le_of_ble_eq_true rfl, Nat.le_of_ble_eq_true rfl⟩) ⟨pr_blind, w_recv hw hk1 rfl, pr_of hw⟩ rfl rfl hl.1 rfl (lv_room (Nat.le_of_ble_eq_true rfl)) dX4_init_51 ⟨Nat.le_of_ble_eq_true rfl, Nat.le_of_ble_eq_true rfl⟩) hw (fun v h' H locs hp hw => ?_)
              obtain ⟨ka', rfl, q1, q2, q3⟩ := hp
              refine W.eq (g2 := F0 m 54 ls [.int 1]) rfl ?_
              have hR2 : DR0 g h' x (baseS.take 6) kl ka' (ty ++ [q]) _ _ _ := DR_app 0 hR1 (w_z hw) (ty_fresh (DR_ty hR) hq) hc9 (fun z => absurd (show 3 ≤ 0 from z) (by decide)) q1 q2 q3
              obtain ⟨ka, ty, ml, ma, mb, hR⟩ : ∃ (ka : Nat) (ty : List Nat) (ml ma : Nat → Nat) (mb : Nat → List Nat), DR0 g h' x (baseS.take 6) kl ka ty ml ma mb := ⟨_, _, _, _, _, hR2⟩
              clear hR1 hc9 q1 q2 q3 hR2 hk1 hq
              refine lv_pop hx hb dX4_init_54 rfl ?_
              obtain ⟨z55, ez55⟩ : ∃ y : Int32, y = 5 + 1 := ⟨_, rfl⟩
              refine lv_iinc (v := z55) (lv' := [(1, .int z55), (2, .int 4), (0, .ref x)]) hx hb dX4_init_55 hl (k := 1) rfl (by rw [ez55]; rfl) (by decide) rfl (fun ls hl => ?_)
              have ez : z55 = 6 := ez55.trans (by decide)
              subst ez
              refine lv_goto (tgt := 17) hx hb dX4_init_58 (by decide) ?_
              refine lv_iload_n hx hb dX4_init_17 rfl (lv_at hl 0 rfl) ?_
              refine va_gets hx hb hw.2.2.2.2.2.2.1 hw.2.2.1 hown (hts (.fieldLink RX4 16 "LayoutDesk" "BASIC_BYTES" "[I") (by decide +kernel)) (fun _ h9 => h9) dX4_init_18 ?_
              refine va_tlen (v := 11) hx hb hw.2.2.2.2.2.2.2.1 hw.2.2.1 (by decide) dX4_init_21 ?_
              refine lv_icmp_ge (tgt := 61) hx hb dX4_init_22 (by decide) (fun c22 => ?_) (fun c22 => ?_)
              · exact absurd c22 (by decide)
              · refine va_gets hx hb hw.2.2.2.2.2.2.1 hw.2.2.1 hown (hts (.fieldLink RX4 16 "LayoutDesk" "BASIC_BYTES" "[I") (by decide +kernel)) (fun _ h9 => h9) dX4_init_25 ?_
                refine lv_iload_n hx hb dX4_init_28 rfl (lv_at hl 0 rfl) ?_
                refine va_ti (v := .int 4) hx hb hw.2.2.2.2.2.2.2.1 hw.2.2.1 (by unfold vp_in; decide) (by decide) dX4_init_29 ?_
                refine lv_istore_n (lv' := [(2, .int 4), (1, .int 6), (0, .ref x)]) hx hb dX4_init_30 rfl hl (by decide) rfl (fun ls hl => ?_)
                refine lv_aload_n hx hb dX4_init_31 rfl (lv_at hl 2 rfl) ?_
                refine w_get (ci := 4) (C := RX4) (T := TX4) (N := 1) (ref := "LayoutDesk") hx hb hts in_X4_init_4 hown hw hR.1 rfl 0 (by decide) (hts (.fieldLink RX4 10 "LayoutDesk" "known" "Ljava/util/ArrayList;") (by decide +kernel)) (fun _ h9 => h9) rfl dX4_init_32 ?_
                refine w_new (ci := 3) (C := RX2) (T := TX2) (N := 5) (fs := [.int 0, .int 0, .int 0, .int 0, .int 0]) hx hb hts in_X4_init_3 tyX2 tyX2_ok hown (hts (.classLink RX4 20 RX2) (by decide +kernel)) (hts (.instantiable RX2 5) (by decide +kernel)) (hts (.initialized RX2) (by decide +kernel)) hw rfl (fun j hj => by rcases (show j = 0 ∨ j = 1 ∨ j = 2 ∨ j = 3 ∨ j = 4 by omega) with rfl | rfl | rfl | rfl | rfl <;> rfl) (Nat.le_of_ble_eq_true rfl) (Nat.le_of_ble_eq_true rfl) dX4_init_35 (fun q H hq hw => ?_)
                refine lv_dup hx hb dX4_init_38 rfl ?_
                refine lv_iconst (v := 0) hx hb dX4_init_39 (by decide) ?_
                refine lv_iconst (v := (-1)) hx hb dX4_init_40 (by decide) ?_
                refine lv_iconst (v := 0) hx hb dX4_init_41 (by decide) ?_
                refine lv_iload_n hx hb dX4_init_42 rfl (lv_at hl 0 rfl) ?_
                refine lv_iload_n hx hb dX4_init_43 rfl (lv_at hl 0 rfl) ?_
                refine lv_iconst (v := 4) hx hb dX4_init_44 (by decide) ?_
                refine va_mmin hx hb (hml.trans hl.1.symm) hown (hts (.methodLink RX4 22 Lib.Math.min.name) (by decide +kernel)) (hts (.static Lib.Math.min.name) (by decide +kernel)) (hts (.initialized "java/lang/Math") (by decide +kernel)) (hts _ (List.mem_of_getElem? (i := 15) rfl)) (Nat.le_of_ble_eq_true rfl) (Nat.le_of_ble_eq_true rfl) (Nat.le_of_ble_eq_true rfl) (Nat.le_of_ble_eq_true rfl) dX4_init_45 ?_
                refine lv_topi (fun mn emn => ?_)
                have emn2 : mn = 4 := emn.trans (by decide)
                subst emn2
                refine w_call (va_runI (As := [.int 0, .int (-1), .int 0, .int 4, .int 4]) (rest := [.ref q, .ref kl]) ⟨hx, hb, hml, hown, hts⟩ (c_Simple_init l g (wu h' q (.inr (3, [.int 0, .int 0, .int 0, .int 0, .int 0]))) q 0 0 0 0 0 0 (-1) 0 4 4 (wu_s _ _ _) H.size) (cwI 5 hts gX4_init_X2_init rfl rfl rfl (hts (.initialized RX2) (by decide +kernel)) (hts (.methodLink RX4 28 yX2_init) (by decide +kernel)) (hts (.instanceMethod yX2_init) (by decide +kernel)) rfl (by decide +kernel) ⟨Nat.le_of_ble_eq_true rfl, Nat.le_of_ble_eq_true rfl⟩) ⟨pr_blind, pr_of hw⟩ rfl rfl hl.1 rfl (lv_room (Nat.le_of_ble_eq_true rfl)) dX4_init_48 ⟨Nat.le_of_ble_eq_true rfl, Nat.le_of_ble_eq_true rfl⟩) hw (fun v h' H locs hp hw => ?_)
                obtain ⟨rfl, rfl⟩ := hp
                refine W.eq (g2 := F0 m 51 ls [.ref q, .ref kl]) rfl ?_
                have hR1 : DR0 g (wu (wu h' q (.inr (3, [.int 0, .int 0, .int 0, .int 0, .int 0]))) q (.inr (3, [.int 4, .int 4, .int 0, .int (-1), .int 0]))) x (baseS.take 6) kl ka ty ml ma mb := DR_ext hR (ext_re (ext_new hq) hq) (w_z hw)
                have hc9 : cX (wu (wu h' q (.inr (3, [.int 0, .int 0, .int 0, .int 0, .int 0]))) q (.inr (3, [.int 4, .int 4, .int 0, .int (-1), .int 0]))) q (0, 0, 0, 4, 4, [], false) 0 [] := Or.inl ⟨show 0 < 3 by decide, wu_s _ _ _⟩
                obtain ⟨⟨mck, hk1⟩, -, -⟩ := id hR1.2.2.1.1
                refine w_call (va_runV (As := [.ref q]) (rest := []) ⟨hx, hb, hml, hown, hts⟩ (c_AL_add l g (wu (wu h' q (.inr (3, [.int 0, .int 0, .int 0, .int 0, .int 0]))) q (.inr (3, [.int 4, .int 4, .int 0, .int (-1), .int 0]))) kl ka q ty hR1.2.2.1.1 ⟨3, _, wu_s _ _ _, by decide, by decide⟩ (by rw [hR.2.2.2.1]; decide) H.size) (cwV 1 hts gX4_init_Jx4a65c_add_9ea2d rfl rfl rfl (by decide +kernel) ⟨Nat.le_of_ble_eq_true rfl, Nat.le_of_ble_eq_true rfl⟩) ⟨pr_blind, w_recv hw hk1 rfl, pr_of hw⟩ rfl rfl hl.1 rfl (lv_room (Nat.le_of_ble_eq_true rfl)) dX4_init_51 ⟨Nat.le_of_ble_eq_true rfl, Nat.le_of_ble_eq_true rfl⟩) hw (fun v h' H locs hp hw => ?_)
                obtain ⟨ka', rfl, q1, q2, q3⟩ := hp
                refine W.eq (g2 := F0 m 54 ls [.int 1]) rfl ?_
                have hR2 : DR0 g h' x (baseS.take 7) kl ka' (ty ++ [q]) _ _ _ := DR_app 0 hR1 (w_z hw) (ty_fresh (DR_ty hR) hq) hc9 (fun z => absurd (show 3 ≤ 0 from z) (by decide)) q1 q2 q3
                obtain ⟨ka, ty, ml, ma, mb, hR⟩ : ∃ (ka : Nat) (ty : List Nat) (ml ma : Nat → Nat) (mb : Nat → List Nat), DR0 g h' x (baseS.take 7) kl ka ty ml ma mb := ⟨_, _, _, _, _, hR2⟩
                clear hR1 hc9 q1 q2 q3 hR2 hk1 hq
                refine lv_pop hx hb dX4_init_54 rfl ?_
                obtain ⟨z55, ez55⟩ : ∃ y : Int32, y = 6 + 1 := ⟨_, rfl⟩
                refine lv_iinc (v := z55) (lv' := [(1, .int z55), (2, .int 4), (0, .ref x)]) hx hb dX4_init_55 hl (k := 1) rfl (by rw [ez55]; rfl) (by decide) rfl (fun ls hl => ?_)
                have ez : z55 = 7 := ez55.trans (by decide)
                subst ez
                refine lv_goto (tgt := 17) hx hb dX4_init_58 (by decide) ?_
                refine lv_iload_n hx hb dX4_init_17 rfl (lv_at hl 0 rfl) ?_
                refine va_gets hx hb hw.2.2.2.2.2.2.1 hw.2.2.1 hown (hts (.fieldLink RX4 16 "LayoutDesk" "BASIC_BYTES" "[I") (by decide +kernel)) (fun _ h9 => h9) dX4_init_18 ?_
                refine va_tlen (v := 11) hx hb hw.2.2.2.2.2.2.2.1 hw.2.2.1 (by decide) dX4_init_21 ?_
                refine lv_icmp_ge (tgt := 61) hx hb dX4_init_22 (by decide) (fun c22 => ?_) (fun c22 => ?_)
                · exact absurd c22 (by decide)
                · refine va_gets hx hb hw.2.2.2.2.2.2.1 hw.2.2.1 hown (hts (.fieldLink RX4 16 "LayoutDesk" "BASIC_BYTES" "[I") (by decide +kernel)) (fun _ h9 => h9) dX4_init_25 ?_
                  refine lv_iload_n hx hb dX4_init_28 rfl (lv_at hl 0 rfl) ?_
                  refine va_ti (v := .int 8) hx hb hw.2.2.2.2.2.2.2.1 hw.2.2.1 (by unfold vp_in; decide) (by decide) dX4_init_29 ?_
                  refine lv_istore_n (lv' := [(2, .int 8), (1, .int 7), (0, .ref x)]) hx hb dX4_init_30 rfl hl (by decide) rfl (fun ls hl => ?_)
                  refine lv_aload_n hx hb dX4_init_31 rfl (lv_at hl 2 rfl) ?_
                  refine w_get (ci := 4) (C := RX4) (T := TX4) (N := 1) (ref := "LayoutDesk") hx hb hts in_X4_init_4 hown hw hR.1 rfl 0 (by decide) (hts (.fieldLink RX4 10 "LayoutDesk" "known" "Ljava/util/ArrayList;") (by decide +kernel)) (fun _ h9 => h9) rfl dX4_init_32 ?_
                  refine w_new (ci := 3) (C := RX2) (T := TX2) (N := 5) (fs := [.int 0, .int 0, .int 0, .int 0, .int 0]) hx hb hts in_X4_init_3 tyX2 tyX2_ok hown (hts (.classLink RX4 20 RX2) (by decide +kernel)) (hts (.instantiable RX2 5) (by decide +kernel)) (hts (.initialized RX2) (by decide +kernel)) hw rfl (fun j hj => by rcases (show j = 0 ∨ j = 1 ∨ j = 2 ∨ j = 3 ∨ j = 4 by omega) with rfl | rfl | rfl | rfl | rfl <;> rfl) (Nat.le_of_ble_eq_true rfl) (Nat.le_of_ble_eq_true rfl) dX4_init_35 (fun q H hq hw => ?_)
                  refine lv_dup hx hb dX4_init_38 rfl ?_
                  refine lv_iconst (v := 0) hx hb dX4_init_39 (by decide) ?_
                  refine lv_iconst (v := (-1)) hx hb dX4_init_40 (by decide) ?_
                  refine lv_iconst (v := 0) hx hb dX4_init_41 (by decide) ?_
                  refine lv_iload_n hx hb dX4_init_42 rfl (lv_at hl 0 rfl) ?_
                  refine lv_iload_n hx hb dX4_init_43 rfl (lv_at hl 0 rfl) ?_
                  refine lv_iconst (v := 4) hx hb dX4_init_44 (by decide) ?_
                  refine va_mmin hx hb (hml.trans hl.1.symm) hown (hts (.methodLink RX4 22 Lib.Math.min.name) (by decide +kernel)) (hts (.static Lib.Math.min.name) (by decide +kernel)) (hts (.initialized "java/lang/Math") (by decide +kernel)) (hts _ (List.mem_of_getElem? (i := 15) rfl)) (Nat.le_of_ble_eq_true rfl) (Nat.le_of_ble_eq_true rfl) (Nat.le_of_ble_eq_true rfl) (Nat.le_of_ble_eq_true rfl) dX4_init_45 ?_
                  refine lv_topi (fun mn emn => ?_)
                  have emn2 : mn = 4 := emn.trans (by decide)
                  subst emn2
                  refine w_call (va_runI (As := [.int 0, .int (-1), .int 0, .int 8, .int 4]) (rest := [.ref q, .ref kl]) ⟨hx, hb, hml, hown, hts⟩ (c_Simple_init l g (wu h' q (.inr (3, [.int 0, .int 0, .int 0, .int 0, .int 0]))) q 0 0 0 0 0 0 (-1) 0 8 4 (wu_s _ _ _) H.size) (cwI 5 hts gX4_init_X2_init rfl rfl rfl (hts (.initialized RX2) (by decide +kernel)) (hts (.methodLink RX4 28 yX2_init) (by decide +kernel)) (hts (.instanceMethod yX2_init) (by decide +kernel)) rfl (by decide +kernel) ⟨Nat.le_of_ble_eq_true rfl, Nat.le_of_ble_eq_true rfl⟩) ⟨pr_blind, pr_of hw⟩ rfl rfl hl.1 rfl (lv_room (Nat.le_of_ble_eq_true rfl)) dX4_init_48 ⟨Nat.le_of_ble_eq_true rfl, Nat.le_of_ble_eq_true rfl⟩) hw (fun v h' H locs hp hw => ?_)
                  obtain ⟨rfl, rfl⟩ := hp
                  refine W.eq (g2 := F0 m 51 ls [.ref q, .ref kl]) rfl ?_
                  have hR1 : DR0 g (wu (wu h' q (.inr (3, [.int 0, .int 0, .int 0, .int 0, .int 0]))) q (.inr (3, [.int 8, .int 4, .int 0, .int (-1), .int 0]))) x (baseS.take 7) kl ka ty ml ma mb := DR_ext hR (ext_re (ext_new hq) hq) (w_z hw)
                  have hc9 : cX (wu (wu h' q (.inr (3, [.int 0, .int 0, .int 0, .int 0, .int 0]))) q (.inr (3, [.int 8, .int 4, .int 0, .int (-1), .int 0]))) q (0, 0, 0, 8, 4, [], false) 0 [] := Or.inl ⟨show 0 < 3 by decide, wu_s _ _ _⟩
                  obtain ⟨⟨mck, hk1⟩, -, -⟩ := id hR1.2.2.1.1
                  refine w_call (va_runV (As := [.ref q]) (rest := []) ⟨hx, hb, hml, hown, hts⟩ (c_AL_add l g (wu (wu h' q (.inr (3, [.int 0, .int 0, .int 0, .int 0, .int 0]))) q (.inr (3, [.int 8, .int 4, .int 0, .int (-1), .int 0]))) kl ka q ty hR1.2.2.1.1 ⟨3, _, wu_s _ _ _, by decide, by decide⟩ (by rw [hR.2.2.2.1]; decide) H.size) (cwV 1 hts gX4_init_Jx4a65c_add_9ea2d rfl rfl rfl (by decide +kernel) ⟨Nat.le_of_ble_eq_true rfl, Nat.le_of_ble_eq_true rfl⟩) ⟨pr_blind, w_recv hw hk1 rfl, pr_of hw⟩ rfl rfl hl.1 rfl (lv_room (Nat.le_of_ble_eq_true rfl)) dX4_init_51 ⟨Nat.le_of_ble_eq_true rfl, Nat.le_of_ble_eq_true rfl⟩) hw (fun v h' H locs hp hw => ?_)
                  obtain ⟨ka', rfl, q1, q2, q3⟩ := hp
                  refine W.eq (g2 := F0 m 54 ls [.int 1]) rfl ?_
                  have hR2 : DR0 g h' x (baseS.take 8) kl ka' (ty ++ [q]) _ _ _ := DR_app 0 hR1 (w_z hw) (ty_fresh (DR_ty hR) hq) hc9 (fun z => absurd (show 3 ≤ 0 from z) (by decide)) q1 q2 q3
                  obtain ⟨ka, ty, ml, ma, mb, hR⟩ : ∃ (ka : Nat) (ty : List Nat) (ml ma : Nat → Nat) (mb : Nat → List Nat), DR0 g h' x (baseS.take 8) kl ka ty ml ma mb := ⟨_, _, _, _, _, hR2⟩
                  clear hR1 hc9 q1 q2 q3 hR2 hk1 hq
                  refine lv_pop hx hb dX4_init_54 rfl ?_
                  obtain ⟨z55, ez55⟩ : ∃ y : Int32, y = 7 + 1 := ⟨_, rfl⟩
                  refine lv_iinc (v := z55) (lv' := [(1, .int z55), (2, .int 8), (0, .ref x)]) hx hb dX4_init_55 hl (k := 1) rfl (by rw [ez55]; rfl) (by decide) rfl (fun ls hl => ?_)
                  have ez : z55 = 8 := ez55.trans (by decide)
                  subst ez
                  refine lv_goto (tgt := 17) hx hb dX4_init_58 (by decide) ?_
                  refine lv_iload_n hx hb dX4_init_17 rfl (lv_at hl 0 rfl) ?_
                  refine va_gets hx hb hw.2.2.2.2.2.2.1 hw.2.2.1 hown (hts (.fieldLink RX4 16 "LayoutDesk" "BASIC_BYTES" "[I") (by decide +kernel)) (fun _ h9 => h9) dX4_init_18 ?_
                  refine va_tlen (v := 11) hx hb hw.2.2.2.2.2.2.2.1 hw.2.2.1 (by decide) dX4_init_21 ?_
                  refine lv_icmp_ge (tgt := 61) hx hb dX4_init_22 (by decide) (fun c22 => ?_) (fun c22 => ?_)
                  · exact absurd c22 (by decide)
                  · refine va_gets hx hb hw.2.2.2.2.2.2.1 hw.2.2.1 hown (hts (.fieldLink RX4 16 "LayoutDesk" "BASIC_BYTES" "[I") (by decide +kernel)) (fun _ h9 => h9) dX4_init_25 ?_
                    refine lv_iload_n hx hb dX4_init_28 rfl (lv_at hl 0 rfl) ?_
                    refine va_ti (v := .int 8) hx hb hw.2.2.2.2.2.2.2.1 hw.2.2.1 (by unfold vp_in; decide) (by decide) dX4_init_29 ?_
                    refine lv_istore_n (lv' := [(2, .int 8), (1, .int 8), (0, .ref x)]) hx hb dX4_init_30 rfl hl (by decide) rfl (fun ls hl => ?_)
                    refine lv_aload_n hx hb dX4_init_31 rfl (lv_at hl 2 rfl) ?_
                    refine w_get (ci := 4) (C := RX4) (T := TX4) (N := 1) (ref := "LayoutDesk") hx hb hts in_X4_init_4 hown hw hR.1 rfl 0 (by decide) (hts (.fieldLink RX4 10 "LayoutDesk" "known" "Ljava/util/ArrayList;") (by decide +kernel)) (fun _ h9 => h9) rfl dX4_init_32 ?_
                    refine w_new (ci := 3) (C := RX2) (T := TX2) (N := 5) (fs := [.int 0, .int 0, .int 0, .int 0, .int 0]) hx hb hts in_X4_init_3 tyX2 tyX2_ok hown (hts (.classLink RX4 20 RX2) (by decide +kernel)) (hts (.instantiable RX2 5) (by decide +kernel)) (hts (.initialized RX2) (by decide +kernel)) hw rfl (fun j hj => by rcases (show j = 0 ∨ j = 1 ∨ j = 2 ∨ j = 3 ∨ j = 4 by omega) with rfl | rfl | rfl | rfl | rfl <;> rfl) (Nat.le_of_ble_eq_true rfl) (Nat.le_of_ble_eq_true rfl) dX4_init_35 (fun q H hq hw => ?_)
                    refine lv_dup hx hb dX4_init_38 rfl ?_
                    refine lv_iconst (v := 0) hx hb dX4_init_39 (by decide) ?_
                    refine lv_iconst (v := (-1)) hx hb dX4_init_40 (by decide) ?_
                    refine lv_iconst (v := 0) hx hb dX4_init_41 (by decide) ?_
                    refine lv_iload_n hx hb dX4_init_42 rfl (lv_at hl 0 rfl) ?_
                    refine lv_iload_n hx hb dX4_init_43 rfl (lv_at hl 0 rfl) ?_
                    refine lv_iconst (v := 4) hx hb dX4_init_44 (by decide) ?_
                    refine va_mmin hx hb (hml.trans hl.1.symm) hown (hts (.methodLink RX4 22 Lib.Math.min.name) (by decide +kernel)) (hts (.static Lib.Math.min.name) (by decide +kernel)) (hts (.initialized "java/lang/Math") (by decide +kernel)) (hts _ (List.mem_of_getElem? (i := 15) rfl)) (Nat.le_of_ble_eq_true rfl) (Nat.le_of_ble_eq_true rfl) (Nat.le_of_ble_eq_true rfl) (Nat.le_of_ble_eq_true rfl) dX4_init_45 ?_
                    refine lv_topi (fun mn emn => ?_)
                    have emn2 : mn = 4 := emn.trans (by decide)
                    subst emn2
                    refine w_call (va_runI (As := [.int 0, .int (-1), .int 0, .int 8, .int 4]) (rest := [.ref q, .ref kl]) ⟨hx, hb, hml, hown, hts⟩ (c_Simple_init l g (wu h' q (.inr (3, [.int 0, .int 0, .int 0, .int 0, .int 0]))) q 0 0 0 0 0 0 (-1) 0 8 4 (wu_s _ _ _) H.size) (cwI 5 hts gX4_init_X2_init rfl rfl rfl (hts (.initialized RX2) (by decide +kernel)) (hts (.methodLink RX4 28 yX2_init) (by decide +kernel)) (hts (.instanceMethod yX2_init) (by decide +kernel)) rfl (by decide +kernel) ⟨Nat.le_of_ble_eq_true rfl, Nat.le_of_ble_eq_true rfl⟩) ⟨pr_blind, pr_of hw⟩ rfl rfl hl.1 rfl (lv_room (Nat.le_of_ble_eq_true rfl)) dX4_init_48 ⟨Nat.le_of_ble_eq_true rfl, Nat.le_of_ble_eq_true rfl⟩) hw (fun v h' H locs hp hw => ?_)
                    obtain ⟨rfl, rfl⟩ := hp
                    refine W.eq (g2 := F0 m 51 ls [.ref q, .ref kl]) rfl ?_
                    have hR1 : DR0 g (wu (wu h' q (.inr (3, [.int 0, .int 0, .int 0, .int 0, .int 0]))) q (.inr (3, [.int 8, .int 4, .int 0, .int (-1), .int 0]))) x (baseS.take 8) kl ka ty ml ma mb := DR_ext hR (ext_re (ext_new hq) hq) (w_z hw)
                    have hc9 : cX (wu (wu h' q (.inr (3, [.int 0, .int 0, .int 0, .int 0, .int 0]))) q (.inr (3, [.int 8, .int 4, .int 0, .int (-1), .int 0]))) q (0, 0, 0, 8, 4, [], false) 0 [] := Or.inl ⟨show 0 < 3 by decide, wu_s _ _ _⟩
                    obtain ⟨⟨mck, hk1⟩, -, -⟩ := id hR1.2.2.1.1
                    refine w_call (va_runV (As := [.ref q]) (rest := []) ⟨hx, hb, hml, hown, hts⟩ (c_AL_add l g (wu (wu h' q (.inr (3, [.int 0, .int 0, .int 0, .int 0, .int 0]))) q (.inr (3, [.int 8, .int 4, .int 0, .int (-1), .int 0]))) kl ka q ty hR1.2.2.1.1 ⟨3, _, wu_s _ _ _, by decide, by decide⟩ (by rw [hR.2.2.2.1]; decide) H.size) (cwV 1 hts gX4_init_Jx4a65c_add_9ea2d rfl rfl rfl (by decide +kernel) ⟨Nat.le_of_ble_eq_true rfl, Nat.le_of_ble_eq_true rfl⟩) ⟨pr_blind, w_recv hw hk1 rfl, pr_of hw⟩ rfl rfl hl.1 rfl (lv_room (Nat.le_of_ble_eq_true rfl)) dX4_init_51 ⟨Nat.le_of_ble_eq_true rfl, Nat.le_of_ble_eq_true rfl⟩) hw (fun v h' H locs hp hw => ?_)
                    obtain ⟨ka', rfl, q1, q2, q3⟩ := hp
                    refine W.eq (g2 := F0 m 54 ls [.int 1]) rfl ?_
                    have hR2 : DR0 g h' x (baseS.take 9) kl ka' (ty ++ [q]) _ _ _ := DR_app 0 hR1 (w_z hw) (ty_fresh (DR_ty hR) hq) hc9 (fun z => absurd (show 3 ≤ 0 from z) (by decide)) q1 q2 q3
                    obtain ⟨ka, ty, ml, ma, mb, hR⟩ : ∃ (ka : Nat) (ty : List Nat) (ml ma : Nat → Nat) (mb : Nat → List Nat), DR0 g h' x (baseS.take 9) kl ka ty ml ma mb := ⟨_, _, _, _, _, hR2⟩
                    clear hR1 hc9 q1 q2 q3 hR2 hk1 hq
                    refine lv_pop hx hb dX4_init_54 rfl ?_
                    obtain ⟨z55, ez55⟩ : ∃ y : Int32, y = 8 + 1 := ⟨_, rfl⟩
                    refine lv_iinc (v := z55) (lv' := [(1, .int z55), (2, .int 8), (0, .ref x)]) hx hb dX4_init_55 hl (k := 1) rfl (by rw [ez55]; rfl) (by decide) rfl (fun ls hl => ?_)
                    have ez : z55 = 9 := ez55.trans (by decide)
                    subst ez
                    refine lv_goto (tgt := 17) hx hb dX4_init_58 (by decide) ?_
                    refine lv_iload_n hx hb dX4_init_17 rfl (lv_at hl 0 rfl) ?_
                    refine va_gets hx hb hw.2.2.2.2.2.2.1 hw.2.2.1 hown (hts (.fieldLink RX4 16 "LayoutDesk" "BASIC_BYTES" "[I") (by decide +kernel)) (fun _ h9 => h9) dX4_init_18 ?_
                    refine va_tlen (v := 11) hx hb hw.2.2.2.2.2.2.2.1 hw.2.2.1 (by decide) dX4_init_21 ?_
                    refine lv_icmp_ge (tgt := 61) hx hb dX4_init_22 (by decide) (fun c22 => ?_) (fun c22 => ?_)
                    · exact absurd c22 (by decide)
                    · refine va_gets hx hb hw.2.2.2.2.2.2.1 hw.2.2.1 hown (hts (.fieldLink RX4 16 "LayoutDesk" "BASIC_BYTES" "[I") (by decide +kernel)) (fun _ h9 => h9) dX4_init_25 ?_
                      refine lv_iload_n hx hb dX4_init_28 rfl (lv_at hl 0 rfl) ?_
                      refine va_ti (v := .int 4) hx hb hw.2.2.2.2.2.2.2.1 hw.2.2.1 (by unfold vp_in; decide) (by decide) dX4_init_29 ?_
                      refine lv_istore_n (lv' := [(2, .int 4), (1, .int 9), (0, .ref x)]) hx hb dX4_init_30 rfl hl (by decide) rfl (fun ls hl => ?_)
                      refine lv_aload_n hx hb dX4_init_31 rfl (lv_at hl 2 rfl) ?_
                      refine w_get (ci := 4) (C := RX4) (T := TX4) (N := 1) (ref := "LayoutDesk") hx hb hts in_X4_init_4 hown hw hR.1 rfl 0 (by decide) (hts (.fieldLink RX4 10 "LayoutDesk" "known" "Ljava/util/ArrayList;") (by decide +kernel)) (fun _ h9 => h9) rfl dX4_init_32 ?_
                      refine w_new (ci := 3) (C := RX2) (T := TX2) (N := 5) (fs := [.int 0, .int 0, .int 0, .int 0, .int 0]) hx hb hts in_X4_init_3 tyX2 tyX2_ok hown (hts (.classLink RX4 20 RX2) (by decide +kernel)) (hts (.instantiable RX2 5) (by decide +kernel)) (hts (.initialized RX2) (by decide +kernel)) hw rfl (fun j hj => by rcases (show j = 0 ∨ j = 1 ∨ j = 2 ∨ j = 3 ∨ j = 4 by omega) with rfl | rfl | rfl | rfl | rfl <;> rfl) (Nat.le_of_ble_eq_true rfl) (Nat.le_of_ble_eq_true rfl) dX4_init_35 (fun q H hq hw => ?_)
                      refine lv_dup hx hb dX4_init_38 rfl ?_
                      refine lv_iconst (v := 0) hx hb dX4_init_39 (by decide) ?_
                      refine lv_iconst (v := (-1)) hx hb dX4_init_40 (by decide) ?_
                      refine lv_iconst (v := 0) hx hb dX4_init_41 (by decide) ?_
                      refine lv_iload_n hx hb dX4_init_42 rfl (lv_at hl 0 rfl) ?_
                      refine lv_iload_n hx hb dX4_init_43 rfl (lv_at hl 0 rfl) ?_
                      refine lv_iconst (v := 4) hx hb dX4_init_44 (by decide) ?_
                      refine va_mmin hx hb (hml.trans hl.1.symm) hown (hts (.methodLink RX4 22 Lib.Math.min.name) (by decide +kernel)) (hts (.static Lib.Math.min.name) (by decide +kernel)) (hts (.initialized "java/lang/Math") (by decide +kernel)) (hts _ (List.mem_of_getElem? (i := 15) rfl)) (Nat.le_of_ble_eq_true rfl) (Nat.le_of_ble_eq_true rfl) (Nat.le_of_ble_eq_true rfl) (Nat.le_of_ble_eq_true rfl) dX4_init_45 ?_
                      refine lv_topi (fun mn emn => ?_)
                      have emn2 : mn = 4 := emn.trans (by decide)
                      subst emn2
                      refine w_call (va_runI (As := [.int 0, .int (-1), .int 0, .int 4, .int 4]) (rest := [.ref q, .ref kl]) ⟨hx, hb, hml, hown, hts⟩ (c_Simple_init l g (wu h' q (.inr (3, [.int 0, .int 0, .int 0, .int 0, .int 0]))) q 0 0 0 0 0 0 (-1) 0 4 4 (wu_s _ _ _) H.size) (cwI 5 hts gX4_init_X2_init rfl rfl rfl (hts (.initialized RX2) (by decide +kernel)) (hts (.methodLink RX4 28 yX2_init) (by decide +kernel)) (hts (.instanceMethod yX2_init) (by decide +kernel)) rfl (by decide +kernel) ⟨Nat.le_of_ble_eq_true rfl, Nat.le_of_ble_eq_true rfl⟩) ⟨pr_blind, pr_of hw⟩ rfl rfl hl.1 rfl (lv_room (Nat.le_of_ble_eq_true rfl)) dX4_init_48 ⟨Nat.le_of_ble_eq_true rfl, Nat.le_of_ble_eq_true rfl⟩) hw (fun v h' H locs hp hw => ?_)
                      obtain ⟨rfl, rfl⟩ := hp
                      refine W.eq (g2 := F0 m 51 ls [.ref q, .ref kl]) rfl ?_
                      have hR1 : DR0 g (wu (wu h' q (.inr (3, [.int 0, .int 0, .int 0, .int 0, .int 0]))) q (.inr (3, [.int 4, .int 4, .int 0, .int (-1), .int 0]))) x (baseS.take 9) kl ka ty ml ma mb := DR_ext hR (ext_re (ext_new hq) hq) (w_z hw)
                      have hc9 : cX (wu (wu h' q (.inr (3, [.int 0, .int 0, .int 0, .int 0, .int 0]))) q (.inr (3, [.int 4, .int 4, .int 0, .int (-1), .int 0]))) q (0, 0, 0, 4, 4, [], false) 0 [] := Or.inl ⟨show 0 < 3 by decide, wu_s _ _ _⟩
                      obtain ⟨⟨mck, hk1⟩, -, -⟩ := id hR1.2.2.1.1
                      refine w_call (va_runV (As := [.ref q]) (rest := []) ⟨hx, hb, hml, hown, hts⟩ (c_AL_add l g (wu (wu h' q (.inr (3, [.int 0, .int 0, .int 0, .int 0, .int 0]))) q (.inr (3, [.int 4, .int 4, .int 0, .int (-1), .int 0]))) kl ka q ty hR1.2.2.1.1 ⟨3, _, wu_s _ _ _, by decide, by decide⟩ (by rw [hR.2.2.2.1]; decide) H.size) (cwV 1 hts gX4_init_Jx4a65c_add_9ea2d rfl rfl rfl (by decide +kernel) ⟨Nat.le_of_ble_eq_true rfl, Nat.le_of_ble_eq_true rfl⟩) ⟨pr_blind, w_recv hw hk1 rfl, pr_of hw⟩ rfl rfl hl.1 rfl (lv_room (Nat.le_of_ble_eq_true rfl)) dX4_init_51 ⟨Nat.le_of_ble_eq_true rfl, Nat.le_of_ble_eq_true rfl⟩) hw (fun v h' H locs hp hw => ?_)
                      obtain ⟨ka', rfl, q1, q2, q3⟩ := hp
                      refine W.eq (g2 := F0 m 54 ls [.int 1]) rfl ?_
                      have hR2 : DR0 g h' x (baseS.take 10) kl ka' (ty ++ [q]) _ _ _ := DR_app 0 hR1 (w_z hw) (ty_fresh (DR_ty hR) hq) hc9 (fun z => absurd (show 3 ≤ 0 from z) (by decide)) q1 q2 q3
                      obtain ⟨ka, ty, ml, ma, mb, hR⟩ : ∃ (ka : Nat) (ty : List Nat) (ml ma : Nat → Nat) (mb : Nat → List Nat), DR0 g h' x (baseS.take 10) kl ka ty ml ma mb := ⟨_, _, _, _, _, hR2⟩
                      clear hR1 hc9 q1 q2 q3 hR2 hk1 hq
                      refine lv_pop hx hb dX4_init_54 rfl ?_
                      obtain ⟨z55, ez55⟩ : ∃ y : Int32, y = 9 + 1 := ⟨_, rfl⟩
                      refine lv_iinc (v := z55) (lv' := [(1, .int z55), (2, .int 4), (0, .ref x)]) hx hb dX4_init_55 hl (k := 1) rfl (by rw [ez55]; rfl) (by decide) rfl (fun ls hl => ?_)
                      have ez : z55 = 10 := ez55.trans (by decide)
                      subst ez
                      refine lv_goto (tgt := 17) hx hb dX4_init_58 (by decide) ?_
                      refine lv_iload_n hx hb dX4_init_17 rfl (lv_at hl 0 rfl) ?_
                      refine va_gets hx hb hw.2.2.2.2.2.2.1 hw.2.2.1 hown (hts (.fieldLink RX4 16 "LayoutDesk" "BASIC_BYTES" "[I") (by decide +kernel)) (fun _ h9 => h9) dX4_init_18 ?_
                      refine va_tlen (v := 11) hx hb hw.2.2.2.2.2.2.2.1 hw.2.2.1 (by decide) dX4_init_21 ?_
                      refine lv_icmp_ge (tgt := 61) hx hb dX4_init_22 (by decide) (fun c22 => ?_) (fun c22 => ?_)
                      · exact absurd c22 (by decide)
                      · refine va_gets hx hb hw.2.2.2.2.2.2.1 hw.2.2.1 hown (hts (.fieldLink RX4 16 "LayoutDesk" "BASIC_BYTES" "[I") (by decide +kernel)) (fun _ h9 => h9) dX4_init_25 ?_
                        refine lv_iload_n hx hb dX4_init_28 rfl (lv_at hl 0 rfl) ?_
                        refine va_ti (v := .int 8) hx hb hw.2.2.2.2.2.2.2.1 hw.2.2.1 (by unfold vp_in; decide) (by decide) dX4_init_29 ?_
                        refine lv_istore_n (lv' := [(2, .int 8), (1, .int 10), (0, .ref x)]) hx hb dX4_init_30 rfl hl (by decide) rfl (fun ls hl => ?_)
                        refine lv_aload_n hx hb dX4_init_31 rfl (lv_at hl 2 rfl) ?_
                        refine w_get (ci := 4) (C := RX4) (T := TX4) (N := 1) (ref := "LayoutDesk") hx hb hts in_X4_init_4 hown hw hR.1 rfl 0 (by decide) (hts (.fieldLink RX4 10 "LayoutDesk" "known" "Ljava/util/ArrayList;") (by decide +kernel)) (fun _ h9 => h9) rfl dX4_init_32 ?_
                        refine w_new (ci := 3) (C := RX2) (T := TX2) (N := 5) (fs := [.int 0, .int 0, .int 0, .int 0, .int 0]) hx hb hts in_X4_init_3 tyX2 tyX2_ok hown (hts (.classLink RX4 20 RX2) (by decide +kernel)) (hts (.instantiable RX2 5) (by decide +kernel)) (hts (.initialized RX2) (by decide +kernel)) hw rfl (fun j hj => by rcases (show j = 0 ∨ j = 1 ∨ j = 2 ∨ j = 3 ∨ j = 4 by omega) with rfl | rfl | rfl | rfl | rfl <;> rfl) (Nat.le_of_ble_eq_true rfl) (Nat.le_of_ble_eq_true rfl) dX4_init_35 (fun q H hq hw => ?_)
                        refine lv_dup hx hb dX4_init_38 rfl ?_
                        refine lv_iconst (v := 0) hx hb dX4_init_39 (by decide) ?_
                        refine lv_iconst (v := (-1)) hx hb dX4_init_40 (by decide) ?_
                        refine lv_iconst (v := 0) hx hb dX4_init_41 (by decide) ?_
                        refine lv_iload_n hx hb dX4_init_42 rfl (lv_at hl 0 rfl) ?_
                        refine lv_iload_n hx hb dX4_init_43 rfl (lv_at hl 0 rfl) ?_
                        refine lv_iconst (v := 4) hx hb dX4_init_44 (by decide) ?_
                        refine va_mmin hx hb (hml.trans hl.1.symm) hown (hts (.methodLink RX4 22 Lib.Math.min.name) (by decide +kernel)) (hts (.static Lib.Math.min.name) (by decide +kernel)) (hts (.initialized "java/lang/Math") (by decide +kernel)) (hts _ (List.mem_of_getElem? (i := 15) rfl)) (Nat.le_of_ble_eq_true rfl) (Nat.le_of_ble_eq_true rfl) (Nat.le_of_ble_eq_true rfl) (Nat.le_of_ble_eq_true rfl) dX4_init_45 ?_
                        refine lv_topi (fun mn emn => ?_)
                        have emn2 : mn = 4 := emn.trans (by decide)
                        subst emn2
                        refine w_call (va_runI (As := [.int 0, .int (-1), .int 0, .int 8, .int 4]) (rest := [.ref q, .ref kl]) ⟨hx, hb, hml, hown, hts⟩ (c_Simple_init l g (wu h' q (.inr (3, [.int 0, .int 0, .int 0, .int 0, .int 0]))) q 0 0 0 0 0 0 (-1) 0 8 4 (wu_s _ _ _) H.size) (cwI 5 hts gX4_init_X2_init rfl rfl rfl (hts (.initialized RX2) (by decide +kernel)) (hts (.methodLink RX4 28 yX2_init) (by decide +kernel)) (hts (.instanceMethod yX2_init) (by decide +kernel)) rfl (by decide +kernel) ⟨Nat.le_of_ble_eq_true rfl, Nat.le_of_ble_eq_true rfl⟩) ⟨pr_blind, pr_of hw⟩ rfl rfl hl.1 rfl (lv_room (Nat.le_of_ble_eq_true rfl)) dX4_init_48 ⟨Nat.le_of_ble_eq_true rfl, Nat.le_of_ble_eq_true rfl⟩) hw (fun v h' H locs hp hw => ?_)
                        obtain ⟨rfl, rfl⟩ := hp
                        refine W.eq (g2 := F0 m 51 ls [.ref q, .ref kl]) rfl ?_
                        have hR1 : DR0 g (wu (wu h' q (.inr (3, [.int 0, .int 0, .int 0, .int 0, .int 0]))) q (.inr (3, [.int 8, .int 4, .int 0, .int (-1), .int 0]))) x (baseS.take 10) kl ka ty ml ma mb := DR_ext hR (ext_re (ext_new hq) hq) (w_z hw)
                        have hc9 : cX (wu (wu h' q (.inr (3, [.int 0, .int 0, .int 0, .int 0, .int 0]))) q (.inr (3, [.int 8, .int 4, .int 0, .int (-1), .int 0]))) q (0, 0, 0, 8, 4, [], false) 0 [] := Or.inl ⟨show 0 < 3 by decide, wu_s _ _ _⟩
                        obtain ⟨⟨mck, hk1⟩, -, -⟩ := id hR1.2.2.1.1
                        refine w_call (va_runV (As := [.ref q]) (rest := []) ⟨hx, hb, hml, hown, hts⟩ (c_AL_add l g (wu (wu h' q (.inr (3, [.int 0, .int 0, .int 0, .int 0, .int 0]))) q (.inr (3, [.int 8, .int 4, .int 0, .int (-1), .int 0]))) kl ka q ty hR1.2.2.1.1 ⟨3, _, wu_s _ _ _, by decide, by decide⟩ (by rw [hR.2.2.2.1]; decide) H.size) (cwV 1 hts gX4_init_Jx4a65c_add_9ea2d rfl rfl rfl (by decide +kernel) ⟨Nat.le_of_ble_eq_true rfl, Nat.le_of_ble_eq_true rfl⟩) ⟨pr_blind, w_recv hw hk1 rfl, pr_of hw⟩ rfl rfl hl.1 rfl (lv_room (Nat.le_of_ble_eq_true rfl)) dX4_init_51 ⟨Nat.le_of_ble_eq_true rfl, Nat.le_of_ble_eq_true rfl⟩) hw (fun v h' H locs hp hw => ?_)
                        obtain ⟨ka', rfl, q1, q2, q3⟩ := hp
                        refine W.eq (g2 := F0 m 54 ls [.int 1]) rfl ?_
                        have hR2 : DR0 g h' x (baseS.take 11) kl ka' (ty ++ [q]) _ _ _ := DR_app 0 hR1 (w_z hw) (ty_fresh (DR_ty hR) hq) hc9 (fun z => absurd (show 3 ≤ 0 from z) (by decide)) q1 q2 q3
                        obtain ⟨ka, ty, ml, ma, mb, hR⟩ : ∃ (ka : Nat) (ty : List Nat) (ml ma : Nat → Nat) (mb : Nat → List Nat), DR0 g h' x (baseS.take 11) kl ka ty ml ma mb := ⟨_, _, _, _, _, hR2⟩
                        clear hR1 hc9 q1 q2 q3 hR2 hk1 hq
                        refine lv_pop hx hb dX4_init_54 rfl ?_
                        obtain ⟨z55, ez55⟩ : ∃ y : Int32, y = 10 + 1 := ⟨_, rfl⟩
                        refine lv_iinc (v := z55) (lv' := [(1, .int z55), (2, .int 8), (0, .ref x)]) hx hb dX4_init_55 hl (k := 1) rfl (by rw [ez55]; rfl) (by decide) rfl (fun ls hl => ?_)
                        have ez : z55 = 11 := ez55.trans (by decide)
                        subst ez
                        refine lv_goto (tgt := 17) hx hb dX4_init_58 (by decide) ?_
                        refine lv_iload_n hx hb dX4_init_17 rfl (lv_at hl 0 rfl) ?_
                        refine va_gets hx hb hw.2.2.2.2.2.2.1 hw.2.2.1 hown (hts (.fieldLink RX4 16 "LayoutDesk" "BASIC_BYTES" "[I") (by decide +kernel)) (fun _ h9 => h9) dX4_init_18 ?_
                        refine va_tlen (v := 11) hx hb hw.2.2.2.2.2.2.2.1 hw.2.2.1 (by decide) dX4_init_21 ?_
                        refine lv_icmp_ge (tgt := 61) hx hb dX4_init_22 (by decide) (fun c22 => ?_) (fun c22 => ?_)
                        · exact r_void hx hb hr hlocks hw dX4_init_61 (Nat.le_of_ble_eq_true rfl) (Nat.le_of_ble_eq_true rfl) (⟨rfl, _, _, _, _, _, _, hR⟩)
                        · exact absurd (by decide) c22
