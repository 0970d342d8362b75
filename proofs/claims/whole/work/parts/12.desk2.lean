/-! the desk: Compound; the lookups -/
theorem in_X0_init_0 : ∀ w ∈ u_ws RJx4a65c TJx4a65c 3, w ∈ wsX0_init := by decide +kernel
theorem in_X0_init_1 : ∀ w ∈ u_ws RX0 TX0 8, w ∈ wsX0_init := by decide +kernel
set_option maxHeartbeats 4000000 in
set_option maxRecDepth 100000 in
theorem c_Comp_init (l : Launch) (g : GG) (h : Nat → Option va_E) (a : Nat) (ov : Int32) (hov : ov = 0 ∨ ov = 1) (ha : h a = some (.inr (1, [.int 0, .int 0, .int 0, .null, .int 0, .int 0, .int 0, .int 0]))) : Con l yX0_init wsX0_init 4 80 1 3 [.ref a, .int ov] g h (fun v h' => ∃ q : Nat, v = none ∧ h q = none ∧ h' a = some (oCo 0 0 ov q 1 0 0 0) ∧ h' q = some (oAL 0 (gZ g) 0) ∧ ∀ z, z ≠ a → z ≠ q → h' z = h z) := by
  refine m_start (cc := cX0_init) (maxL := 2) (ret := none) (by decide) rfl (Nat.le_of_ble_eq_true rfl) ?_
  intro p e s m below meth c A ls hx hb hr hml hts hown hlocks hin hw hl
  have hl : lv_has ls 2 [(0, .ref a), (1, .int ov)] := hl
  have hown : s.vm.findClass RX0 = some m.cls := hown
  refine lv_aload_n hx hb dX0_init_0 rfl (lv_at hl 0 rfl) ?_
  refine lv_iconst (v := 0) hx hb dX0_init_1 (by decide) ?_
  refine lv_iconst (v := 0) hx hb dX0_init_2 (by decide) ?_
  refine w_call (va_runI (As := [.int 0, .int 0]) (rest := []) ⟨hx, hb, hml, hown, hts⟩ (c_Type_C l g h a 0 0 0 0 0 0 0 0 0 .null ha s.heap.size) (cwI 2 hts gX0_init_X3_init rfl rfl rfl (hts (.initialized RX3) (by decide +kernel)) (hts (.methodLink RX0 3 yX3_init) (by decide +kernel)) (hts (.instanceMethod yX3_init) (by decide +kernel)) rfl (by decide +kernel) ⟨Nat.le_of_ble_eq_true rfl, Nat.le_of_ble_eq_true rfl⟩) ⟨pr_blind, pr_of hw⟩ rfl rfl hl.1 rfl (lv_room (Nat.le_of_ble_eq_true rfl)) dX0_init_3 ⟨Nat.le_of_ble_eq_true rfl, Nat.le_of_ble_eq_true rfl⟩) hw (fun v h' H locs hp hw => ?_)
  obtain ⟨rfl, rfl⟩ := hp
  refine W.eq (g2 := F0 m 6 ls []) rfl ?_
  refine lv_aload_n hx hb dX0_init_6 rfl (lv_at hl 0 rfl) ?_
  refine lv_iload_n hx hb dX0_init_7 rfl (lv_at hl 1 rfl) ?_
  refine w_putF (ci := 1) (C := RX0) (T := TX0) (N := 8) (ref := "LayoutDesk$Compound") (ty := .boolean) (fs' := [.int 0, .int 0, .int ov, .null, .int 0, .int 0, .int 0, .int 0]) hx hb hts in_X0_init_1 tyX0 tyX0_ok nmX0 hown hw (wu_s _ _ _) rfl 2 (by decide) (hts (.fieldLink RX0 9 "LayoutDesk$Compound" "overlaid" "Z") (by decide +kernel)) (fun _ h9 => h9) rfl hin rfl (by decide +kernel) (b01 hov) (f01 hov) (Nat.le_of_ble_eq_true rfl) rfl dX0_init_8 (fun H locs hw => ?_)
  refine lv_aload_n hx hb dX0_init_11 rfl (lv_at hl 0 rfl) ?_
  refine w_new (ci := 0) (C := RJx4a65c) (T := TJx4a65c) (N := 3) (fs := [.int 0, .null, .int 0]) hx hb hts in_X0_init_0 tyJx4a65c tyJx4a65c_ok hown (hts (.classLink RX0 15 RJx4a65c) (by decide +kernel)) (hts (.instantiable RJx4a65c 3) (by decide +kernel)) (hts (.initialized RJx4a65c) (by decide +kernel)) hw rfl (fun j hj => by rcases (show j = 0 ∨ j = 1 ∨ j = 2 by omega) with rfl | rfl | rfl <;> rfl) (Nat.le_of_ble_eq_true rfl) (Nat.le_of_ble_eq_true rfl) dX0_init_12 (fun q H hq hw => ?_)
  refine lv_dup hx hb dX0_init_15 rfl ?_
  refine w_call (va_runI (As := []) (rest := [.ref q, .ref a]) ⟨hx, hb, hml, hown, hts⟩ (c_AL_init l g (wu (wu (wu h a (.inr (1, [.int 0, .int 0, .int 0, .null, .int 0, .int 0, .int 0, .int 0]))) a (.inr (1, [.int 0, .int 0, .int ov, .null, .int 0, .int 0, .int 0, .int 0]))) q (.inr (0, [.int 0, .null, .int 0]))) q 0 0 .null (wu_s _ _ _) H.size) (cwI 0 hts gX0_init_Jx4a65c_init_da8c8 rfl rfl rfl (hts (.initialized RJx4a65c) (by decide +kernel)) (hts (.methodLink RX0 17 yJx4a65c_init_da8c8) (by decide +kernel)) (hts (.instanceMethod yJx4a65c_init_da8c8) (by decide +kernel)) rfl (by decide +kernel) ⟨Nat.le_of_ble_eq_true rfl, Nat.le_of_ble_eq_true rfl⟩) ⟨pr_blind, pr_of hw⟩ rfl rfl hl.1 rfl (lv_room (Nat.le_of_ble_eq_true rfl)) dX0_init_16 ⟨Nat.le_of_ble_eq_true rfl, Nat.le_of_ble_eq_true rfl⟩) hw (fun v h' H locs hp hw => ?_)
  obtain ⟨rfl, rfl⟩ := hp
  refine W.eq (g2 := F0 m 19 ls [.ref q, .ref a]) rfl ?_
  refine w_putF (ci := 1) (C := RX0) (T := TX0) (N := 8) (ref := "LayoutDesk$Compound") (ty := .object "java/util/ArrayList") (fs' := [.int 0, .int 0, .int ov, .ref q, .int 0, .int 0, .int 0, .int 0]) hx hb hts in_X0_init_1 tyX0 tyX0_ok nmX0 hown hw ((wu_n (ne_n (wu_s _ _ _) hq)).trans ((wu_n (ne_n (wu_s _ _ _) hq)).trans (wu_s _ _ _))) rfl 3 (by decide) (hts (.fieldLink RX0 20 "LayoutDesk$Compound" "members" "Ljava/util/ArrayList;") (by decide +kernel)) (fun _ h9 => h9) rfl hin rfl (by decide +kernel) rfl rfl (Nat.le_of_ble_eq_true rfl) rfl dX0_init_19 (fun H locs hw => ?_)
  refine lv_aload_n hx hb dX0_init_22 rfl (lv_at hl 0 rfl) ?_
  refine lv_iconst (v := 1) hx hb dX0_init_23 (by decide) ?_
  refine w_put (ci := 1) (C := RX0) (T := TX0) (N := 8) (ref := "LayoutDesk$Compound") (ty := .boolean) (fs' := [.int 0, .int 0, .int ov, .ref q, .int 1, .int 0, .int 0, .int 0]) hx hb hts in_X0_init_1 tyX0 tyX0_ok nmX0 hown hw (wu_s _ _ _) rfl 4 (by decide) (hts (.fieldLink RX0 24 "LayoutDesk$Compound" "open" "Z") (by decide +kernel)) (fun _ h9 => h9) rfl (by decide +kernel) rfl rfl (Nat.le_of_ble_eq_true rfl) rfl dX0_init_24 (fun H locs hw => ?_)
  exact r_void hx hb hr hlocks hw dX0_init_27 (Nat.le_of_ble_eq_true rfl) (Nat.le_of_ble_eq_true rfl) (⟨q, rfl, (wu_n (ne_n (wu_s _ _ _) hq).symm).symm.trans ((wu_n (ne_n (wu_s _ _ _) hq).symm).symm.trans hq), wu_s _ _ _, (((wu_n ((ne_n (wu_s _ _ _) hq)).symm).trans ((wu_n ((ne_n (wu_s _ _ _) hq)).symm).trans (wu_s _ _ _)))), fun z z1 z2 => (wu_n z1).trans ((wu_n z1).trans ((wu_n z2).trans ((wu_n z2).trans ((wu_n z1).trans (wu_n z1)))))⟩)
theorem in_X0_hasAllMembers_1 : ∀ w ∈ u_ws RX0 TX0 8, w ∈ wsX0_hasAllMembers := by decide +kernel
set_option maxHeartbeats 4000000 in
set_option maxRecDepth 100000 in
theorem c_hasAll (l : Launch) (g : GG) (h : Nat → Option va_E) (a ml : Nat) (by_ al ov op re up fb : Int32) (ha : h a = some (oCo by_ al ov ml op re up fb)) (ma : Nat) (mb : List Nat) (hM : AL g h ml ma mb) : Con l yX0_hasAllMembers wsX0_hasAllMembers 1 30 0 0 [.ref a] g h (fun v h' => v = some (.int (if 100 ≤ mb.length then 1 else 0)) ∧ h = h') := by
  have hn9 := AL_len hM
  obtain ⟨⟨mc, hm0⟩, -, -⟩ := id hM
  refine m_start (cc := cX0_hasAllMembers) (maxL := 1) (ret := (some .boolean)) (by decide) rfl (Nat.le_of_ble_eq_true rfl) ?_
  intro p e s m below meth c A ls hx hb hr hml hts hown hlocks hin hw hl
  have hl : lv_has ls 1 [(0, .ref a)] := hl
  have hown : s.vm.findClass RX0 = some m.cls := hown
  refine lv_aload_n hx hb dX0_hasAllMembers_0 rfl (lv_at hl 0 rfl) ?_
  refine w_get (ci := 1) (C := RX0) (T := TX0) (N := 8) (ref := "LayoutDesk$Compound") hx hb hts in_X0_hasAllMembers_1 hown hw ha rfl 3 (by decide) (hts (.fieldLink RX0 20 "LayoutDesk$Compound" "members" "Ljava/util/ArrayList;") (by decide +kernel)) (fun _ h9 => h9) rfl dX0_hasAllMembers_1 ?_
  refine w_call (va_runV (As := []) (rest := []) ⟨hx, hb, hml, hown, hts⟩ (c_sizeL l g h ml ma mb hM s.heap.size) (cwV 0 hts gX0_hasAllMembers_Jx4a65c_size_8abf5 rfl rfl rfl (by decide +kernel) ⟨Nat.le_of_ble_eq_true rfl, Nat.le_of_ble_eq_true rfl⟩) ⟨pr_blind, w_recv hw hm0 rfl, pr_of hw⟩ rfl rfl hl.1 rfl (lv_room (Nat.le_of_ble_eq_true rfl)) dX0_hasAllMembers_4 ⟨Nat.le_of_ble_eq_true rfl, Nat.le_of_ble_eq_true rfl⟩) hw (fun v h' H locs hp hw => ?_)
  obtain ⟨rfl, rfl⟩ := hp
  refine W.eq (g2 := F0 m 7 ls [.int (nI mb.length)]) rfl ?_
  refine lv_bipush (v := 100) hx hb dX0_hasAllMembers_7 (by decide) ?_
  refine lv_icmp_lt (tgt := 16) hx hb dX0_hasAllMembers_9 (by decide) (fun c9 => ?_) (fun c9 => ?_)
  · refine lv_iconst (v := 0) hx hb dX0_hasAllMembers_16 (by decide) ?_
    exact r_bool hx hb hr hlocks hw rfl dX0_hasAllMembers_17 (Nat.le_of_ble_eq_true rfl) (Nat.le_of_ble_eq_true rfl) (⟨by rw [if_neg (fun z => (nI_nlt (b := 100) z (by omega)) c9)], rfl⟩)
  · refine lv_iconst (v := 1) hx hb dX0_hasAllMembers_12 (by decide) ?_
    refine lv_goto (tgt := 17) hx hb dX0_hasAllMembers_13 (by decide) ?_
    exact r_bool hx hb hr hlocks hw rfl dX0_hasAllMembers_17 (Nat.le_of_ble_eq_true rfl) (Nat.le_of_ble_eq_true rfl) (⟨by rw [if_pos (Nat.le_of_not_lt (fun z => c9 (nI_lt (b := 100) z (by decide))))], rfl⟩)
theorem in_X0_enter_1 : ∀ w ∈ u_ws RX0 TX0 8, w ∈ wsX0_enter := by decide +kernel
set_option maxHeartbeats 4000000 in
set_option maxRecDepth 100000 in
theorem c_Comp_enter (l : Launch) (g : GG) (h : Nat → Option va_E) (a ml : Nat) (by_ al ov op re up fb : Int32) (ha : h a = some (oCo by_ al ov ml op re up fb)) (ma x : Nat) (mb : List Nat) (hM : AL g h ml ma mb) (hx0 : isE h x) (hn : mb.length ≤ 530) : Con l yX0_enter wsX0_enter 7 171 1 800 [.ref a, .ref x] g h (fun v h' => ∃ ma' : Nat, v = some (.int (nI mb.length)) ∧ (ma' = ma ∨ h ma' = none) ∧ AL g h' ml ma' (mb ++ [x]) ∧ ∀ q, q ≠ ml → q ≠ ma' → h' q = h q) := by
  obtain ⟨⟨mc, hm0⟩, -, -⟩ := id hM
  refine m_start (cc := cX0_enter) (maxL := 2) (ret := (some .int)) (by decide) rfl (Nat.le_of_ble_eq_true rfl) ?_
  intro p e s m below meth c A ls hx hb hr hml hts hown hlocks hin hw hl
  have hl : lv_has ls 2 [(0, .ref a), (1, .ref x)] := hl
  have hown : s.vm.findClass RX0 = some m.cls := hown
  refine lv_aload_n hx hb dX0_enter_0 rfl (lv_at hl 0 rfl) ?_
  refine w_get (ci := 1) (C := RX0) (T := TX0) (N := 8) (ref := "LayoutDesk$Compound") hx hb hts in_X0_enter_1 hown hw ha rfl 3 (by decide) (hts (.fieldLink RX0 20 "LayoutDesk$Compound" "members" "Ljava/util/ArrayList;") (by decide +kernel)) (fun _ h9 => h9) rfl dX0_enter_1 ?_
  refine lv_aload_n hx hb dX0_enter_4 rfl (lv_at hl 1 rfl) ?_
  refine w_call (va_runV (As := [.ref x]) (rest := []) ⟨hx, hb, hml, hown, hts⟩ (c_AL_add l g h ml ma x mb hM hx0 (by omega) s.heap.size) (cwV 1 hts gX0_enter_Jx4a65c_add_9ea2d rfl rfl rfl (by decide +kernel) ⟨Nat.le_of_ble_eq_true rfl, Nat.le_of_ble_eq_true rfl⟩) ⟨pr_blind, w_recv hw hm0 rfl, pr_of hw⟩ rfl rfl hl.1 rfl (lv_room (Nat.le_of_ble_eq_true rfl)) dX0_enter_5 ⟨Nat.le_of_ble_eq_true rfl, Nat.le_of_ble_eq_true rfl⟩) hw (fun v h' H locs hp hw => ?_)
  obtain ⟨ma', rfl, q1, q2, q3⟩ := hp
  refine W.eq (g2 := F0 m 8 ls [.int 1]) rfl ?_
  have hr' : h ma' = none ∨ ∃ z, h ma' = some (.inl z) := by
    rcases q1 with q1 | q1
    · subst q1; exact AL_arr hM
    · exact Or.inl q1
  have hA' : h' a = some (oCo by_ al ov ml op re up fb) := (q3 a (ne_e ha hm0 (ne_c (by decide))) (hr'.elim (fun z => ne_n ha z) (fun z => ne_e ha z.choose_spec ne_rl))).trans ha
  obtain ⟨mc2, hm2⟩ := q2.1
  refine lv_pop hx hb dX0_enter_8 rfl ?_
  refine lv_aload_n hx hb dX0_enter_9 rfl (lv_at hl 0 rfl) ?_
  refine w_get (ci := 1) (C := RX0) (T := TX0) (N := 8) (ref := "LayoutDesk$Compound") hx hb hts in_X0_enter_1 hown hw hA' rfl 3 (by decide) (hts (.fieldLink RX0 20 "LayoutDesk$Compound" "members" "Ljava/util/ArrayList;") (by decide +kernel)) (fun _ h9 => h9) rfl dX0_enter_10 ?_
  refine w_call (va_runV (As := []) (rest := []) ⟨hx, hb, hml, hown, hts⟩ (c_sizeL l g h' ml ma' (mb ++ [x]) q2 H.size) (cwV 0 hts gX0_enter_Jx4a65c_size_8abf5 rfl rfl rfl (by decide +kernel) ⟨Nat.le_of_ble_eq_true rfl, Nat.le_of_ble_eq_true rfl⟩) ⟨pr_blind, w_recv hw hm2 rfl, pr_of hw⟩ rfl rfl hl.1 rfl (lv_room (Nat.le_of_ble_eq_true rfl)) dX0_enter_13 ⟨Nat.le_of_ble_eq_true rfl, Nat.le_of_ble_eq_true rfl⟩) hw (fun v k' H locs hp hw => ?_)
  obtain ⟨rfl, rfl⟩ := hp
  refine W.eq (g2 := F0 m 16 ls [.int (nI (mb ++ [x]).length)]) rfl ?_
  refine lv_iconst (v := 1) hx hb dX0_enter_16 (by decide) ?_
  refine lv_isub hx hb dX0_enter_17 ?_
  exact r_int hx hb hr hlocks hw dX0_enter_18 (Nat.le_of_ble_eq_true rfl) (Nat.le_of_ble_eq_true rfl) (⟨ma', by rw [List.length_append, List.length_singleton, nI_pred], q1, q2, q3⟩)
theorem in_X0_placeFor_1 : ∀ w ∈ u_ws RX0 TX0 8, w ∈ wsX0_placeFor := by decide +kernel
set_option maxHeartbeats 4000000 in
set_option maxRecDepth 100000 in
theorem c_placeFor (l : Launch) (g : GG) (h : Nat → Option va_E) (a ml r_ s_ : Nat) (by_ al ov op up fb : Int32) (ha : h a = some (oCo by_ al ov ml op (nI r_) up fb)) (hp : r_ ≤ 2000000) (hs : s_ ≤ 4) : Con l yX0_placeFor wsX0_placeFor 1 30 0 0 [.ref a, .int (nI s_)] g h (fun v h' => v = some (.int (if ov = 0 then nI (rup r_ s_) else 0)) ∧ h = h') := by
  refine m_start (cc := cX0_placeFor) (maxL := 2) (ret := (some .int)) (by decide) rfl (Nat.le_of_ble_eq_true rfl) ?_
  intro p e s m below meth c A ls hx hb hr hml hts hown hlocks hin hw hl
  have hl : lv_has ls 2 [(0, .ref a), (1, .int (nI s_))] := hl
  have hown : s.vm.findClass RX0 = some m.cls := hown
  refine lv_aload_n hx hb dX0_placeFor_0 rfl (lv_at hl 0 rfl) ?_
  refine w_get (ci := 1) (C := RX0) (T := TX0) (N := 8) (ref := "LayoutDesk$Compound") hx hb hts in_X0_placeFor_1 hown hw ha rfl 2 (by decide) (hts (.fieldLink RX0 9 "LayoutDesk$Compound" "overlaid" "Z") (by decide +kernel)) (fun _ h9 => h9) rfl dX0_placeFor_1 ?_
  refine lv_if_eq (tgt := 11) hx hb dX0_placeFor_4 (by decide) (fun c4 => ?_) (fun c4 => ?_)
  · refine lv_aload_n hx hb dX0_placeFor_11 rfl (lv_at hl 0 rfl) ?_
    refine w_get (ci := 1) (C := RX0) (T := TX0) (N := 8) (ref := "LayoutDesk$Compound") hx hb hts in_X0_placeFor_1 hown hw ha rfl 5 (by decide) (hts (.fieldLink RX0 35 "LayoutDesk$Compound" "reach" "I") (by decide +kernel)) (fun _ h9 => h9) rfl dX0_placeFor_12 ?_
    refine lv_iload_n hx hb dX0_placeFor_15 rfl (lv_at hl 1 rfl) ?_
    refine w_call (va_runSN (As := [.int (nI r_), .int (nI s_)]) (rest := []) ⟨hx, hb, hml, hown, hts⟩ (c_roundUp l g h r_ s_ hp hs s.heap.size) ⟨va_cnB 2 hts gX0_placeFor_X4_roundUp_n39 rfl rfl rfl (w_nwN hw (w := .methodLinkNest "LayoutDesk$Compound" 39 yX4_roundUp "LayoutDesk") (by decide +kernel)) (hts (.initialized RX4) (by decide +kernel)) (by decide +kernel) ⟨Nat.le_of_ble_eq_true rfl, Nat.le_of_ble_eq_true rfl⟩, hts (.static yX4_roundUp) (by decide +kernel), trivial⟩ ⟨pr_blind, pr_of hw⟩ rfl rfl hl.1 rfl (lv_room (Nat.le_of_ble_eq_true rfl)) dX0_placeFor_16 ⟨Nat.le_of_ble_eq_true rfl, Nat.le_of_ble_eq_true rfl⟩) hw (fun v h' H locs hp hw => ?_)
    obtain ⟨rfl, rfl⟩ := hp
    refine W.eq (g2 := F0 m 19 ls [.int (nI (rup r_ s_))]) rfl ?_
    exact r_int hx hb hr hlocks hw dX0_placeFor_19 (Nat.le_of_ble_eq_true rfl) (Nat.le_of_ble_eq_true rfl) (⟨by rw [if_pos c4], rfl⟩)
  · refine lv_iconst (v := 0) hx hb dX0_placeFor_7 (by decide) ?_
    refine lv_goto (tgt := 19) hx hb dX0_placeFor_8 (by decide) ?_
    exact r_int hx hb hr hlocks hw dX0_placeFor_19 (Nat.le_of_ble_eq_true rfl) (Nat.le_of_ble_eq_true rfl) (⟨by rw [if_neg c4], rfl⟩)
theorem in_X0_occupy_1 : ∀ w ∈ u_ws RX0 TX0 8, w ∈ wsX0_occupy := by decide +kernel
set_option maxHeartbeats 4000000 in
set_option maxRecDepth 100000 in
theorem c_occupy (l : Launch) (g : GG) (h : Nat → Option va_E) (a ml al re p_ n_ s_ : Nat) (by_ ov op up fb : Int32) (ha : h a = some (oCo by_ (nI al) ov ml op (nI re) up fb)) (h1 : re ≤ 2000000) (h2 : p_ + n_ ≤ 2000000) (h3 : al ≤ 4) (h4 : s_ ≤ 4) : Con l yX0_occupy wsX0_occupy 1 30 0 0 [.ref a, .int (nI p_), .int (nI n_), .int (nI s_)] g h (fun v h' => v = none ∧ h' = wu h a (oCo by_ (nI (max al s_)) ov ml op (nI (max re (p_ + n_))) up fb)) := by
  refine m_start (cc := cX0_occupy) (maxL := 4) (ret := none) (by decide) rfl (Nat.le_of_ble_eq_true rfl) ?_
  intro p e s m below meth c A ls hx hb hr hml hts hown hlocks hin hw hl
  have hl : lv_has ls 4 [(0, .ref a), (1, .int (nI p_)), (2, .int (nI n_)), (3, .int (nI s_))] := hl
  have hown : s.vm.findClass RX0 = some m.cls := hown
  refine lv_aload_n hx hb dX0_occupy_0 rfl (lv_at hl 0 rfl) ?_
  refine lv_aload_n hx hb dX0_occupy_1 rfl (lv_at hl 0 rfl) ?_
  refine w_get (ci := 1) (C := RX0) (T := TX0) (N := 8) (ref := "LayoutDesk$Compound") hx hb hts in_X0_occupy_1 hown hw ha rfl 5 (by decide) (hts (.fieldLink RX0 35 "LayoutDesk$Compound" "reach" "I") (by decide +kernel)) (fun _ h9 => h9) rfl dX0_occupy_2 ?_
  refine lv_iload_n hx hb dX0_occupy_5 rfl (lv_at hl 1 rfl) ?_
  refine lv_iload_n hx hb dX0_occupy_6 rfl (lv_at hl 2 rfl) ?_
  refine lv_iadd hx hb dX0_occupy_7 ?_
  refine va_mmax hx hb (hml.trans hl.1.symm) hown (hts (.methodLink RX0 43 Lib.Math.max.name) (by decide +kernel)) (hts (.static Lib.Math.max.name) (by decide +kernel)) (hts (.initialized "java/lang/Math") (by decide +kernel)) (hts _ (List.mem_of_getElem? (i := 5) rfl)) (Nat.le_of_ble_eq_true rfl) (Nat.le_of_ble_eq_true rfl) (Nat.le_of_ble_eq_true rfl) (Nat.le_of_ble_eq_true rfl) dX0_occupy_8 ?_
  refine lv_topi (fun x8 ex8 => ?_)
  have ex8 : x8 = nI (max re (p_ + n_)) := ex8.trans (by rw [nI_add]; exact mx_nI (by omega) (by omega))
  subst ex8
  refine w_put (ci := 1) (C := RX0) (T := TX0) (N := 8) (ref := "LayoutDesk$Compound") (ty := .int) (fs' := [.int by_, .int (nI al), .int ov, .ref ml, .int op, .int (nI (max re (p_ + n_))), .int up, .int fb]) hx hb hts in_X0_occupy_1 tyX0 tyX0_ok nmX0 hown hw ha rfl 5 (by decide) (hts (.fieldLink RX0 35 "LayoutDesk$Compound" "reach" "I") (by decide +kernel)) (fun _ h9 => h9) rfl (by decide +kernel) rfl rfl (Nat.le_of_ble_eq_true rfl) rfl dX0_occupy_11 (fun H locs hw => ?_)
  refine lv_aload_n hx hb dX0_occupy_14 rfl (lv_at hl 0 rfl) ?_
  refine lv_aload_n hx hb dX0_occupy_15 rfl (lv_at hl 0 rfl) ?_
  refine w_get (ci := 1) (C := RX0) (T := TX0) (N := 8) (ref := "LayoutDesk$Compound") hx hb hts in_X0_occupy_1 hown hw (wu_s _ _ _) rfl 1 (by decide) (hts (.fieldLink RX0 48 "LayoutDesk$Compound" "alignment" "I") (by decide +kernel)) (u_same (hts (.sameField "LayoutDesk$Compound" "LayoutDesk$Type" "alignment" "I") (by decide +kernel))) rfl dX0_occupy_16 ?_
  refine lv_iload_n hx hb dX0_occupy_19 rfl (lv_at hl 3 rfl) ?_
  refine va_mmax hx hb (hml.trans hl.1.symm) hown (hts (.methodLink RX0 43 Lib.Math.max.name) (by decide +kernel)) (hts (.static Lib.Math.max.name) (by decide +kernel)) (hts (.initialized "java/lang/Math") (by decide +kernel)) (hts _ (List.mem_of_getElem? (i := 5) rfl)) (Nat.le_of_ble_eq_true rfl) (Nat.le_of_ble_eq_true rfl) (Nat.le_of_ble_eq_true rfl) (Nat.le_of_ble_eq_true rfl) dX0_occupy_20 ?_
  refine lv_topi (fun x20 ex20 => ?_)
  have ex20 : x20 = nI (max al s_) := ex20.trans (mx_nI (by omega) (by omega))
  subst ex20
  refine w_put (ci := 1) (C := RX0) (T := TX0) (N := 8) (ref := "LayoutDesk$Compound") (ty := .int) (fs' := [.int by_, .int (nI (max al s_)), .int ov, .ref ml, .int op, .int (nI (max re (p_ + n_))), .int up, .int fb]) hx hb hts in_X0_occupy_1 tyX0 tyX0_ok nmX0 hown hw (wu_s _ _ _) rfl 1 (by decide) (hts (.fieldLink RX0 48 "LayoutDesk$Compound" "alignment" "I") (by decide +kernel)) (u_same (hts (.sameField "LayoutDesk$Compound" "LayoutDesk$Type" "alignment" "I") (by decide +kernel))) rfl (by decide +kernel) rfl rfl (Nat.le_of_ble_eq_true rfl) rfl dX0_occupy_23 (fun H locs hw => ?_)
  exact r_void hx hb hr hlocks hw dX0_occupy_26 (Nat.le_of_ble_eq_true rfl) (Nat.le_of_ble_eq_true rfl) (⟨rfl, by rw [wu_uu]⟩)
theorem in_X0_endUnit_1 : ∀ w ∈ u_ws RX0 TX0 8, w ∈ wsX0_endUnit := by decide +kernel
set_option maxHeartbeats 4000000 in
set_option maxRecDepth 100000 in
theorem c_endUnit (l : Launch) (g : GG) (h : Nat → Option va_E) (a ml : Nat) (by_ al ov op re up fb : Int32) (ha : h a = some (oCo by_ al ov ml op re up fb)) : Con l yX0_endUnit wsX0_endUnit 0 0 0 0 [.ref a] g h (fun v h' => v = none ∧ h' = wu h a (oCo by_ al ov ml op re up 0)) := by
  refine m_start (cc := cX0_endUnit) (maxL := 1) (ret := none) (by decide) rfl (Nat.le_of_ble_eq_true rfl) ?_
  intro p e s m below meth c A ls hx hb hr hml hts hown hlocks hin hw hl
  have hl : lv_has ls 1 [(0, .ref a)] := hl
  have hown : s.vm.findClass RX0 = some m.cls := hown
  refine lv_aload_n hx hb dX0_endUnit_0 rfl (lv_at hl 0 rfl) ?_
  refine lv_iconst (v := 0) hx hb dX0_endUnit_1 (by decide) ?_
  refine w_put (ci := 1) (C := RX0) (T := TX0) (N := 8) (ref := "LayoutDesk$Compound") (ty := .int) (fs' := [.int by_, .int al, .int ov, .ref ml, .int op, .int re, .int up, .int 0]) hx hb hts in_X0_endUnit_1 tyX0 tyX0_ok nmX0 hown hw ha rfl 7 (by decide) (hts (.fieldLink RX0 51 "LayoutDesk$Compound" "freeBits" "I") (by decide +kernel)) (fun _ h9 => h9) rfl (by decide +kernel) rfl rfl (Nat.le_of_ble_eq_true rfl) rfl dX0_endUnit_2 (fun H locs hw => ?_)
  exact r_void hx hb hr hlocks hw dX0_endUnit_5 (Nat.le_of_ble_eq_true rfl) (Nat.le_of_ble_eq_true rfl) (⟨rfl, rfl⟩)
theorem in_X0_takeBits_1 : ∀ w ∈ u_ws RX0 TX0 8, w ∈ wsX0_takeBits := by decide +kernel
set_option maxHeartbeats 4000000 in
set_option maxRecDepth 100000 in
theorem c_takeBits (l : Launch) (g : GG) (h : Nat → Option va_E) (a ml : Nat) (by_ al ov op re up fb : Int32) (ha : h a = some (oCo by_ al ov ml op re up fb)) (w_ : Int32) : Con l yX0_takeBits wsX0_takeBits 0 0 0 0 [.ref a, .int w_] g h (fun v h' => v = some (.int (32 - fb)) ∧ h' = wu h a (oCo by_ al ov ml op re up (if ov = 0 then fb - w_ else 0))) := by
  refine m_start (cc := cX0_takeBits) (maxL := 3) (ret := (some .int)) (by decide) rfl (Nat.le_of_ble_eq_true rfl) ?_
  intro p e s m below meth c A ls hx hb hr hml hts hown hlocks hin hw hl
  have hl : lv_has ls 3 [(0, .ref a), (1, .int w_)] := hl
  have hown : s.vm.findClass RX0 = some m.cls := hown
  refine lv_bipush (v := 32) hx hb dX0_takeBits_0 (by decide) ?_
  refine lv_aload_n hx hb dX0_takeBits_2 rfl (lv_at hl 0 rfl) ?_
  refine w_get (ci := 1) (C := RX0) (T := TX0) (N := 8) (ref := "LayoutDesk$Compound") hx hb hts in_X0_takeBits_1 hown hw ha rfl 7 (by decide) (hts (.fieldLink RX0 51 "LayoutDesk$Compound" "freeBits" "I") (by decide +kernel)) (fun _ h9 => h9) rfl dX0_takeBits_3 ?_
  refine lv_isub hx hb dX0_takeBits_6 ?_
  refine lv_istore_n (lv' := [(2, .int (32 - fb)), (0, .ref a), (1, .int w_)]) hx hb dX0_takeBits_7 rfl hl (by decide) rfl (fun ls hl => ?_)
  refine lv_aload_n hx hb dX0_takeBits_8 rfl (lv_at hl 1 rfl) ?_
  refine lv_aload_n hx hb dX0_takeBits_9 rfl (lv_at hl 1 rfl) ?_
  refine w_get (ci := 1) (C := RX0) (T := TX0) (N := 8) (ref := "LayoutDesk$Compound") hx hb hts in_X0_takeBits_1 hown hw ha rfl 2 (by decide) (hts (.fieldLink RX0 9 "LayoutDesk$Compound" "overlaid" "Z") (by decide +kernel)) (fun _ h9 => h9) rfl dX0_takeBits_10 ?_
  refine lv_if_eq (tgt := 20) hx hb dX0_takeBits_13 (by decide) (fun c13 => ?_) (fun c13 => ?_)
  · refine lv_aload_n hx hb dX0_takeBits_20 rfl (lv_at hl 1 rfl) ?_
    refine w_get (ci := 1) (C := RX0) (T := TX0) (N := 8) (ref := "LayoutDesk$Compound") hx hb hts in_X0_takeBits_1 hown hw ha rfl 7 (by decide) (hts (.fieldLink RX0 51 "LayoutDesk$Compound" "freeBits" "I") (by decide +kernel)) (fun _ h9 => h9) rfl dX0_takeBits_21 ?_
    refine lv_iload_n hx hb dX0_takeBits_24 rfl (lv_at hl 2 rfl) ?_
    refine lv_isub hx hb dX0_takeBits_25 ?_
    refine w_put (ci := 1) (C := RX0) (T := TX0) (N := 8) (ref := "LayoutDesk$Compound") (ty := .int) (fs' := [.int by_, .int al, .int ov, .ref ml, .int op, .int re, .int up, .int (fb - w_)]) hx hb hts in_X0_takeBits_1 tyX0 tyX0_ok nmX0 hown hw ha rfl 7 (by decide) (hts (.fieldLink RX0 51 "LayoutDesk$Compound" "freeBits" "I") (by decide +kernel)) (fun _ h9 => h9) rfl (by decide +kernel) rfl rfl (Nat.le_of_ble_eq_true rfl) rfl dX0_takeBits_26 (fun H locs hw => ?_)
    refine lv_iload_n hx hb dX0_takeBits_29 rfl (lv_at hl 0 rfl) ?_
    exact r_int hx hb hr hlocks hw dX0_takeBits_30 (Nat.le_of_ble_eq_true rfl) (Nat.le_of_ble_eq_true rfl) (⟨rfl, by rw [if_pos c13]⟩)
  · refine lv_iconst (v := 0) hx hb dX0_takeBits_16 (by decide) ?_
    refine lv_goto (tgt := 26) hx hb dX0_takeBits_17 (by decide) ?_
    refine w_put (ci := 1) (C := RX0) (T := TX0) (N := 8) (ref := "LayoutDesk$Compound") (ty := .int) (fs' := [.int by_, .int al, .int ov, .ref ml, .int op, .int re, .int up, .int 0]) hx hb hts in_X0_takeBits_1 tyX0 tyX0_ok nmX0 hown hw ha rfl 7 (by decide) (hts (.fieldLink RX0 51 "LayoutDesk$Compound" "freeBits" "I") (by decide +kernel)) (fun _ h9 => h9) rfl (by decide +kernel) rfl rfl (Nat.le_of_ble_eq_true rfl) rfl dX0_takeBits_26 (fun H locs hw => ?_)
    refine lv_iload_n hx hb dX0_takeBits_29 rfl (lv_at hl 0 rfl) ?_
    exact r_int hx hb hr hlocks hw dX0_takeBits_30 (Nat.le_of_ble_eq_true rfl) (Nat.le_of_ble_eq_true rfl) (⟨rfl, by rw [if_neg c13]⟩)
theorem in_X0_beginUnit_1 : ∀ w ∈ u_ws RX0 TX0 8, w ∈ wsX0_beginUnit := by decide +kernel
set_option maxHeartbeats 4000000 in
set_option maxRecDepth 100000 in
theorem c_beginUnit (l : Launch) (g : GG) (h : Nat → Option va_E) (a ml al re p_ : Nat) (by_ ov op up fb : Int32) (ha : h a = some (oCo by_ (nI al) ov ml op (nI re) up fb)) (h1 : re ≤ 2000000) (h2 : p_ ≤ 1000000) (h3 : al ≤ 4) (hp_ : (if ov = 0 then nI (rup re 4) else 0) = nI p_) : Con l yX0_beginUnit wsX0_beginUnit 2 70 0 0 [.ref a] g h (fun v h' => (524288 < p_ + 4 ∧ v = some (.int 0) ∧ h = h') ∨ (p_ + 4 ≤ 524288 ∧ v = some (.int 1) ∧ h' = wu h a (oCo by_ (nI (max al 4)) ov ml op (nI (max re (p_ + 4))) (nI p_) 32))) := by
  refine m_start (cc := cX0_beginUnit) (maxL := 2) (ret := (some .boolean)) (by decide) rfl (Nat.le_of_ble_eq_true rfl) ?_
  intro p e s m below meth c A ls hx hb hr hml hts hown hlocks hin hw hl
  have hl : lv_has ls 2 [(0, .ref a)] := hl
  have hown : s.vm.findClass RX0 = some m.cls := hown
  refine lv_aload_n hx hb dX0_beginUnit_0 rfl (lv_at hl 0 rfl) ?_
  refine lv_iconst (v := 4) hx hb dX0_beginUnit_1 (by decide) ?_
  refine w_call (va_runV (As := [.int 4]) (rest := []) ⟨hx, hb, hml, hown, hts⟩ (c_placeFor l g h a ml re 4 by_ (nI al) ov op up fb ha h1 (by decide) s.heap.size) (cwV 1 hts gX0_beginUnit_X0_placeFor rfl rfl rfl (by decide +kernel) ⟨Nat.le_of_ble_eq_true rfl, Nat.le_of_ble_eq_true rfl⟩) ⟨pr_blind, w_recv hw ha rfl, pr_of hw⟩ rfl rfl hl.1 rfl (lv_room (Nat.le_of_ble_eq_true rfl)) dX0_beginUnit_2 ⟨Nat.le_of_ble_eq_true rfl, Nat.le_of_ble_eq_true rfl⟩) hw (fun v h' H locs hp hw => ?_)
  obtain ⟨rfl, rfl⟩ := hp
  refine W.eq (g2 := F0 m 5 ls [.int (if ov = 0 then nI (rup re 4) else 0)]) rfl ?_
  rw [hp_]
  refine lv_istore_n (lv' := [(1, .int (nI p_)), (0, .ref a)]) hx hb dX0_beginUnit_5 rfl hl (by decide) rfl (fun ls hl => ?_)
  refine lv_iload_n hx hb dX0_beginUnit_6 rfl (lv_at hl 0 rfl) ?_
  refine lv_iconst (v := 4) hx hb dX0_beginUnit_7 (by decide) ?_
  refine lv_iadd hx hb dX0_beginUnit_8 ?_
  have x8_eq : nI p_ + 4 = nI (p_ + 4) := nI_add p_ 4
  refine lv_ldc (v := 524288) hx hb hown (hts (.constant RX0 58 (524288)) (by decide +kernel)) dX0_beginUnit_9 ?_
  refine lv_icmp_le (tgt := 16) hx hb dX0_beginUnit_11 (by decide) (fun c11 => ?_) (fun c11 => ?_)
  · refine lv_aload_n hx hb dX0_beginUnit_16 rfl (lv_at hl 1 rfl) ?_
    refine lv_iload_n hx hb dX0_beginUnit_17 rfl (lv_at hl 0 rfl) ?_
    refine lv_iconst (v := 4) hx hb dX0_beginUnit_18 (by decide) ?_
    refine lv_iconst (v := 4) hx hb dX0_beginUnit_19 (by decide) ?_
    refine w_call (va_runV (As := [.int (nI p_), .int 4, .int 4]) (rest := []) ⟨hx, hb, hml, hown, hts⟩ (c_occupy l g h a ml al re p_ 4 4 by_ ov op up fb ha h1 (by omega) h3 (by decide) H.size) (cwV 3 hts gX0_beginUnit_X0_occupy rfl rfl rfl (by decide +kernel) ⟨Nat.le_of_ble_eq_true rfl, Nat.le_of_ble_eq_true rfl⟩) ⟨pr_blind, w_recv hw ha rfl, pr_of hw⟩ rfl rfl hl.1 rfl (lv_room (Nat.le_of_ble_eq_true rfl)) dX0_beginUnit_20 ⟨Nat.le_of_ble_eq_true rfl, Nat.le_of_ble_eq_true rfl⟩) hw (fun v h' H locs hp hw => ?_)
    obtain ⟨rfl, rfl⟩ := hp
    refine W.eq (g2 := F0 m 23 ls []) rfl ?_
    refine lv_aload_n hx hb dX0_beginUnit_23 rfl (lv_at hl 1 rfl) ?_
    refine lv_iload_n hx hb dX0_beginUnit_24 rfl (lv_at hl 0 rfl) ?_
    refine w_put (ci := 1) (C := RX0) (T := TX0) (N := 8) (ref := "LayoutDesk$Compound") (ty := .int) (fs' := [.int by_, .int (nI (max al 4)), .int ov, .ref ml, .int op, .int (nI (max re (p_ + 4))), .int (nI p_), .int fb]) hx hb hts in_X0_beginUnit_1 tyX0 tyX0_ok nmX0 hown hw (wu_s _ _ _) rfl 6 (by decide) (hts (.fieldLink RX0 63 "LayoutDesk$Compound" "unitPlace" "I") (by decide +kernel)) (fun _ h9 => h9) rfl (by decide +kernel) rfl rfl (Nat.le_of_ble_eq_true rfl) rfl dX0_beginUnit_25 (fun H locs hw => ?_)
    refine lv_aload_n hx hb dX0_beginUnit_28 rfl (lv_at hl 1 rfl) ?_
    refine lv_bipush (v := 32) hx hb dX0_beginUnit_29 (by decide) ?_
    refine w_put (ci := 1) (C := RX0) (T := TX0) (N := 8) (ref := "LayoutDesk$Compound") (ty := .int) (fs' := [.int by_, .int (nI (max al 4)), .int ov, .ref ml, .int op, .int (nI (max re (p_ + 4))), .int (nI p_), .int 32]) hx hb hts in_X0_beginUnit_1 tyX0 tyX0_ok nmX0 hown hw (wu_s _ _ _) rfl 7 (by decide) (hts (.fieldLink RX0 51 "LayoutDesk$Compound" "freeBits" "I") (by decide +kernel)) (fun _ h9 => h9) rfl (by decide +kernel) rfl rfl (Nat.le_of_ble_eq_true rfl) rfl dX0_beginUnit_31 (fun H locs hw => ?_)
    refine lv_iconst (v := 1) hx hb dX0_beginUnit_34 (by decide) ?_
    exact r_bool hx hb hr hlocks hw rfl dX0_beginUnit_35 (Nat.le_of_ble_eq_true rfl) (Nat.le_of_ble_eq_true rfl) (Or.inr ⟨(nI_leI (a := p_ + 4) (b := 524288) (by omega) (by omega)).mp (by rw [← x8_eq]; exact c11), rfl, by rw [wu_uu, wu_uu]⟩)
  · refine lv_iconst (v := 0) hx hb dX0_beginUnit_14 (by decide) ?_
    exact r_bool hx hb hr hlocks hw rfl dX0_beginUnit_15 (Nat.le_of_ble_eq_true rfl) (Nat.le_of_ble_eq_true rfl) (Or.inl ⟨Nat.lt_of_not_le (fun z => c11 (by rw [x8_eq]; exact nI_le (b := 524288) z (by decide))), rfl, rfl⟩)
