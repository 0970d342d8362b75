/-! the model: leaves -/
theorem in_X5_init_5 : ∀ w ∈ u_ws RX5 TX5 3, w ∈ wsX5_init := by decide +kernel
set_option maxHeartbeats 4000000 in
set_option maxRecDepth 100000 in
theorem c_Added_init (l : Launch) (g : GG) (h : Nat → Option va_E) (a : Nat) (t0 w0 m0 ty wi mb : Int32) (hmb : mb = 0 ∨ mb = 1) (ha : h a = some (.inr (5, [.int t0, .int w0, .int m0]))) : Con l yX5_init wsX5_init 1 12 0 0 [.ref a, .int ty, .int wi, .int mb] g h (fun v h' => v = none ∧ h' = wu h a (oAd ty wi mb)) := by
  refine m_start (cc := cX5_init) (maxL := 4) (ret := none) (by decide) rfl (Nat.le_of_ble_eq_true rfl) ?_
  intro p e s m below meth c A ls hx hb hr hml hts hown hlocks hin hw hl
  have hl : lv_has ls 4 [(0, .ref a), (1, .int ty), (2, .int wi), (3, .int mb)] := hl
  have hown : s.vm.findClass RX5 = some m.cls := hown
  refine lv_aload_n hx hb dX5_init_0 rfl (lv_at hl 0 rfl) ?_
  refine W.objInit hx hb hown (hts (.methodLink RX5 1 objectInit) (by decide +kernel)) (hts (.instanceMethod objectInit) (by decide +kernel)) (hts _ (List.mem_of_getElem? (i := 3) rfl)) rfl (by rw [hml]; exact hl.1) rfl dX5_init_1 (Nat.le_of_ble_eq_true rfl) (Nat.le_of_ble_eq_true rfl) ?_
  refine W.eq (g2 := F0 m 4 ls []) rfl ?_
  refine lv_aload_n hx hb dX5_init_4 rfl (lv_at hl 0 rfl) ?_
  refine lv_iload_n hx hb dX5_init_5 rfl (lv_at hl 1 rfl) ?_
  refine w_putF (ci := 5) (C := RX5) (T := TX5) (N := 3) (ref := "LayoutDeskModel$Added") (ty := .int) (fs' := [.int ty, .int w0, .int m0]) hx hb hts in_X5_init_5 tyX5 tyX5_ok nmX5 hown hw ha rfl 0 (by decide) (hts (.fieldLink RX5 7 "LayoutDeskModel$Added" "type" "I") (by decide +kernel)) (fun _ h9 => h9) rfl hin rfl (by decide +kernel) rfl rfl (Nat.le_of_ble_eq_true rfl) rfl dX5_init_6 (fun H locs hw => ?_)
  refine lv_aload_n hx hb dX5_init_9 rfl (lv_at hl 0 rfl) ?_
  refine lv_iload_n hx hb dX5_init_10 rfl (lv_at hl 2 rfl) ?_
  refine w_putF (ci := 5) (C := RX5) (T := TX5) (N := 3) (ref := "LayoutDeskModel$Added") (ty := .int) (fs' := [.int ty, .int wi, .int m0]) hx hb hts in_X5_init_5 tyX5 tyX5_ok nmX5 hown hw (wu_s _ _ _) rfl 1 (by decide) (hts (.fieldLink RX5 13 "LayoutDeskModel$Added" "width" "I") (by decide +kernel)) (fun _ h9 => h9) rfl hin rfl (by decide +kernel) rfl rfl (Nat.le_of_ble_eq_true rfl) rfl dX5_init_11 (fun H locs hw => ?_)
  refine lv_aload_n hx hb dX5_init_14 rfl (lv_at hl 0 rfl) ?_
  refine lv_iload_n hx hb dX5_init_15 rfl (lv_at hl 3 rfl) ?_
  refine w_putF (ci := 5) (C := RX5) (T := TX5) (N := 3) (ref := "LayoutDeskModel$Added") (ty := .boolean) (fs' := [.int ty, .int wi, .int mb]) hx hb hts in_X5_init_5 tyX5 tyX5_ok nmX5 hown hw (wu_s _ _ _) rfl 2 (by decide) (hts (.fieldLink RX5 16 "LayoutDeskModel$Added" "member" "Z") (by decide +kernel)) (fun _ h9 => h9) rfl hin rfl (by decide +kernel) (b01 hmb) (f01 hmb) (Nat.le_of_ble_eq_true rfl) rfl dX5_init_16 (fun H locs hw => ?_)
  exact r_void hx hb hr hlocks hw dX5_init_19 (Nat.le_of_ble_eq_true rfl) (Nat.le_of_ble_eq_true rfl) (⟨rfl, by rw [wu_uu, wu_uu]⟩)
theorem in_X6_init_0 : ∀ w ∈ u_ws RJx4a65c TJx4a65c 3, w ∈ wsX6_init := by decide +kernel
theorem in_X6_init_6 : ∀ w ∈ u_ws RX6 TX6 7, w ∈ wsX6_init := by decide +kernel
set_option maxHeartbeats 4000000 in
set_option maxRecDepth 100000 in
theorem c_MType_init (l : Launch) (g : GG) (h : Nat → Option va_E) (a : Nat) (ki to_ le si : Int32) (ha : h a = some (.inr (6, [.int 0, .int 0, .int 0, .int 0, .int 0, .null, .int 0]))) : Con l yX6_init wsX6_init 4 80 1 3 [.ref a, .int ki, .int to_, .int le, .int si] g h (fun v h' => ∃ q : Nat, v = none ∧ h q = none ∧ h' a = some (oTy ki to_ le si (if 4 < si then 4 else si) q 0) ∧ h' q = some (oAL 0 (gZ g) 0) ∧ ∀ z, z ≠ a → z ≠ q → h' z = h z) := by
  refine m_start (cc := cX6_init) (maxL := 5) (ret := none) (by decide) rfl (Nat.le_of_ble_eq_true rfl) ?_
  intro p e s m below meth c A ls hx hb hr hml hts hown hlocks hin hw hl
  have hl : lv_has ls 5 [(0, .ref a), (1, .int ki), (2, .int to_), (3, .int le), (4, .int si)] := hl
  have hown : s.vm.findClass RX6 = some m.cls := hown
  refine lv_aload_n hx hb dX6_init_0 rfl (lv_at hl 0 rfl) ?_
  refine W.objInit hx hb hown (hts (.methodLink RX6 1 objectInit) (by decide +kernel)) (hts (.instanceMethod objectInit) (by decide +kernel)) (hts _ (List.mem_of_getElem? (i := 3) rfl)) rfl (by rw [hml]; exact hl.1) rfl dX6_init_1 (Nat.le_of_ble_eq_true rfl) (Nat.le_of_ble_eq_true rfl) ?_
  refine W.eq (g2 := F0 m 4 ls []) rfl ?_
  refine lv_aload_n hx hb dX6_init_4 rfl (lv_at hl 0 rfl) ?_
  refine w_new (ci := 0) (C := RJx4a65c) (T := TJx4a65c) (N := 3) (fs := [.int 0, .null, .int 0]) hx hb hts in_X6_init_0 tyJx4a65c tyJx4a65c_ok hown (hts (.classLink RX6 7 RJx4a65c) (by decide +kernel)) (hts (.instantiable RJx4a65c 3) (by decide +kernel)) (hts (.initialized RJx4a65c) (by decide +kernel)) hw rfl (fun j hj => by rcases (show j = 0 ∨ j = 1 ∨ j = 2 by omega) with rfl | rfl | rfl <;> rfl) (Nat.le_of_ble_eq_true rfl) (Nat.le_of_ble_eq_true rfl) dX6_init_5 (fun q H hq hw => ?_)
  refine lv_dup hx hb dX6_init_8 rfl ?_
  refine w_call (va_runI (As := []) (rest := [.ref q, .ref a]) ⟨hx, hb, hml, hown, hts⟩ (c_AL_init l g (wu h q (.inr (0, [.int 0, .null, .int 0]))) q 0 0 .null (wu_s _ _ _) H.size) (cwI 0 hts gX6_init_Jx4a65c_init_da8c8 rfl rfl rfl (hts (.initialized RJx4a65c) (by decide +kernel)) (hts (.methodLink RX6 9 yJx4a65c_init_da8c8) (by decide +kernel)) (hts (.instanceMethod yJx4a65c_init_da8c8) (by decide +kernel)) rfl (by decide +kernel) ⟨Nat.le_of_ble_eq_true rfl, Nat.le_of_ble_eq_true rfl⟩) ⟨pr_blind, pr_of hw⟩ rfl rfl hl.1 rfl (lv_room (Nat.le_of_ble_eq_true rfl)) dX6_init_9 ⟨Nat.le_of_ble_eq_true rfl, Nat.le_of_ble_eq_true rfl⟩) hw (fun v h' H locs hp hw => ?_)
  obtain ⟨rfl, rfl⟩ := hp
  refine W.eq (g2 := F0 m 12 ls [.ref q, .ref a]) rfl ?_
  refine w_putF (ci := 6) (C := RX6) (T := TX6) (N := 7) (ref := "LayoutDeskModel$Type") (ty := .object "java/util/ArrayList") (fs' := [.int 0, .int 0, .int 0, .int 0, .int 0, .ref q, .int 0]) hx hb hts in_X6_init_6 tyX6 tyX6_ok nmX6 hown hw ((wu_n (ne_n ha hq)).trans ((wu_n (ne_n ha hq)).trans ha)) rfl 5 (by decide) (hts (.fieldLink RX6 10 "LayoutDeskModel$Type" "added" "Ljava/util/ArrayList;") (by decide +kernel)) (fun _ h9 => h9) rfl hin rfl (by decide +kernel) rfl rfl (Nat.le_of_ble_eq_true rfl) rfl dX6_init_12 (fun H locs hw => ?_)
  refine lv_aload_n hx hb dX6_init_15 rfl (lv_at hl 0 rfl) ?_
  refine lv_iload_n hx hb dX6_init_16 rfl (lv_at hl 1 rfl) ?_
  refine w_putF (ci := 6) (C := RX6) (T := TX6) (N := 7) (ref := "LayoutDeskModel$Type") (ty := .int) (fs' := [.int ki, .int 0, .int 0, .int 0, .int 0, .ref q, .int 0]) hx hb hts in_X6_init_6 tyX6 tyX6_ok nmX6 hown hw (wu_s _ _ _) rfl 0 (by decide) (hts (.fieldLink RX6 16 "LayoutDeskModel$Type" "kind" "I") (by decide +kernel)) (fun _ h9 => h9) rfl hin rfl (by decide +kernel) rfl rfl (Nat.le_of_ble_eq_true rfl) rfl dX6_init_17 (fun H locs hw => ?_)
  refine lv_aload_n hx hb dX6_init_20 rfl (lv_at hl 0 rfl) ?_
  refine lv_iload_n hx hb dX6_init_21 rfl (lv_at hl 2 rfl) ?_
  refine w_putF (ci := 6) (C := RX6) (T := TX6) (N := 7) (ref := "LayoutDeskModel$Type") (ty := .int) (fs' := [.int ki, .int to_, .int 0, .int 0, .int 0, .ref q, .int 0]) hx hb hts in_X6_init_6 tyX6 tyX6_ok nmX6 hown hw (wu_s _ _ _) rfl 1 (by decide) (hts (.fieldLink RX6 20 "LayoutDeskModel$Type" "to" "I") (by decide +kernel)) (fun _ h9 => h9) rfl hin rfl (by decide +kernel) rfl rfl (Nat.le_of_ble_eq_true rfl) rfl dX6_init_22 (fun H locs hw => ?_)
  refine lv_aload_n hx hb dX6_init_25 rfl (lv_at hl 0 rfl) ?_
  refine lv_iload_n hx hb dX6_init_26 rfl (lv_at hl 3 rfl) ?_
  refine w_putF (ci := 6) (C := RX6) (T := TX6) (N := 7) (ref := "LayoutDeskModel$Type") (ty := .int) (fs' := [.int ki, .int to_, .int le, .int 0, .int 0, .ref q, .int 0]) hx hb hts in_X6_init_6 tyX6 tyX6_ok nmX6 hown hw (wu_s _ _ _) rfl 2 (by decide) (hts (.fieldLink RX6 23 "LayoutDeskModel$Type" "length" "I") (by decide +kernel)) (fun _ h9 => h9) rfl hin rfl (by decide +kernel) rfl rfl (Nat.le_of_ble_eq_true rfl) rfl dX6_init_27 (fun H locs hw => ?_)
  refine lv_aload_n hx hb dX6_init_30 rfl (lv_at hl 0 rfl) ?_
  refine lv_iload hx hb dX6_init_31 (lv_at hl 4 rfl) ?_
  refine w_put (ci := 6) (C := RX6) (T := TX6) (N := 7) (ref := "LayoutDeskModel$Type") (ty := .int) (fs' := [.int ki, .int to_, .int le, .int si, .int 0, .ref q, .int 0]) hx hb hts in_X6_init_6 tyX6 tyX6_ok nmX6 hown hw (wu_s _ _ _) rfl 3 (by decide) (hts (.fieldLink RX6 26 "LayoutDeskModel$Type" "size" "I") (by decide +kernel)) (fun _ h9 => h9) rfl (by decide +kernel) rfl rfl (Nat.le_of_ble_eq_true rfl) rfl dX6_init_33 (fun H locs hw => ?_)
  refine lv_aload_n hx hb dX6_init_36 rfl (lv_at hl 0 rfl) ?_
  refine lv_iload hx hb dX6_init_37 (lv_at hl 4 rfl) ?_
  refine lv_iconst (v := 4) hx hb dX6_init_39 (by decide) ?_
  refine va_mmin hx hb (hml.trans hl.1.symm) hown (hts (.methodLink RX6 29 Lib.Math.min.name) (by decide +kernel)) (hts (.static Lib.Math.min.name) (by decide +kernel)) (hts (.initialized "java/lang/Math") (by decide +kernel)) (hts _ (List.mem_of_getElem? (i := 15) rfl)) (Nat.le_of_ble_eq_true rfl) (Nat.le_of_ble_eq_true rfl) (Nat.le_of_ble_eq_true rfl) (Nat.le_of_ble_eq_true rfl) dX6_init_40 ?_
  refine w_put (ci := 6) (C := RX6) (T := TX6) (N := 7) (ref := "LayoutDeskModel$Type") (ty := .int) (fs' := [.int ki, .int to_, .int le, .int si, .int (if 4 < si then 4 else si), .ref q, .int 0]) hx hb hts in_X6_init_6 tyX6 tyX6_ok nmX6 hown hw (wu_s _ _ _) rfl 4 (by decide) (hts (.fieldLink RX6 35 "LayoutDeskModel$Type" "align" "I") (by decide +kernel)) (fun _ h9 => h9) rfl (by decide +kernel) rfl rfl (Nat.le_of_ble_eq_true rfl) rfl dX6_init_43 (fun H locs hw => ?_)
  exact r_void hx hb hr hlocks hw dX6_init_46 (Nat.le_of_ble_eq_true rfl) (Nat.le_of_ble_eq_true rfl) (⟨q, rfl, hq, wu_s _ _ _, (((wu_n ((ne_n ha hq)).symm).trans ((wu_n ((ne_n ha hq)).symm).trans ((wu_n ((ne_n ha hq)).symm).trans ((wu_n ((ne_n ha hq)).symm).trans ((wu_n ((ne_n ha hq)).symm).trans ((wu_n ((ne_n ha hq)).symm).trans (wu_s _ _ _)))))))), fun z z1 z2 => by rw [wu_n z1, wu_n z1, wu_n z1, wu_n z1, wu_n z1, wu_n z1, wu_n z2, wu_n z2]⟩)
theorem in_X6_record_6 : ∀ w ∈ u_ws RX6 TX6 7, w ∈ wsX6_record := by decide +kernel
set_option maxHeartbeats 4000000 in
set_option maxRecDepth 100000 in
theorem c_isRec (l : Launch) (g : GG) (h : Nat → Option va_E) (a ad K : Nat) (to_ le si al fi : Int32) (hK : K ≤ 4) (ha : h a = some (oTy (nI K) to_ le si al ad fi)) : Con l yX6_record wsX6_record 0 0 0 0 [.ref a] g h (fun v h' => v = some (.int (if 3 ≤ K then 1 else 0)) ∧ h = h') := by
  refine m_start (cc := cX6_record) (maxL := 1) (ret := (some .boolean)) (by decide) rfl (Nat.le_of_ble_eq_true rfl) ?_
  intro p e s m below meth c A ls hx hb hr hml hts hown hlocks hin hw hl
  have hl : lv_has ls 1 [(0, .ref a)] := hl
  have hown : s.vm.findClass RX6 = some m.cls := hown
  refine lv_aload_n hx hb dX6_record_0 rfl (lv_at hl 0 rfl) ?_
  refine w_get (ci := 6) (C := RX6) (T := TX6) (N := 7) (ref := "LayoutDeskModel$Type") hx hb hts in_X6_record_6 hown hw ha rfl 0 (by decide) (hts (.fieldLink RX6 16 "LayoutDeskModel$Type" "kind" "I") (by decide +kernel)) (fun _ h9 => h9) rfl dX6_record_1 ?_
  refine lv_iconst (v := 2) hx hb dX6_record_4 (by decide) ?_
  refine lv_icmp_le (tgt := 12) hx hb dX6_record_5 (by decide) (fun c5 => ?_) (fun c5 => ?_)
  · refine lv_iconst (v := 0) hx hb dX6_record_12 (by decide) ?_
    exact r_bool hx hb hr hlocks hw rfl dX6_record_13 (Nat.le_of_ble_eq_true rfl) (Nat.le_of_ble_eq_true rfl) (⟨by rw [if_neg (fun z : 3 ≤ K => (nI_ge (a := 2) z (by omega)) c5)], rfl⟩)
  · refine lv_iconst (v := 1) hx hb dX6_record_8 (by decide) ?_
    refine lv_goto (tgt := 13) hx hb dX6_record_9 (by decide) ?_
    exact r_bool hx hb hr hlocks hw rfl dX6_record_13 (Nat.le_of_ble_eq_true rfl) (Nat.le_of_ble_eq_true rfl) (⟨by rw [if_pos (show 3 ≤ K from Nat.lt_of_not_le (fun z => c5 (nI_le (b := 2) z (by decide))))], rfl⟩)
theorem in_X7_there_7 : ∀ w ∈ u_ws RX7 TX7 8, w ∈ wsX7_there := by decide +kernel
set_option maxHeartbeats 4000000 in
set_option maxRecDepth 100000 in
theorem c_there_N (l : Launch) (g : GG) (h : Nat → Option va_E) (mo tl ta p0 p1 p2 p3 : Nat) (mem rea ali : Int32) (ty : List Nat) (hm : h mo = some (oMo tl p0 p1 p2 p3 mem rea ali)) (hL : AL g h tl ta ty) (t : Int32) (ht : lk ty t = none) : Con l yX7_there wsX7_there 1 30 0 0 [.ref mo, .int t] g h (fun v h' => v = some (.int 0) ∧ h = h') := by
  have hn9 := AL_len hL
  obtain ⟨⟨mc, hk0⟩, -, -⟩ := id hL
  refine m_start (cc := cX7_there) (maxL := 2) (ret := (some .boolean)) (by decide) rfl (Nat.le_of_ble_eq_true rfl) ?_
  intro p e s m below meth c A ls hx hb hr hml hts hown hlocks hin hw hl
  have hl : lv_has ls 2 [(0, .ref mo), (1, .int t)] := hl
  have hown : s.vm.findClass RX7 = some m.cls := hown
  refine lv_iload_n hx hb dX7_there_0 rfl (lv_at hl 1 rfl) ?_
  refine lv_if_lt (tgt := 19) hx hb dX7_there_1 (by decide) (fun c1 => ?_) (fun c1 => ?_)
  · refine lv_iconst (v := 0) hx hb dX7_there_19 (by decide) ?_
    exact r_bool hx hb hr hlocks hw rfl dX7_there_20 (Nat.le_of_ble_eq_true rfl) (Nat.le_of_ble_eq_true rfl) (⟨rfl, rfl⟩)
  · refine lv_iload_n hx hb dX7_there_4 rfl (lv_at hl 1 rfl) ?_
    refine lv_aload_n hx hb dX7_there_5 rfl (lv_at hl 0 rfl) ?_
    refine w_get (ci := 7) (C := RX7) (T := TX7) (N := 8) (ref := "LayoutDeskModel") hx hb hts in_X7_there_7 hown hw hm rfl 0 (by decide) (hts (.fieldLink RX7 10 "LayoutDeskModel" "types" "Ljava/util/ArrayList;") (by decide +kernel)) (fun _ h9 => h9) rfl dX7_there_6 ?_
    refine w_call (va_runV (As := []) (rest := [.int t]) ⟨hx, hb, hml, hown, hts⟩ (c_sizeL l g h tl ta ty hL s.heap.size) (cwV 0 hts gX7_there_Jx4a65c_size_8abf5 rfl rfl rfl (by decide +kernel) ⟨Nat.le_of_ble_eq_true rfl, Nat.le_of_ble_eq_true rfl⟩) ⟨pr_blind, w_recv hw hk0 rfl, pr_of hw⟩ rfl rfl hl.1 rfl (lv_room (Nat.le_of_ble_eq_true rfl)) dX7_there_9 ⟨Nat.le_of_ble_eq_true rfl, Nat.le_of_ble_eq_true rfl⟩) hw (fun v h' H locs hp hw => ?_)
    obtain ⟨rfl, rfl⟩ := hp
    refine W.eq (g2 := F0 m 12 ls [.int (nI ty.length), .int t]) rfl ?_
    refine lv_icmp_ge (tgt := 19) hx hb dX7_there_12 (by decide) (fun c12 => ?_) (fun c12 => ?_)
    · refine lv_iconst (v := 0) hx hb dX7_there_19 (by decide) ?_
      exact r_bool hx hb hr hlocks hw rfl dX7_there_20 (Nat.le_of_ble_eq_true rfl) (Nat.le_of_ble_eq_true rfl) (⟨rfl, rfl⟩)
    · obtain ⟨a9, ha9⟩ := lk_some c1 (Int32.not_le.mp c12) (by omega)
      rw [ht] at ha9
      cases ha9
set_option maxHeartbeats 4000000 in
set_option maxRecDepth 100000 in
theorem c_there_S (l : Launch) (g : GG) (h : Nat → Option va_E) (mo tl ta p0 p1 p2 p3 : Nat) (mem rea ali : Int32) (ty : List Nat) (hm : h mo = some (oMo tl p0 p1 p2 p3 mem rea ali)) (hL : AL g h tl ta ty) (t : Int32) (a : Nat) (ht : lk ty t = some a) : Con l yX7_there wsX7_there 1 30 0 0 [.ref mo, .int t] g h (fun v h' => v = some (.int 1) ∧ h = h') := by
  have hn9 := AL_len hL
  obtain ⟨⟨mc, hk0⟩, -, -⟩ := id hL
  refine m_start (cc := cX7_there) (maxL := 2) (ret := (some .boolean)) (by decide) rfl (Nat.le_of_ble_eq_true rfl) ?_
  intro p e s m below meth c A ls hx hb hr hml hts hown hlocks hin hw hl
  have hl : lv_has ls 2 [(0, .ref mo), (1, .int t)] := hl
  have hown : s.vm.findClass RX7 = some m.cls := hown
  refine lv_iload_n hx hb dX7_there_0 rfl (lv_at hl 1 rfl) ?_
  refine lv_if_lt (tgt := 19) hx hb dX7_there_1 (by decide) (fun c1 => ?_) (fun c1 => ?_)
  · exact absurd c1 (lk_ofS ht).1
  · refine lv_iload_n hx hb dX7_there_4 rfl (lv_at hl 1 rfl) ?_
    refine lv_aload_n hx hb dX7_there_5 rfl (lv_at hl 0 rfl) ?_
    refine w_get (ci := 7) (C := RX7) (T := TX7) (N := 8) (ref := "LayoutDeskModel") hx hb hts in_X7_there_7 hown hw hm rfl 0 (by decide) (hts (.fieldLink RX7 10 "LayoutDeskModel" "types" "Ljava/util/ArrayList;") (by decide +kernel)) (fun _ h9 => h9) rfl dX7_there_6 ?_
    refine w_call (va_runV (As := []) (rest := [.int t]) ⟨hx, hb, hml, hown, hts⟩ (c_sizeL l g h tl ta ty hL s.heap.size) (cwV 0 hts gX7_there_Jx4a65c_size_8abf5 rfl rfl rfl (by decide +kernel) ⟨Nat.le_of_ble_eq_true rfl, Nat.le_of_ble_eq_true rfl⟩) ⟨pr_blind, w_recv hw hk0 rfl, pr_of hw⟩ rfl rfl hl.1 rfl (lv_room (Nat.le_of_ble_eq_true rfl)) dX7_there_9 ⟨Nat.le_of_ble_eq_true rfl, Nat.le_of_ble_eq_true rfl⟩) hw (fun v h' H locs hp hw => ?_)
    obtain ⟨rfl, rfl⟩ := hp
    refine W.eq (g2 := F0 m 12 ls [.int (nI ty.length), .int t]) rfl ?_
    refine lv_icmp_ge (tgt := 19) hx hb dX7_there_12 (by decide) (fun c12 => ?_) (fun c12 => ?_)
    · exact absurd (lk_lt ht (by omega)).1 (Int32.not_lt.mpr c12)
    · refine lv_iconst (v := 1) hx hb dX7_there_15 (by decide) ?_
      refine lv_goto (tgt := 20) hx hb dX7_there_16 (by decide) ?_
      exact r_bool hx hb hr hlocks hw rfl dX7_there_20 (Nat.le_of_ble_eq_true rfl) (Nat.le_of_ble_eq_true rfl) (⟨rfl, rfl⟩)
set_option maxHeartbeats 4000000 in
set_option maxRecDepth 100000 in
theorem c_open_MN (l : Launch) (g : GG) (h : Nat → Option va_E) (mo tl ta p0 p1 p2 p3 : Nat) (mem rea ali : Int32) (ty : List Nat) (hm : h mo = some (oMo tl p0 p1 p2 p3 mem rea ali)) (hL : AL g h tl ta ty) (t : Int32) (ht : lk ty t = none) : Con l yX7_open wsX7_open 3 70 0 0 [.ref mo, .int t] g h (fun v h' => v = some .null ∧ h = h') := by
  have hn9 := AL_len hL
  obtain ⟨⟨mc, hk0⟩, -, -⟩ := id hL
  refine m_start (cc := cX7_open) (maxL := 3) (ret := (some (.object "LayoutDeskModel$Type"))) (by decide) rfl (Nat.le_of_ble_eq_true rfl) ?_
  intro p e s m below meth c A ls hx hb hr hml hts hown hlocks hin hw hl
  have hl : lv_has ls 3 [(0, .ref mo), (1, .int t)] := hl
  have hown : s.vm.findClass RX7 = some m.cls := hown
  refine lv_aload_n hx hb dX7_open_0 rfl (lv_at hl 0 rfl) ?_
  refine lv_iload_n hx hb dX7_open_1 rfl (lv_at hl 1 rfl) ?_
  refine w_call (va_runV (As := [.int t]) (rest := []) ⟨hx, hb, hml, hown, hts⟩ (c_there_N l g h mo tl ta p0 p1 p2 p3 mem rea ali ty hm hL t ht s.heap.size) (cwV 1 hts gX7_open_X7_there rfl rfl rfl (by decide +kernel) ⟨Nat.le_of_ble_eq_true rfl, Nat.le_of_ble_eq_true rfl⟩) ⟨pr_blind, w_recv hw hm rfl, pr_of hw⟩ rfl rfl hl.1 rfl (lv_room (Nat.le_of_ble_eq_true rfl)) dX7_open_2 ⟨Nat.le_of_ble_eq_true rfl, Nat.le_of_ble_eq_true rfl⟩) hw (fun v h' H locs hp hw => ?_)
  obtain ⟨rfl, rfl⟩ := hp
  refine W.eq (g2 := F0 m 5 ls [.int 0]) rfl ?_
  refine lv_if_eq (tgt := 22) hx hb dX7_open_5 (by decide) (fun c5 => ?_) (fun c5 => ?_)
  · refine lv_null hx hb dX7_open_22 ?_
    refine lv_astore_nN (lv' := [(2, .null), (0, .ref mo), (1, .int t)]) hx hb dX7_open_23 rfl hl (by decide) rfl (fun ls hl => ?_)
    refine lv_aload_nN hx hb dX7_open_24 rfl (lv_at hl 0 rfl) ?_
    refine lv_ifnullN (tgt := 46) hx hb dX7_open_25 (by decide) ?_
    refine lv_null hx hb dX7_open_46 ?_
    exact r_ref hx hb hr (Or.inl ⟨_, rfl⟩) (Or.inl rfl) hlocks hw dX7_open_47 (Nat.le_of_ble_eq_true rfl) (Nat.le_of_ble_eq_true rfl) (⟨rfl, rfl⟩)
  · exact absurd rfl c5
theorem in_X7_open_6 : ∀ w ∈ u_ws RX6 TX6 7, w ∈ wsX7_open := by decide +kernel
theorem in_X7_open_7 : ∀ w ∈ u_ws RX7 TX7 8, w ∈ wsX7_open := by decide +kernel
set_option maxHeartbeats 4000000 in
set_option maxRecDepth 100000 in
theorem c_open_MC (l : Launch) (g : GG) (h : Nat → Option va_E) (mo tl ta p0 p1 p2 p3 : Nat) (mem rea ali : Int32) (ty : List Nat) (hm : h mo = some (oMo tl p0 p1 p2 p3 mem rea ali)) (hL : AL g h tl ta ty) (t : Int32) (a ad K : Nat) (to_ le si al fi : Int32) (hK : K ≤ 4) (ht : lk ty t = some a) (ha : h a = some (oTy (nI K) to_ le si al ad fi)) (hcl : K < 3 ∨ fi = 1) : Con l yX7_open wsX7_open 3 70 0 0 [.ref mo, .int t] g h (fun v h' => v = some .null ∧ h = h') := by
  have hn9 := AL_len hL
  obtain ⟨⟨mc, hk0⟩, -, -⟩ := id hL
  refine m_start (cc := cX7_open) (maxL := 3) (ret := (some (.object "LayoutDeskModel$Type"))) (by decide) rfl (Nat.le_of_ble_eq_true rfl) ?_
  intro p e s m below meth c A ls hx hb hr hml hts hown hlocks hin hw hl
  have hl : lv_has ls 3 [(0, .ref mo), (1, .int t)] := hl
  have hown : s.vm.findClass RX7 = some m.cls := hown
  refine lv_aload_n hx hb dX7_open_0 rfl (lv_at hl 0 rfl) ?_
  refine lv_iload_n hx hb dX7_open_1 rfl (lv_at hl 1 rfl) ?_
  refine w_call (va_runV (As := [.int t]) (rest := []) ⟨hx, hb, hml, hown, hts⟩ (c_there_S l g h mo tl ta p0 p1 p2 p3 mem rea ali ty hm hL t a ht s.heap.size) (cwV 1 hts gX7_open_X7_there rfl rfl rfl (by decide +kernel) ⟨Nat.le_of_ble_eq_true rfl, Nat.le_of_ble_eq_true rfl⟩) ⟨pr_blind, w_recv hw hm rfl, pr_of hw⟩ rfl rfl hl.1 rfl (lv_room (Nat.le_of_ble_eq_true rfl)) dX7_open_2 ⟨Nat.le_of_ble_eq_true rfl, Nat.le_of_ble_eq_true rfl⟩) hw (fun v h' H locs hp hw => ?_)
  obtain ⟨rfl, rfl⟩ := hp
  refine W.eq (g2 := F0 m 5 ls [.int 1]) rfl ?_
  refine lv_if_eq (tgt := 22) hx hb dX7_open_5 (by decide) (fun c5 => ?_) (fun c5 => ?_)
  · exact absurd c5 (by decide)
  · refine lv_aload_n hx hb dX7_open_8 rfl (lv_at hl 0 rfl) ?_
    refine w_get (ci := 7) (C := RX7) (T := TX7) (N := 8) (ref := "LayoutDeskModel") hx hb hts in_X7_open_7 hown hw hm rfl 0 (by decide) (hts (.fieldLink RX7 10 "LayoutDeskModel" "types" "Ljava/util/ArrayList;") (by decide +kernel)) (fun _ h9 => h9) rfl dX7_open_9 ?_
    refine lv_iload_n hx hb dX7_open_12 rfl (lv_at hl 1 rfl) ?_
    refine w_call (va_runV (As := [.int t]) (rest := []) ⟨hx, hb, hml, hown, hts⟩ (c_getL l g h tl ta ty hL t a ht H.size) (cwV 1 hts gX7_open_Jx4a65c_get_915e3 rfl rfl rfl (by decide +kernel) ⟨Nat.le_of_ble_eq_true rfl, Nat.le_of_ble_eq_true rfl⟩) ⟨pr_blind, w_recv hw hk0 rfl, pr_of hw⟩ rfl rfl hl.1 rfl (lv_room (Nat.le_of_ble_eq_true rfl)) dX7_open_13 ⟨Nat.le_of_ble_eq_true rfl, Nat.le_of_ble_eq_true rfl⟩) hw (fun v h' H locs hp hw => ?_)
    obtain ⟨rfl, rfl⟩ := hp
    refine W.eq (g2 := F0 m 16 ls [.ref a]) rfl ?_
    refine va_castY (C := RX6) hx hb hown (hts (.classLink RX7 29 "LayoutDeskModel$Type") (by decide +kernel)) (w_nwN hw (by decide +kernel)) (w_recv hw ha rfl) dX7_open_16 ?_
    refine lv_goto (tgt := 23) hx hb dX7_open_19 (by decide) ?_
    refine lv_astore_n (lv' := [(2, .ref a), (0, .ref mo), (1, .int t)]) hx hb dX7_open_23 rfl hl (by decide) rfl (fun ls hl => ?_)
    refine lv_aload_n hx hb dX7_open_24 rfl (lv_at hl 0 rfl) ?_
    refine lv_ifnull hx hb dX7_open_25 ?_
    refine lv_aload_n hx hb dX7_open_28 rfl (lv_at hl 0 rfl) ?_
    refine w_call (va_runV (As := []) (rest := []) ⟨hx, hb, hml, hown, hts⟩ (c_isRec l g h a ad K to_ le si al fi hK ha H.size) (cwV 0 hts gX7_open_X6_record rfl rfl rfl (by decide +kernel) ⟨Nat.le_of_ble_eq_true rfl, Nat.le_of_ble_eq_true rfl⟩) ⟨pr_blind, w_recv hw ha rfl, pr_of hw⟩ rfl rfl hl.1 rfl (lv_room (Nat.le_of_ble_eq_true rfl)) dX7_open_29 ⟨Nat.le_of_ble_eq_true rfl, Nat.le_of_ble_eq_true rfl⟩) hw (fun v h' H locs hp hw => ?_)
    obtain ⟨rfl, rfl⟩ := hp
    refine W.eq (g2 := F0 m 32 ls [.int (if 3 ≤ K then 1 else 0)]) rfl ?_
    refine lv_if_eq (tgt := 46) hx hb dX7_open_32 (by decide) (fun c32 => ?_) (fun c32 => ?_)
    · have hk0_ : ¬ 3 ≤ K := fun z => by rw [if_pos z] at c32; exact absurd c32 (by decide)
      refine lv_null hx hb dX7_open_46 ?_
      exact r_ref hx hb hr (Or.inl ⟨_, rfl⟩) (Or.inl rfl) hlocks hw dX7_open_47 (Nat.le_of_ble_eq_true rfl) (Nat.le_of_ble_eq_true rfl) (⟨rfl, rfl⟩)
    · have hk1_ : 3 ≤ K := Classical.byContradiction (fun z => by rw [if_neg z] at c32; exact absurd rfl c32)
      refine lv_aload_n hx hb dX7_open_35 rfl (lv_at hl 0 rfl) ?_
      refine w_get (ci := 6) (C := RX6) (T := TX6) (N := 7) (ref := "LayoutDeskModel$Type") hx hb hts in_X7_open_6 hown hw ha rfl 6 (by decide) (hts (.fieldLink RX7 54 "LayoutDeskModel$Type" "finished" "Z") (by decide +kernel)) (fun _ h9 => h9) rfl dX7_open_36 ?_
      refine lv_if_ne (tgt := 46) hx hb dX7_open_39 (by decide) (fun c39 => ?_) (fun c39 => ?_)
      · refine lv_null hx hb dX7_open_46 ?_
        exact r_ref hx hb hr (Or.inl ⟨_, rfl⟩) (Or.inl rfl) hlocks hw dX7_open_47 (Nat.le_of_ble_eq_true rfl) (Nat.le_of_ble_eq_true rfl) (⟨rfl, rfl⟩)
      · exact absurd c39 (by rcases hcl with z | z; { omega }; { rw [z]; decide })
set_option maxHeartbeats 4000000 in
set_option maxRecDepth 100000 in
theorem c_open_MO (l : Launch) (g : GG) (h : Nat → Option va_E) (mo tl ta p0 p1 p2 p3 : Nat) (mem rea ali : Int32) (ty : List Nat) (hm : h mo = some (oMo tl p0 p1 p2 p3 mem rea ali)) (hL : AL g h tl ta ty) (t : Int32) (a ad K : Nat) (to_ le si al fi : Int32) (hK : K ≤ 4) (ht : lk ty t = some a) (ha : h a = some (oTy (nI K) to_ le si al ad fi)) (hop : 3 ≤ K ∧ fi = 0) : Con l yX7_open wsX7_open 3 70 0 0 [.ref mo, .int t] g h (fun v h' => v = some (.ref a) ∧ h = h') := by
  have hn9 := AL_len hL
  obtain ⟨⟨mc, hk0⟩, -, -⟩ := id hL
  refine m_start (cc := cX7_open) (maxL := 3) (ret := (some (.object "LayoutDeskModel$Type"))) (by decide) rfl (Nat.le_of_ble_eq_true rfl) ?_
  intro p e s m below meth c A ls hx hb hr hml hts hown hlocks hin hw hl
  have hl : lv_has ls 3 [(0, .ref mo), (1, .int t)] := hl
  have hown : s.vm.findClass RX7 = some m.cls := hown
  refine lv_aload_n hx hb dX7_open_0 rfl (lv_at hl 0 rfl) ?_
  refine lv_iload_n hx hb dX7_open_1 rfl (lv_at hl 1 rfl) ?_
  refine w_call (va_runV (As := [.int t]) (rest := []) ⟨hx, hb, hml, hown, hts⟩ (c_there_S l g h mo tl ta p0 p1 p2 p3 mem rea ali ty hm hL t a ht s.heap.size) (cwV 1 hts gX7_open_X7_there rfl rfl rfl (by decide +kernel) ⟨Nat.le_of_ble_eq_true rfl, Nat.le_of_ble_eq_true rfl⟩) ⟨pr_blind, w_recv hw hm rfl, pr_of hw⟩ rfl rfl hl.1 rfl (lv_room (Nat.le_of_ble_eq_true rfl)) dX7_open_2 ⟨Nat.le_of_ble_eq_true rfl, Nat.le_of_ble_eq_true rfl⟩) hw (fun v h' H locs hp hw => ?_)
  obtain ⟨rfl, rfl⟩ := hp
  refine W.eq (g2 := F0 m 5 ls [.int 1]) rfl ?_
  refine lv_if_eq (tgt := 22) hx hb dX7_open_5 (by decide) (fun c5 => ?_) (fun c5 => ?_)
  · exact absurd c5 (by decide)
  · refine lv_aload_n hx hb dX7_open_8 rfl (lv_at hl 0 rfl) ?_
    refine w_get (ci := 7) (C := RX7) (T := TX7) (N := 8) (ref := "LayoutDeskModel") hx hb hts in_X7_open_7 hown hw hm rfl 0 (by decide) (hts (.fieldLink RX7 10 "LayoutDeskModel" "types" "Ljava/util/ArrayList;") (by decide +kernel)) (fun _ h9 => h9) rfl dX7_open_9 ?_
    refine lv_iload_n hx hb dX7_open_12 rfl (lv_at hl 1 rfl) ?_
    refine w_call (va_runV (As := [.int t]) (rest := []) ⟨hx, hb, hml, hown, hts⟩ (c_getL l g h tl ta ty hL t a ht H.size) (cwV 1 hts gX7_open_Jx4a65c_get_915e3 rfl rfl rfl (by decide +kernel) ⟨Nat.le_of_ble_eq_true rfl, Nat.le_of_ble_eq_true rfl⟩) ⟨pr_blind, w_recv hw hk0 rfl, pr_of hw⟩ rfl rfl hl.1 rfl (lv_room (Nat.le_of_ble_eq_true rfl)) dX7_open_13 ⟨Nat.le_of_ble_eq_true rfl, Nat.le_of_ble_eq_true rfl⟩) hw (fun v h' H locs hp hw => ?_)
    obtain ⟨rfl, rfl⟩ := hp
    refine W.eq (g2 := F0 m 16 ls [.ref a]) rfl ?_
    refine va_castY (C := RX6) hx hb hown (hts (.classLink RX7 29 "LayoutDeskModel$Type") (by decide +kernel)) (w_nwN hw (by decide +kernel)) (w_recv hw ha rfl) dX7_open_16 ?_
    refine lv_goto (tgt := 23) hx hb dX7_open_19 (by decide) ?_
    refine lv_astore_n (lv' := [(2, .ref a), (0, .ref mo), (1, .int t)]) hx hb dX7_open_23 rfl hl (by decide) rfl (fun ls hl => ?_)
    refine lv_aload_n hx hb dX7_open_24 rfl (lv_at hl 0 rfl) ?_
    refine lv_ifnull hx hb dX7_open_25 ?_
    refine lv_aload_n hx hb dX7_open_28 rfl (lv_at hl 0 rfl) ?_
    refine w_call (va_runV (As := []) (rest := []) ⟨hx, hb, hml, hown, hts⟩ (c_isRec l g h a ad K to_ le si al fi hK ha H.size) (cwV 0 hts gX7_open_X6_record rfl rfl rfl (by decide +kernel) ⟨Nat.le_of_ble_eq_true rfl, Nat.le_of_ble_eq_true rfl⟩) ⟨pr_blind, w_recv hw ha rfl, pr_of hw⟩ rfl rfl hl.1 rfl (lv_room (Nat.le_of_ble_eq_true rfl)) dX7_open_29 ⟨Nat.le_of_ble_eq_true rfl, Nat.le_of_ble_eq_true rfl⟩) hw (fun v h' H locs hp hw => ?_)
    obtain ⟨rfl, rfl⟩ := hp
    refine W.eq (g2 := F0 m 32 ls [.int (if 3 ≤ K then 1 else 0)]) rfl ?_
    refine lv_if_eq (tgt := 46) hx hb dX7_open_32 (by decide) (fun c32 => ?_) (fun c32 => ?_)
    · exact absurd hop.1 (fun z => by rw [if_pos z] at c32; exact absurd c32 (by decide))
    · refine lv_aload_n hx hb dX7_open_35 rfl (lv_at hl 0 rfl) ?_
      refine w_get (ci := 6) (C := RX6) (T := TX6) (N := 7) (ref := "LayoutDeskModel$Type") hx hb hts in_X7_open_6 hown hw ha rfl 6 (by decide) (hts (.fieldLink RX7 54 "LayoutDeskModel$Type" "finished" "Z") (by decide +kernel)) (fun _ h9 => h9) rfl dX7_open_36 ?_
      refine lv_if_ne (tgt := 46) hx hb dX7_open_39 (by decide) (fun c39 => ?_) (fun c39 => ?_)
      · exact absurd hop.2 c39
      · refine lv_aload_n hx hb dX7_open_42 rfl (lv_at hl 0 rfl) ?_
        refine lv_goto (tgt := 47) hx hb dX7_open_43 (by decide) ?_
        exact r_ref hx hb hr (Or.inl ⟨_, rfl⟩) (Or.inr ⟨_, rfl⟩) hlocks hw dX7_open_47 (Nat.le_of_ble_eq_true rfl) (Nat.le_of_ble_eq_true rfl) (⟨rfl, rfl⟩)
theorem in_X7_made_7 : ∀ w ∈ u_ws RX7 TX7 8, w ∈ wsX7_made := by decide +kernel
set_option maxHeartbeats 4000000 in
set_option maxRecDepth 100000 in
theorem c_made (l : Launch) (g : GG) (h : Nat → Option va_E) (mo tl ta p0 p1 p2 p3 : Nat) (mem rea ali : Int32) (ty : List Nat) (hm : h mo = some (oMo tl p0 p1 p2 p3 mem rea ali)) (hL : AL g h tl ta ty) (y : Nat) (hy0 : isE h y) (hn : ty.length ≤ 530) : Con l yX7_made wsX7_made 7 171 1 800 [.ref mo, .ref y] g h (fun v h' => ∃ ta' : Nat, v = some (.int (nI ty.length)) ∧ (ta' = ta ∨ h ta' = none) ∧ AL g h' tl ta' (ty ++ [y]) ∧ ∀ q, q ≠ tl → q ≠ ta' → h' q = h q) := by
  obtain ⟨⟨mc, hk0⟩, -, -⟩ := id hL
  refine m_start (cc := cX7_made) (maxL := 2) (ret := (some .int)) (by decide) rfl (Nat.le_of_ble_eq_true rfl) ?_
  intro p e s m below meth c A ls hx hb hr hml hts hown hlocks hin hw hl
  have hl : lv_has ls 2 [(0, .ref mo), (1, .ref y)] := hl
  have hown : s.vm.findClass RX7 = some m.cls := hown
  refine lv_aload_n hx hb dX7_made_0 rfl (lv_at hl 0 rfl) ?_
  refine w_get (ci := 7) (C := RX7) (T := TX7) (N := 8) (ref := "LayoutDeskModel") hx hb hts in_X7_made_7 hown hw hm rfl 0 (by decide) (hts (.fieldLink RX7 10 "LayoutDeskModel" "types" "Ljava/util/ArrayList;") (by decide +kernel)) (fun _ h9 => h9) rfl dX7_made_1 ?_
  refine lv_aload_n hx hb dX7_made_4 rfl (lv_at hl 1 rfl) ?_
  refine w_call (va_runV (As := [.ref y]) (rest := []) ⟨hx, hb, hml, hown, hts⟩ (c_AL_add l g h tl ta y ty hL hy0 hn s.heap.size) (cwV 1 hts gX7_made_Jx4a65c_add_9ea2d rfl rfl rfl (by decide +kernel) ⟨Nat.le_of_ble_eq_true rfl, Nat.le_of_ble_eq_true rfl⟩) ⟨pr_blind, w_recv hw hk0 rfl, pr_of hw⟩ rfl rfl hl.1 rfl (lv_room (Nat.le_of_ble_eq_true rfl)) dX7_made_5 ⟨Nat.le_of_ble_eq_true rfl, Nat.le_of_ble_eq_true rfl⟩) hw (fun v h' H locs hp hw => ?_)
  obtain ⟨ta', rfl, q1, q2, q3⟩ := hp
  refine W.eq (g2 := F0 m 8 ls [.int 1]) rfl ?_
  have hM' : h' mo = some (oMo tl p0 p1 p2 p3 mem rea ali) := (add_keep hL q1 q3 hm (by decide)).trans hm
  obtain ⟨mc2, hk2⟩ := q2.1
  refine lv_pop hx hb dX7_made_8 rfl ?_
  refine lv_aload_n hx hb dX7_made_9 rfl (lv_at hl 0 rfl) ?_
  refine w_get (ci := 7) (C := RX7) (T := TX7) (N := 8) (ref := "LayoutDeskModel") hx hb hts in_X7_made_7 hown hw hM' rfl 0 (by decide) (hts (.fieldLink RX7 10 "LayoutDeskModel" "types" "Ljava/util/ArrayList;") (by decide +kernel)) (fun _ h9 => h9) rfl dX7_made_10 ?_
  refine w_call (va_runV (As := []) (rest := []) ⟨hx, hb, hml, hown, hts⟩ (c_sizeL l g h' tl ta' (ty ++ [y]) q2 H.size) (cwV 0 hts gX7_made_Jx4a65c_size_8abf5 rfl rfl rfl (by decide +kernel) ⟨Nat.le_of_ble_eq_true rfl, Nat.le_of_ble_eq_true rfl⟩) ⟨pr_blind, w_recv hw hk2 rfl, pr_of hw⟩ rfl rfl hl.1 rfl (lv_room (Nat.le_of_ble_eq_true rfl)) dX7_made_13 ⟨Nat.le_of_ble_eq_true rfl, Nat.le_of_ble_eq_true rfl⟩) hw (fun v k' H locs hp hw => ?_)
  obtain ⟨rfl, rfl⟩ := hp
  refine W.eq (g2 := F0 m 16 ls [.int (nI (ty ++ [y]).length)]) rfl ?_
  refine lv_iconst (v := 1) hx hb dX7_made_16 (by decide) ?_
  refine lv_isub hx hb dX7_made_17 ?_
  exact r_int hx hb hr hlocks hw dX7_made_18 (Nat.le_of_ble_eq_true rfl) (Nat.le_of_ble_eq_true rfl) (⟨ta', by rw [List.length_append, List.length_singleton, nI_pred], q1, q2, q3⟩)
set_option maxHeartbeats 4000000 in
set_option maxRecDepth 100000 in
theorem c_up (l : Launch) (g : GG) (h : Nat → Option va_E) (p_ s_ : Nat) (hp : p_ ≤ 2000000) (hs : s_ ≤ 4) : Con l yX7_up wsX7_up 0 0 0 0 [.int (nI p_), .int (nI s_)] g h (fun v h' => v = some (.int (nI (rup p_ s_))) ∧ h = h') := by
  refine m_start (cc := cX7_up) (maxL := 2) (ret := (some .int)) (by decide) rfl (Nat.le_of_ble_eq_true rfl) ?_
  intro p e s m below meth c A ls hx hb hr hml hts hown hlocks hin hw hl
  have hl : lv_has ls 2 [(0, .int (nI p_)), (1, .int (nI s_))] := hl
  have hown : s.vm.findClass RX7 = some m.cls := hown
  refine lv_iload_n hx hb dX7_up_0 rfl (lv_at hl 1 rfl) ?_
  refine lv_if_ne (tgt := 8) hx hb dX7_up_1 (by decide) (fun c1 => ?_) (fun c1 => ?_)
  · have z0 : 0 < s_ := Nat.pos_of_ne_zero (fun z => c1 (by rw [z]; exact nI_0))
    refine lv_iload_n hx hb dX7_up_8 rfl (lv_at hl 0 rfl) ?_
    refine lv_iload_n hx hb dX7_up_9 rfl (lv_at hl 1 rfl) ?_
    refine lv_iadd hx hb dX7_up_10 ?_
    refine lv_iconst (v := 1) hx hb dX7_up_11 (by decide) ?_
    refine lv_isub hx hb dX7_up_12 ?_
    refine lv_iload_n hx hb dX7_up_13 rfl (lv_at hl 1 rfl) ?_
    refine lv_idiv hx hb dX7_up_14 (nI_ne0 z0 (by omega)) ?_
    refine lv_iload_n hx hb dX7_up_15 rfl (lv_at hl 1 rfl) ?_
    refine lv_imul hx hb dX7_up_16 ?_
    exact r_int hx hb hr hlocks hw dX7_up_17 (Nat.le_of_ble_eq_true rfl) (Nat.le_of_ble_eq_true rfl) (⟨by unfold rup; rw [if_neg (by omega), nI_add, show (1 : Int32) = nI 1 from rfl, pk_sub (by omega), pk_div (by omega) z0 (by omega), pk_mul], rfl⟩)
  · have z0 : s_ = 0 := (nI_eq (b := 0) (by omega) (by decide)).mp (c1.trans nI_0.symm)
    refine lv_iload_n hx hb dX7_up_4 rfl (lv_at hl 0 rfl) ?_
    refine lv_goto (tgt := 17) hx hb dX7_up_5 (by decide) ?_
    exact r_int hx hb hr hlocks hw dX7_up_17 (Nat.le_of_ble_eq_true rfl) (Nat.le_of_ble_eq_true rfl) (⟨by rw [z0]; rfl, rfl⟩)
set_option maxHeartbeats 4000000 in
set_option maxRecDepth 100000 in
theorem c_msize_N (l : Launch) (g : GG) (h : Nat → Option va_E) (mo tl ta p0 p1 p2 p3 : Nat) (mem rea ali : Int32) (ty : List Nat) (hm : h mo = some (oMo tl p0 p1 p2 p3 mem rea ali)) (hL : AL g h tl ta ty) (t : Int32) (ht : lk ty t = none) : Con l yX7_size wsX7_size 3 70 0 0 [.ref mo, .int t] g h (fun v h' => v = some (.int (-1)) ∧ h = h') := by
  have hn9 := AL_len hL
  obtain ⟨⟨mc, hk0⟩, -, -⟩ := id hL
  refine m_start (cc := cX7_size) (maxL := 2) (ret := (some .int)) (by decide) rfl (Nat.le_of_ble_eq_true rfl) ?_
  intro p e s m below meth c A ls hx hb hr hml hts hown hlocks hin hw hl
  have hl : lv_has ls 2 [(0, .ref mo), (1, .int t)] := hl
  have hown : s.vm.findClass RX7 = some m.cls := hown
  refine lv_aload_n hx hb dX7_size_0 rfl (lv_at hl 0 rfl) ?_
  refine lv_iload_n hx hb dX7_size_1 rfl (lv_at hl 1 rfl) ?_
  refine w_call (va_runV (As := [.int t]) (rest := []) ⟨hx, hb, hml, hown, hts⟩ (c_there_N l g h mo tl ta p0 p1 p2 p3 mem rea ali ty hm hL t ht s.heap.size) (cwV 1 hts gX7_size_X7_there rfl rfl rfl (by decide +kernel) ⟨Nat.le_of_ble_eq_true rfl, Nat.le_of_ble_eq_true rfl⟩) ⟨pr_blind, w_recv hw hm rfl, pr_of hw⟩ rfl rfl hl.1 rfl (lv_room (Nat.le_of_ble_eq_true rfl)) dX7_size_2 ⟨Nat.le_of_ble_eq_true rfl, Nat.le_of_ble_eq_true rfl⟩) hw (fun v h' H locs hp hw => ?_)
  obtain ⟨rfl, rfl⟩ := hp
  refine W.eq (g2 := F0 m 5 ls [.int 0]) rfl ?_
  refine lv_if_eq (tgt := 25) hx hb dX7_size_5 (by decide) (fun c5 => ?_) (fun c5 => ?_)
  · refine lv_iconst (v := (-1)) hx hb dX7_size_25 (by decide) ?_
    exact r_int hx hb hr hlocks hw dX7_size_26 (Nat.le_of_ble_eq_true rfl) (Nat.le_of_ble_eq_true rfl) (⟨rfl, rfl⟩)
  · exact absurd rfl c5
theorem in_X7_size_6 : ∀ w ∈ u_ws RX6 TX6 7, w ∈ wsX7_size := by decide +kernel
theorem in_X7_size_7 : ∀ w ∈ u_ws RX7 TX7 8, w ∈ wsX7_size := by decide +kernel
set_option maxHeartbeats 4000000 in
set_option maxRecDepth 100000 in
theorem c_msize_S (l : Launch) (g : GG) (h : Nat → Option va_E) (mo tl ta p0 p1 p2 p3 : Nat) (mem rea ali : Int32) (ty : List Nat) (hm : h mo = some (oMo tl p0 p1 p2 p3 mem rea ali)) (hL : AL g h tl ta ty) (t : Int32) (a ad K : Nat) (to_ le si al fi : Int32) (hK : K ≤ 4) (ht : lk ty t = some a) (ha : h a = some (oTy (nI K) to_ le si al ad fi)) : Con l yX7_size wsX7_size 3 70 0 0 [.ref mo, .int t] g h (fun v h' => v = some (.int si) ∧ h = h') := by
  have hn9 := AL_len hL
  obtain ⟨⟨mc, hk0⟩, -, -⟩ := id hL
  refine m_start (cc := cX7_size) (maxL := 2) (ret := (some .int)) (by decide) rfl (Nat.le_of_ble_eq_true rfl) ?_
  intro p e s m below meth c A ls hx hb hr hml hts hown hlocks hin hw hl
  have hl : lv_has ls 2 [(0, .ref mo), (1, .int t)] := hl
  have hown : s.vm.findClass RX7 = some m.cls := hown
  refine lv_aload_n hx hb dX7_size_0 rfl (lv_at hl 0 rfl) ?_
  refine lv_iload_n hx hb dX7_size_1 rfl (lv_at hl 1 rfl) ?_
  refine w_call (va_runV (As := [.int t]) (rest := []) ⟨hx, hb, hml, hown, hts⟩ (c_there_S l g h mo tl ta p0 p1 p2 p3 mem rea ali ty hm hL t a ht s.heap.size) (cwV 1 hts gX7_size_X7_there rfl rfl rfl (by decide +kernel) ⟨Nat.le_of_ble_eq_true rfl, Nat.le_of_ble_eq_true rfl⟩) ⟨pr_blind, w_recv hw hm rfl, pr_of hw⟩ rfl rfl hl.1 rfl (lv_room (Nat.le_of_ble_eq_true rfl)) dX7_size_2 ⟨Nat.le_of_ble_eq_true rfl, Nat.le_of_ble_eq_true rfl⟩) hw (fun v h' H locs hp hw => ?_)
  obtain ⟨rfl, rfl⟩ := hp
  refine W.eq (g2 := F0 m 5 ls [.int 1]) rfl ?_
  refine lv_if_eq (tgt := 25) hx hb dX7_size_5 (by decide) (fun c5 => ?_) (fun c5 => ?_)
  · exact absurd c5 (by decide)
  · refine lv_aload_n hx hb dX7_size_8 rfl (lv_at hl 0 rfl) ?_
    refine w_get (ci := 7) (C := RX7) (T := TX7) (N := 8) (ref := "LayoutDeskModel") hx hb hts in_X7_size_7 hown hw hm rfl 0 (by decide) (hts (.fieldLink RX7 10 "LayoutDeskModel" "types" "Ljava/util/ArrayList;") (by decide +kernel)) (fun _ h9 => h9) rfl dX7_size_9 ?_
    refine lv_iload_n hx hb dX7_size_12 rfl (lv_at hl 1 rfl) ?_
    refine w_call (va_runV (As := [.int t]) (rest := []) ⟨hx, hb, hml, hown, hts⟩ (c_getL l g h tl ta ty hL t a ht H.size) (cwV 1 hts gX7_size_Jx4a65c_get_915e3 rfl rfl rfl (by decide +kernel) ⟨Nat.le_of_ble_eq_true rfl, Nat.le_of_ble_eq_true rfl⟩) ⟨pr_blind, w_recv hw hk0 rfl, pr_of hw⟩ rfl rfl hl.1 rfl (lv_room (Nat.le_of_ble_eq_true rfl)) dX7_size_13 ⟨Nat.le_of_ble_eq_true rfl, Nat.le_of_ble_eq_true rfl⟩) hw (fun v h' H locs hp hw => ?_)
    obtain ⟨rfl, rfl⟩ := hp
    refine W.eq (g2 := F0 m 16 ls [.ref a]) rfl ?_
    refine va_castY (C := RX6) hx hb hown (hts (.classLink RX7 29 "LayoutDeskModel$Type") (by decide +kernel)) (w_nwN hw (by decide +kernel)) (w_recv hw ha rfl) dX7_size_16 ?_
    refine w_get (ci := 6) (C := RX6) (T := TX6) (N := 7) (ref := "LayoutDeskModel$Type") hx hb hts in_X7_size_6 hown hw ha rfl 3 (by decide) (hts (.fieldLink RX7 113 "LayoutDeskModel$Type" "size" "I") (by decide +kernel)) (fun _ h9 => h9) rfl dX7_size_19 ?_
    refine lv_goto (tgt := 26) hx hb dX7_size_22 (by decide) ?_
    exact r_int hx hb hr hlocks hw dX7_size_26 (Nat.le_of_ble_eq_true rfl) (Nat.le_of_ble_eq_true rfl) (⟨rfl, rfl⟩)
theorem in_X7_sized_6 : ∀ w ∈ u_ws RX6 TX6 7, w ∈ wsX7_sized := by decide +kernel
theorem in_X7_sized_7 : ∀ w ∈ u_ws RX7 TX7 8, w ∈ wsX7_sized := by decide +kernel
set_option maxHeartbeats 4000000 in
set_option maxRecDepth 100000 in
theorem c_sized (l : Launch) (g : GG) (h : Nat → Option va_E) (mo tl ta p0 p1 p2 p3 : Nat) (mem rea ali : Int32) (ty : List Nat) (hm : h mo = some (oMo tl p0 p1 p2 p3 mem rea ali)) (hL : AL g h tl ta ty) (t : Int32) (a ad K : Nat) (to_ le si al fi : Int32) (hK : K ≤ 4) (ht : lk ty t = some a) (ha : h a = some (oTy (nI K) to_ le si al ad fi)) (hfi : fi = 0 ∨ fi = 1) : Con l yX7_sized wsX7_sized 3 70 0 0 [.ref mo, .int t] g h (fun v h' => v = some (.int (if 0 < t ∧ (K < 3 ∨ fi = 1) then 1 else 0)) ∧ h = h') := by
  have hn9 := AL_len hL
  obtain ⟨⟨mc, hk0⟩, -, -⟩ := id hL
  refine m_start (cc := cX7_sized) (maxL := 2) (ret := (some .boolean)) (by decide) rfl (Nat.le_of_ble_eq_true rfl) ?_
  intro p e s m below meth c A ls hx hb hr hml hts hown hlocks hin hw hl
  have hl : lv_has ls 2 [(0, .ref mo), (1, .int t)] := hl
  have hown : s.vm.findClass RX7 = some m.cls := hown
  refine lv_iload_n hx hb dX7_sized_0 rfl (lv_at hl 1 rfl) ?_
  refine lv_if_le (tgt := 42) hx hb dX7_sized_1 (by decide) (fun c1 => ?_) (fun c1 => ?_)
  · refine lv_iconst (v := 0) hx hb dX7_sized_42 (by decide) ?_
    exact r_bool hx hb hr hlocks hw rfl dX7_sized_43 (Nat.le_of_ble_eq_true rfl) (Nat.le_of_ble_eq_true rfl) (⟨by rw [if_neg (fun z => (Int32.not_lt.mpr c1) z.1)], rfl⟩)
  · refine lv_aload_n hx hb dX7_sized_4 rfl (lv_at hl 0 rfl) ?_
    refine w_get (ci := 7) (C := RX7) (T := TX7) (N := 8) (ref := "LayoutDeskModel") hx hb hts in_X7_sized_7 hown hw hm rfl 0 (by decide) (hts (.fieldLink RX7 10 "LayoutDeskModel" "types" "Ljava/util/ArrayList;") (by decide +kernel)) (fun _ h9 => h9) rfl dX7_sized_5 ?_
    refine lv_iload_n hx hb dX7_sized_8 rfl (lv_at hl 1 rfl) ?_
    refine w_call (va_runV (As := [.int t]) (rest := []) ⟨hx, hb, hml, hown, hts⟩ (c_getL l g h tl ta ty hL t a ht s.heap.size) (cwV 1 hts gX7_sized_Jx4a65c_get_915e3 rfl rfl rfl (by decide +kernel) ⟨Nat.le_of_ble_eq_true rfl, Nat.le_of_ble_eq_true rfl⟩) ⟨pr_blind, w_recv hw hk0 rfl, pr_of hw⟩ rfl rfl hl.1 rfl (lv_room (Nat.le_of_ble_eq_true rfl)) dX7_sized_9 ⟨Nat.le_of_ble_eq_true rfl, Nat.le_of_ble_eq_true rfl⟩) hw (fun v h' H locs hp hw => ?_)
    obtain ⟨rfl, rfl⟩ := hp
    refine W.eq (g2 := F0 m 12 ls [.ref a]) rfl ?_
    refine va_castY (C := RX6) hx hb hown (hts (.classLink RX7 29 "LayoutDeskModel$Type") (by decide +kernel)) (w_nwN hw (by decide +kernel)) (w_recv hw ha rfl) dX7_sized_12 ?_
    refine w_call (va_runV (As := []) (rest := []) ⟨hx, hb, hml, hown, hts⟩ (c_isRec l g h a ad K to_ le si al fi hK ha H.size) (cwV 0 hts gX7_sized_X6_record rfl rfl rfl (by decide +kernel) ⟨Nat.le_of_ble_eq_true rfl, Nat.le_of_ble_eq_true rfl⟩) ⟨pr_blind, w_recv hw ha rfl, pr_of hw⟩ rfl rfl hl.1 rfl (lv_room (Nat.le_of_ble_eq_true rfl)) dX7_sized_15 ⟨Nat.le_of_ble_eq_true rfl, Nat.le_of_ble_eq_true rfl⟩) hw (fun v h' H locs hp hw => ?_)
    obtain ⟨rfl, rfl⟩ := hp
    refine W.eq (g2 := F0 m 18 ls [.int (if 3 ≤ K then 1 else 0)]) rfl ?_
    refine lv_if_eq (tgt := 38) hx hb dX7_sized_18 (by decide) (fun c18 => ?_) (fun c18 => ?_)
    · have hk0_ : ¬ 3 ≤ K := fun z => by rw [if_pos z] at c18; exact absurd c18 (by decide)
      refine lv_iconst (v := 1) hx hb dX7_sized_38 (by decide) ?_
      refine lv_goto (tgt := 43) hx hb dX7_sized_39 (by decide) ?_
      exact r_bool hx hb hr hlocks hw rfl dX7_sized_43 (Nat.le_of_ble_eq_true rfl) (Nat.le_of_ble_eq_true rfl) (⟨by rw [if_pos ⟨Int32.not_le.mp c1, Or.inl (by omega)⟩], rfl⟩)
    · have hk1_ : 3 ≤ K := Classical.byContradiction (fun z => by rw [if_neg z] at c18; exact absurd rfl c18)
      refine lv_aload_n hx hb dX7_sized_21 rfl (lv_at hl 0 rfl) ?_
      refine w_get (ci := 7) (C := RX7) (T := TX7) (N := 8) (ref := "LayoutDeskModel") hx hb hts in_X7_sized_7 hown hw hm rfl 0 (by decide) (hts (.fieldLink RX7 10 "LayoutDeskModel" "types" "Ljava/util/ArrayList;") (by decide +kernel)) (fun _ h9 => h9) rfl dX7_sized_22 ?_
      refine lv_iload_n hx hb dX7_sized_25 rfl (lv_at hl 1 rfl) ?_
      refine w_call (va_runV (As := [.int t]) (rest := []) ⟨hx, hb, hml, hown, hts⟩ (c_getL l g h tl ta ty hL t a ht H.size) (cwV 1 hts gX7_sized_Jx4a65c_get_915e3 rfl rfl rfl (by decide +kernel) ⟨Nat.le_of_ble_eq_true rfl, Nat.le_of_ble_eq_true rfl⟩) ⟨pr_blind, w_recv hw hk0 rfl, pr_of hw⟩ rfl rfl hl.1 rfl (lv_room (Nat.le_of_ble_eq_true rfl)) dX7_sized_26 ⟨Nat.le_of_ble_eq_true rfl, Nat.le_of_ble_eq_true rfl⟩) hw (fun v h' H locs hp hw => ?_)
      obtain ⟨rfl, rfl⟩ := hp
      refine W.eq (g2 := F0 m 29 ls [.ref a]) rfl ?_
      refine va_castY (C := RX6) hx hb hown (hts (.classLink RX7 29 "LayoutDeskModel$Type") (by decide +kernel)) (w_nwN hw (by decide +kernel)) (w_recv hw ha rfl) dX7_sized_29 ?_
      refine w_get (ci := 6) (C := RX6) (T := TX6) (N := 7) (ref := "LayoutDeskModel$Type") hx hb hts in_X7_sized_6 hown hw ha rfl 6 (by decide) (hts (.fieldLink RX7 54 "LayoutDeskModel$Type" "finished" "Z") (by decide +kernel)) (fun _ h9 => h9) rfl dX7_sized_32 ?_
      refine lv_if_eq (tgt := 42) hx hb dX7_sized_35 (by decide) (fun c35 => ?_) (fun c35 => ?_)
      · refine lv_iconst (v := 0) hx hb dX7_sized_42 (by decide) ?_
        exact r_bool hx hb hr hlocks hw rfl dX7_sized_43 (Nat.le_of_ble_eq_true rfl) (Nat.le_of_ble_eq_true rfl) (⟨by rw [if_neg (fun z => z.2.elim (fun z => absurd z (by omega)) (fun z => absurd (c35.symm.trans z) (by decide)))], rfl⟩)
      · refine lv_iconst (v := 1) hx hb dX7_sized_38 (by decide) ?_
        refine lv_goto (tgt := 43) hx hb dX7_sized_39 (by decide) ?_
        exact r_bool hx hb hr hlocks hw rfl dX7_sized_43 (Nat.le_of_ble_eq_true rfl) (Nat.le_of_ble_eq_true rfl) (⟨by rw [if_pos ⟨Int32.not_le.mp c1, Or.inr (hfi.resolve_left c35)⟩], rfl⟩)
theorem in_X7_put_7 : ∀ w ∈ u_ws RX7 TX7 8, w ∈ wsX7_put := by decide +kernel
set_option maxHeartbeats 4000000 in
set_option maxRecDepth 100000 in
theorem c_put (l : Launch) (g : GG) (h : Nat → Option va_E) (mo tl p0 p1 p2 p3 n : Nat) (rea ali at_ t lo wi : Int32) (f0 f1 f2 f3 : Nat → Int32) (hm : h mo = some (oMo tl p0 p1 p2 p3 (nI n) rea ali)) (hp0 : h p0 = some (arI g 100 f0)) (hp1 : h p1 = some (arI g 100 f1)) (hp2 : h p2 = some (arI g 100 f2)) (hp3 : h p3 = some (arI g 100 f3)) (d01 : p0 ≠ p1) (d02 : p0 ≠ p2) (d03 : p0 ≠ p3) (d12 : p1 ≠ p2) (d13 : p1 ≠ p3) (d23 : p2 ≠ p3) (hn : n < 100) : Con l yX7_put wsX7_put 0 0 0 0 [.ref mo, .int at_, .int t, .int lo, .int wi] g h (fun v h' => v = none ∧ h' mo = some (oMo tl p0 p1 p2 p3 (nI (n + 1)) rea ali) ∧ h' p0 = some (arI g 100 (upd f0 n at_)) ∧ h' p1 = some (arI g 100 (upd f1 n t)) ∧ h' p2 = some (arI g 100 (upd f2 n lo)) ∧ h' p3 = some (arI g 100 (upd f3 n wi)) ∧ ∀ q, q ≠ mo → q ≠ p0 → q ≠ p1 → q ≠ p2 → q ≠ p3 → h' q = h q) := by
  refine m_start (cc := cX7_put) (maxL := 5) (ret := none) (by decide) rfl (Nat.le_of_ble_eq_true rfl) ?_
  intro p e s m below meth c A ls hx hb hr hml hts hown hlocks hin hw hl
  have hl : lv_has ls 5 [(0, .ref mo), (1, .int at_), (2, .int t), (3, .int lo), (4, .int wi)] := hl
  have hown : s.vm.findClass RX7 = some m.cls := hown
  refine lv_aload_n hx hb dX7_put_0 rfl (lv_at hl 0 rfl) ?_
  refine w_get (ci := 7) (C := RX7) (T := TX7) (N := 8) (ref := "LayoutDeskModel") hx hb hts in_X7_put_7 hown hw hm rfl 1 (by decide) (hts (.fieldLink RX7 16 "LayoutDeskModel" "places" "[I") (by decide +kernel)) (fun _ h9 => h9) rfl dX7_put_1 ?_
  refine lv_aload_n hx hb dX7_put_4 rfl (lv_at hl 0 rfl) ?_
  refine w_get (ci := 7) (C := RX7) (T := TX7) (N := 8) (ref := "LayoutDeskModel") hx hb hts in_X7_put_7 hown hw hm rfl 5 (by decide) (hts (.fieldLink RX7 88 "LayoutDeskModel" "members" "I") (by decide +kernel)) (fun _ h9 => h9) rfl dX7_put_5 ?_
  refine lv_iload_n hx hb dX7_put_8 rfl (lv_at hl 1 rfl) ?_
  refine w_iast hx hb hw hp0 (vp_in_nI hn (by omega)) dX7_put_9 (fun H locs hw => ?_)
  refine lv_aload_n hx hb dX7_put_10 rfl (lv_at hl 0 rfl) ?_
  refine w_get (ci := 7) (C := RX7) (T := TX7) (N := 8) (ref := "LayoutDeskModel") hx hb hts in_X7_put_7 hown hw ((wu_n (ne_e hm hp0 ne_rl)).trans hm) rfl 2 (by decide) (hts (.fieldLink RX7 20 "LayoutDeskModel" "kinds" "[I") (by decide +kernel)) (fun _ h9 => h9) rfl dX7_put_11 ?_
  refine lv_aload_n hx hb dX7_put_14 rfl (lv_at hl 0 rfl) ?_
  refine w_get (ci := 7) (C := RX7) (T := TX7) (N := 8) (ref := "LayoutDeskModel") hx hb hts in_X7_put_7 hown hw ((wu_n (ne_e hm hp0 ne_rl)).trans hm) rfl 5 (by decide) (hts (.fieldLink RX7 88 "LayoutDeskModel" "members" "I") (by decide +kernel)) (fun _ h9 => h9) rfl dX7_put_15 ?_
  refine lv_iload_n hx hb dX7_put_18 rfl (lv_at hl 2 rfl) ?_
  refine w_iast hx hb hw ((wu_n (d01).symm).trans hp1) (vp_in_nI hn (by omega)) dX7_put_19 (fun H locs hw => ?_)
  refine lv_aload_n hx hb dX7_put_20 rfl (lv_at hl 0 rfl) ?_
  refine w_get (ci := 7) (C := RX7) (T := TX7) (N := 8) (ref := "LayoutDeskModel") hx hb hts in_X7_put_7 hown hw ((wu_n (ne_e hm hp1 ne_rl)).trans ((wu_n (ne_e hm hp0 ne_rl)).trans hm)) rfl 3 (by decide) (hts (.fieldLink RX7 23 "LayoutDeskModel" "lows" "[I") (by decide +kernel)) (fun _ h9 => h9) rfl dX7_put_21 ?_
  refine lv_aload_n hx hb dX7_put_24 rfl (lv_at hl 0 rfl) ?_
  refine w_get (ci := 7) (C := RX7) (T := TX7) (N := 8) (ref := "LayoutDeskModel") hx hb hts in_X7_put_7 hown hw ((wu_n (ne_e hm hp1 ne_rl)).trans ((wu_n (ne_e hm hp0 ne_rl)).trans hm)) rfl 5 (by decide) (hts (.fieldLink RX7 88 "LayoutDeskModel" "members" "I") (by decide +kernel)) (fun _ h9 => h9) rfl dX7_put_25 ?_
  refine lv_iload_n hx hb dX7_put_28 rfl (lv_at hl 3 rfl) ?_
  refine w_iast hx hb hw ((wu_n (d12).symm).trans ((wu_n (d02).symm).trans hp2)) (vp_in_nI hn (by omega)) dX7_put_29 (fun H locs hw => ?_)
  refine lv_aload_n hx hb dX7_put_30 rfl (lv_at hl 0 rfl) ?_
  refine w_get (ci := 7) (C := RX7) (T := TX7) (N := 8) (ref := "LayoutDeskModel") hx hb hts in_X7_put_7 hown hw ((wu_n (ne_e hm hp2 ne_rl)).trans ((wu_n (ne_e hm hp1 ne_rl)).trans ((wu_n (ne_e hm hp0 ne_rl)).trans hm))) rfl 4 (by decide) (hts (.fieldLink RX7 26 "LayoutDeskModel" "widths" "[I") (by decide +kernel)) (fun _ h9 => h9) rfl dX7_put_31 ?_
  refine lv_aload_n hx hb dX7_put_34 rfl (lv_at hl 0 rfl) ?_
  refine w_get (ci := 7) (C := RX7) (T := TX7) (N := 8) (ref := "LayoutDeskModel") hx hb hts in_X7_put_7 hown hw ((wu_n (ne_e hm hp2 ne_rl)).trans ((wu_n (ne_e hm hp1 ne_rl)).trans ((wu_n (ne_e hm hp0 ne_rl)).trans hm))) rfl 5 (by decide) (hts (.fieldLink RX7 88 "LayoutDeskModel" "members" "I") (by decide +kernel)) (fun _ h9 => h9) rfl dX7_put_35 ?_
  refine lv_iload hx hb dX7_put_38 (lv_at hl 4 rfl) ?_
  refine w_iast hx hb hw ((wu_n (d23).symm).trans ((wu_n (d13).symm).trans ((wu_n (d03).symm).trans hp3))) (vp_in_nI hn (by omega)) dX7_put_40 (fun H locs hw => ?_)
  refine lv_aload_n hx hb dX7_put_41 rfl (lv_at hl 0 rfl) ?_
  refine lv_aload_n hx hb dX7_put_42 rfl (lv_at hl 0 rfl) ?_
  refine w_get (ci := 7) (C := RX7) (T := TX7) (N := 8) (ref := "LayoutDeskModel") hx hb hts in_X7_put_7 hown hw ((wu_n (ne_e hm hp3 ne_rl)).trans ((wu_n (ne_e hm hp2 ne_rl)).trans ((wu_n (ne_e hm hp1 ne_rl)).trans ((wu_n (ne_e hm hp0 ne_rl)).trans hm)))) rfl 5 (by decide) (hts (.fieldLink RX7 88 "LayoutDeskModel" "members" "I") (by decide +kernel)) (fun _ h9 => h9) rfl dX7_put_43 ?_
  refine lv_iconst (v := 1) hx hb dX7_put_46 (by decide) ?_
  refine lv_iadd hx hb dX7_put_47 ?_
  refine w_put (ci := 7) (C := RX7) (T := TX7) (N := 8) (ref := "LayoutDeskModel") (ty := .int) (fs' := [.ref tl, .ref p0, .ref p1, .ref p2, .ref p3, .int ((nI n) + 1), .int rea, .int ali]) hx hb hts in_X7_put_7 tyX7 tyX7_ok nmX7 hown hw ((wu_n (ne_e hm hp3 ne_rl)).trans ((wu_n (ne_e hm hp2 ne_rl)).trans ((wu_n (ne_e hm hp1 ne_rl)).trans ((wu_n (ne_e hm hp0 ne_rl)).trans hm)))) rfl 5 (by decide) (hts (.fieldLink RX7 88 "LayoutDeskModel" "members" "I") (by decide +kernel)) (fun _ h9 => h9) rfl (by decide +kernel) rfl rfl (Nat.le_of_ble_eq_true rfl) rfl dX7_put_48 (fun H locs hw => ?_)
  exact r_void hx hb hr hlocks hw dX7_put_51 (Nat.le_of_ble_eq_true rfl) (Nat.le_of_ble_eq_true rfl) (⟨rfl, by rw [wu_s, nI_1], ((wu_n ((ne_e hm hp0 ne_rl)).symm).trans ((wu_n d03).trans ((wu_n d02).trans ((wu_n d01).trans (wu_s _ _ _))))).trans (by rw [nI_clamp (by omega)]), ((wu_n ((ne_e hm hp1 ne_rl)).symm).trans ((wu_n d13).trans ((wu_n d12).trans (wu_s _ _ _)))).trans (by rw [nI_clamp (by omega)]), ((wu_n ((ne_e hm hp2 ne_rl)).symm).trans ((wu_n d23).trans (wu_s _ _ _))).trans (by rw [nI_clamp (by omega)]), ((wu_n ((ne_e hm hp3 ne_rl)).symm).trans (wu_s _ _ _)).trans (by rw [nI_clamp (by omega)]), fun q e0 e1 e2 e3 e4 => by rw [wu_n e0, wu_n e4, wu_n e3, wu_n e2, wu_n e1]⟩)
