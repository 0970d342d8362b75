/-! lists by their elements; the desk: leaves -/
set_option maxHeartbeats 4000000 in
set_option maxRecDepth 100000 in
theorem c_sizeL (l : Launch) (g : GG) (h : Nat → Option va_E) (a arr : Nat) (xs : List Nat) (hL : AL g h a arr xs) : Con l yJx4a65c_size_8abf5 wsJx4a65c_size_8abf5 0 0 0 0 [.ref a] g h (fun v h' => v = some (.int (nI xs.length)) ∧ h = h') := by
  have hn9 := AL_len hL
  obtain ⟨⟨mc, ha⟩, -, -⟩ := id hL
  refine m_start (cc := cJx4a65c_size_8abf5) (maxL := 1) (ret := (some .int)) (by decide) rfl (Nat.le_of_ble_eq_true rfl) ?_
  intro p e s m below meth c A ls hx hb hr hml hts hown hlocks hin hw hl
  have hl : lv_has ls 1 [(0, .ref a)] := hl
  have hown : s.vm.findClass RJx4a65c = some m.cls := hown
  refine lv_aload_n hx hb dJx4a65c_size_8abf5_0 rfl (lv_at hl 0 rfl) ?_
  refine w_get (ci := 0) (C := RJx4a65c) (T := TJx4a65c) (N := 3) (ref := "java/util/ArrayList") hx hb hts in_Jx4a65c_size_8abf5_0 hown hw ha rfl 2 (by decide) (hts (.fieldLink RJx4a65c 48 "java/util/ArrayList" "size" "I") (by decide +kernel)) (fun _ h9 => h9) rfl dJx4a65c_size_8abf5_1 ?_
  exact r_int hx hb hr hlocks hw dJx4a65c_size_8abf5_4 (Nat.le_of_ble_eq_true rfl) (Nat.le_of_ble_eq_true rfl) (⟨rfl, rfl⟩)
set_option maxHeartbeats 4000000 in
set_option maxRecDepth 100000 in
theorem c_isEmptyL (l : Launch) (g : GG) (h : Nat → Option va_E) (a arr : Nat) (xs : List Nat) (hL : AL g h a arr xs) : Con l yJx4a65c_isEmpty_aae02 wsJx4a65c_isEmpty_aae02 0 0 0 0 [.ref a] g h (fun v h' => v = some (.int (if xs = [] then 1 else 0)) ∧ h = h') := by
  have hn9 := AL_len hL
  obtain ⟨⟨mc, ha⟩, -, -⟩ := id hL
  refine m_start (cc := cJx4a65c_isEmpty_aae02) (maxL := 1) (ret := (some .boolean)) (by decide) rfl (Nat.le_of_ble_eq_true rfl) ?_
  intro p e s m below meth c A ls hx hb hr hml hts hown hlocks hin hw hl
  have hl : lv_has ls 1 [(0, .ref a)] := hl
  have hown : s.vm.findClass RJx4a65c = some m.cls := hown
  refine lv_aload_n hx hb dJx4a65c_isEmpty_aae02_0 rfl (lv_at hl 0 rfl) ?_
  refine w_get (ci := 0) (C := RJx4a65c) (T := TJx4a65c) (N := 3) (ref := "java/util/ArrayList") hx hb hts in_Jx4a65c_isEmpty_aae02_0 hown hw ha rfl 2 (by decide) (hts (.fieldLink RJx4a65c 48 "java/util/ArrayList" "size" "I") (by decide +kernel)) (fun _ h9 => h9) rfl dJx4a65c_isEmpty_aae02_1 ?_
  refine lv_if_ne (tgt := 11) hx hb dJx4a65c_isEmpty_aae02_4 (by decide) (fun c4 => ?_) (fun c4 => ?_)
  · refine lv_iconst (v := 0) hx hb dJx4a65c_isEmpty_aae02_11 (by decide) ?_
    exact r_bool hx hb hr hlocks hw rfl dJx4a65c_isEmpty_aae02_12 (Nat.le_of_ble_eq_true rfl) (Nat.le_of_ble_eq_true rfl) (⟨by rw [if_neg (fun z => c4 (by rw [z]; exact nI_0))], rfl⟩)
  · refine lv_iconst (v := 1) hx hb dJx4a65c_isEmpty_aae02_7 (by decide) ?_
    refine lv_goto (tgt := 12) hx hb dJx4a65c_isEmpty_aae02_8 (by decide) ?_
    exact r_bool hx hb hr hlocks hw rfl dJx4a65c_isEmpty_aae02_12 (Nat.le_of_ble_eq_true rfl) (Nat.le_of_ble_eq_true rfl) (⟨by rw [if_pos (List.eq_nil_of_length_eq_zero ((nI_eq (b := 0) (by omega) (by decide)).mp (c4.trans nI_0.symm)))], rfl⟩)
set_option maxHeartbeats 4000000 in
set_option maxRecDepth 100000 in
theorem c_getL (l : Launch) (g : GG) (h : Nat → Option va_E) (a arr : Nat) (xs : List Nat) (hL : AL g h a arr xs) (i : Int32) (y : Nat) (hy : lk xs i = some y) : Con l yJx4a65c_get_915e3 wsJx4a65c_get_915e3 2 43 0 0 [.ref a, .int i] g h (fun v h' => v = some (.ref y) ∧ h = h') := by
  have hn9 := AL_len hL
  obtain ⟨⟨mc, ha⟩, -, -⟩ := id hL
  obtain ⟨cap, f, hr0, hin0, hfy, h0, h1⟩ := AL_get hL hy
  refine m_start (cc := cJx4a65c_get_915e3) (maxL := 2) (ret := (some (.object "java/lang/Object"))) (by decide) rfl (Nat.le_of_ble_eq_true rfl) ?_
  intro p e s m below meth c A ls hx hb hr hml hts hown hlocks hin hw hl
  have hl : lv_has ls 2 [(0, .ref a), (1, .int i)] := hl
  have hown : s.vm.findClass RJx4a65c = some m.cls := hown
  refine lv_iload_n hx hb dJx4a65c_get_915e3_0 rfl (lv_at hl 1 rfl) ?_
  refine lv_aload_n hx hb dJx4a65c_get_915e3_1 rfl (lv_at hl 0 rfl) ?_
  refine w_get (ci := 0) (C := RJx4a65c) (T := TJx4a65c) (N := 3) (ref := "java/util/ArrayList") hx hb hts in_Jx4a65c_get_915e3_0 hown hw ha rfl 2 (by decide) (hts (.fieldLink RJx4a65c 48 "java/util/ArrayList" "size" "I") (by decide +kernel)) (fun _ h9 => h9) rfl dJx4a65c_get_915e3_2 ?_
  refine w_call (va_runS (As := [.int i, .int (nI xs.length)]) (rest := []) ⟨hx, hb, hml, hown, hts⟩ (c_obj_check l g h i (nI xs.length) h0 h1 s.heap.size) (va_cwS 2 hts gJx4a65c_get_915e3_J15_checkIndex_7cf53 rfl rfl rfl (by decide +kernel) ⟨Nat.le_of_ble_eq_true rfl, Nat.le_of_ble_eq_true rfl⟩) ⟨pr_blind, pr_of hw⟩ rfl rfl hl.1 rfl (lv_room (Nat.le_of_ble_eq_true rfl)) dJx4a65c_get_915e3_5 ⟨Nat.le_of_ble_eq_true rfl, Nat.le_of_ble_eq_true rfl⟩) hw (fun v h' H locs hp hw => ?_)
  obtain ⟨rfl, rfl⟩ := hp
  refine W.eq (g2 := F0 m 8 ls [.int i]) rfl ?_
  refine lv_pop hx hb dJx4a65c_get_915e3_8 rfl ?_
  refine lv_aload_n hx hb dJx4a65c_get_915e3_9 rfl (lv_at hl 0 rfl) ?_
  refine lv_iload_n hx hb dJx4a65c_get_915e3_10 rfl (lv_at hl 1 rfl) ?_
  refine w_call (va_runV (As := [.int i]) (rest := []) ⟨hx, hb, hml, hown, hts⟩ (c_AL_elementData l g h mc a arr (nI xs.length) ha cap f hr0 i hin0 H.size) (cwV 1 hts gJx4a65c_get_915e3_Jx4a65c_elementData_915e3 rfl rfl rfl (by decide +kernel) ⟨Nat.le_of_ble_eq_true rfl, Nat.le_of_ble_eq_true rfl⟩) ⟨pr_blind, w_recv hw ha rfl, pr_of hw⟩ rfl rfl hl.1 rfl (lv_room (Nat.le_of_ble_eq_true rfl)) dJx4a65c_get_915e3_11 ⟨Nat.le_of_ble_eq_true rfl, Nat.le_of_ble_eq_true rfl⟩) hw (fun v h' H locs hp hw => ?_)
  obtain ⟨rfl, rfl⟩ := hp
  refine W.eq (g2 := F0 m 14 ls [va_rf (f i.toNatClampNeg)]) rfl ?_
  exact r_ref hx hb hr (Or.inl ⟨_, rfl⟩) (va_rf_or _) hlocks hw dJx4a65c_get_915e3_14 (Nat.le_of_ble_eq_true rfl) (Nat.le_of_ble_eq_true rfl) (⟨by rw [hfy]; rfl, rfl⟩)
theorem in_X3_init_3 : ∀ w ∈ u_ws RX2 TX2 5, w ∈ wsX3_init := by decide +kernel
set_option maxHeartbeats 4000000 in
set_option maxRecDepth 100000 in
theorem c_Type_S (l : Launch) (g : GG) (h : Nat → Option va_E) (a : Nat) (b0 a0 k0 ba0 l0 by_ al : Int32) (ha : h a = some (.inr (3, [.int b0, .int a0, .int k0, .int ba0, .int l0]))) : Con l yX3_init wsX3_init 1 12 0 0 [.ref a, .int by_, .int al] g h (fun v h' => v = none ∧ h' = wu h a (.inr (3, [.int by_, .int al, .int k0, .int ba0, .int l0]))) := by
  refine m_start (cc := cX3_init) (maxL := 3) (ret := none) (by decide) rfl (Nat.le_of_ble_eq_true rfl) ?_
  intro p e s m below meth c A ls hx hb hr hml hts hown hlocks hin hw hl
  have hl : lv_has ls 3 [(0, .ref a), (1, .int by_), (2, .int al)] := hl
  have hown : s.vm.findClass RX3 = some m.cls := hown
  refine lv_aload_n hx hb dX3_init_0 rfl (lv_at hl 0 rfl) ?_
  refine W.objInit hx hb hown (hts (.methodLink RX3 1 objectInit) (by decide +kernel)) (hts (.instanceMethod objectInit) (by decide +kernel)) (hts _ (List.mem_of_getElem? (i := 3) rfl)) rfl (by rw [hml]; exact hl.1) rfl dX3_init_1 (Nat.le_of_ble_eq_true rfl) (Nat.le_of_ble_eq_true rfl) ?_
  refine W.eq (g2 := F0 m 4 ls []) rfl ?_
  refine lv_aload_n hx hb dX3_init_4 rfl (lv_at hl 0 rfl) ?_
  refine lv_iload_n hx hb dX3_init_5 rfl (lv_at hl 1 rfl) ?_
  refine w_put (ci := 3) (C := RX2) (T := TX2) (N := 5) (ref := "LayoutDesk$Type") (ty := .int) (fs' := [.int by_, .int a0, .int k0, .int ba0, .int l0]) hx hb hts in_X3_init_3 tyX2 tyX2_ok nmX2 hown hw ha rfl 0 (by decide) (hts (.fieldLink RX3 7 "LayoutDesk$Type" "bytes" "I") (by decide +kernel)) (fun _ h9 => h9) rfl (by decide +kernel) rfl rfl (Nat.le_of_ble_eq_true rfl) rfl dX3_init_6 (fun H locs hw => ?_)
  refine lv_aload_n hx hb dX3_init_9 rfl (lv_at hl 0 rfl) ?_
  refine lv_iload_n hx hb dX3_init_10 rfl (lv_at hl 2 rfl) ?_
  refine w_put (ci := 3) (C := RX2) (T := TX2) (N := 5) (ref := "LayoutDesk$Type") (ty := .int) (fs' := [.int by_, .int al, .int k0, .int ba0, .int l0]) hx hb hts in_X3_init_3 tyX2 tyX2_ok nmX2 hown hw (wu_s _ _ _) rfl 1 (by decide) (hts (.fieldLink RX3 13 "LayoutDesk$Type" "alignment" "I") (by decide +kernel)) (fun _ h9 => h9) rfl (by decide +kernel) rfl rfl (Nat.le_of_ble_eq_true rfl) rfl dX3_init_11 (fun H locs hw => ?_)
  exact r_void hx hb hr hlocks hw dX3_init_14 (Nat.le_of_ble_eq_true rfl) (Nat.le_of_ble_eq_true rfl) (⟨rfl, by rw [wu_uu]⟩)
theorem in_X3_init_1 : ∀ w ∈ u_ws RX0 TX0 8, w ∈ wsX3_init := by decide +kernel
set_option maxHeartbeats 4000000 in
set_option maxRecDepth 100000 in
theorem c_Type_C (l : Launch) (g : GG) (h : Nat → Option va_E) (a : Nat) (b0 a0 ov0 op0 re0 up0 fb0 by_ al : Int32) (ml0 : Value) (ha : h a = some (.inr (1, [.int b0, .int a0, .int ov0, ml0, .int op0, .int re0, .int up0, .int fb0]))) : Con l yX3_init wsX3_init 1 12 0 0 [.ref a, .int by_, .int al] g h (fun v h' => v = none ∧ h' = wu h a (.inr (1, [.int by_, .int al, .int ov0, ml0, .int op0, .int re0, .int up0, .int fb0]))) := by
  refine m_start (cc := cX3_init) (maxL := 3) (ret := none) (by decide) rfl (Nat.le_of_ble_eq_true rfl) ?_
  intro p e s m below meth c A ls hx hb hr hml hts hown hlocks hin hw hl
  have hl : lv_has ls 3 [(0, .ref a), (1, .int by_), (2, .int al)] := hl
  have hown : s.vm.findClass RX3 = some m.cls := hown
  refine lv_aload_n hx hb dX3_init_0 rfl (lv_at hl 0 rfl) ?_
  refine W.objInit hx hb hown (hts (.methodLink RX3 1 objectInit) (by decide +kernel)) (hts (.instanceMethod objectInit) (by decide +kernel)) (hts _ (List.mem_of_getElem? (i := 3) rfl)) rfl (by rw [hml]; exact hl.1) rfl dX3_init_1 (Nat.le_of_ble_eq_true rfl) (Nat.le_of_ble_eq_true rfl) ?_
  refine W.eq (g2 := F0 m 4 ls []) rfl ?_
  refine lv_aload_n hx hb dX3_init_4 rfl (lv_at hl 0 rfl) ?_
  refine lv_iload_n hx hb dX3_init_5 rfl (lv_at hl 1 rfl) ?_
  refine w_put (ci := 1) (C := RX0) (T := TX0) (N := 8) (ref := "LayoutDesk$Type") (ty := .int) (fs' := [.int by_, .int a0, .int ov0, ml0, .int op0, .int re0, .int up0, .int fb0]) hx hb hts in_X3_init_1 tyX0 tyX0_ok nmX0 hown hw ha rfl 0 (by decide) (hts (.fieldLink RX3 7 "LayoutDesk$Type" "bytes" "I") (by decide +kernel)) (fun _ h9 => h9) rfl (by decide +kernel) rfl rfl (Nat.le_of_ble_eq_true rfl) rfl dX3_init_6 (fun H locs hw => ?_)
  refine lv_aload_n hx hb dX3_init_9 rfl (lv_at hl 0 rfl) ?_
  refine lv_iload_n hx hb dX3_init_10 rfl (lv_at hl 2 rfl) ?_
  refine w_put (ci := 1) (C := RX0) (T := TX0) (N := 8) (ref := "LayoutDesk$Type") (ty := .int) (fs' := [.int by_, .int al, .int ov0, ml0, .int op0, .int re0, .int up0, .int fb0]) hx hb hts in_X3_init_1 tyX0 tyX0_ok nmX0 hown hw (wu_s _ _ _) rfl 1 (by decide) (hts (.fieldLink RX3 13 "LayoutDesk$Type" "alignment" "I") (by decide +kernel)) (fun _ h9 => h9) rfl (by decide +kernel) rfl rfl (Nat.le_of_ble_eq_true rfl) rfl dX3_init_11 (fun H locs hw => ?_)
  exact r_void hx hb hr hlocks hw dX3_init_14 (Nat.le_of_ble_eq_true rfl) (Nat.le_of_ble_eq_true rfl) (⟨rfl, by rw [wu_uu]⟩)
theorem in_X2_init_3 : ∀ w ∈ u_ws RX2 TX2 5, w ∈ wsX2_init := by decide +kernel
set_option maxHeartbeats 4000000 in
set_option maxRecDepth 100000 in
theorem c_Simple_init (l : Launch) (g : GG) (h : Nat → Option va_E) (a : Nat) (b0 a0 k0 ba0 l0 ki ba le by_ al : Int32) (ha : h a = some (.inr (3, [.int b0, .int a0, .int k0, .int ba0, .int l0]))) : Con l yX2_init wsX2_init 2 40 0 0 [.ref a, .int ki, .int ba, .int le, .int by_, .int al] g h (fun v h' => v = none ∧ h' = wu h a (oSi by_ al ki ba le)) := by
  refine m_start (cc := cX2_init) (maxL := 6) (ret := none) (by decide) rfl (Nat.le_of_ble_eq_true rfl) ?_
  intro p e s m below meth c A ls hx hb hr hml hts hown hlocks hin hw hl
  have hl : lv_has ls 6 [(0, .ref a), (1, .int ki), (2, .int ba), (3, .int le), (4, .int by_), (5, .int al)] := hl
  have hown : s.vm.findClass RX2 = some m.cls := hown
  refine lv_aload_n hx hb dX2_init_0 rfl (lv_at hl 0 rfl) ?_
  refine lv_iload hx hb dX2_init_1 (lv_at hl 4 rfl) ?_
  refine lv_iload hx hb dX2_init_3 (lv_at hl 5 rfl) ?_
  refine w_call (va_runI (As := [.int by_, .int al]) (rest := []) ⟨hx, hb, hml, hown, hts⟩ (c_Type_S l g h a b0 a0 k0 ba0 l0 by_ al ha s.heap.size) (cwI 2 hts gX2_init_X3_init rfl rfl rfl (hts (.initialized RX3) (by decide +kernel)) (hts (.methodLink RX2 1 yX3_init) (by decide +kernel)) (hts (.instanceMethod yX3_init) (by decide +kernel)) rfl (by decide +kernel) ⟨Nat.le_of_ble_eq_true rfl, Nat.le_of_ble_eq_true rfl⟩) ⟨pr_blind, pr_of hw⟩ rfl rfl hl.1 rfl (lv_room (Nat.le_of_ble_eq_true rfl)) dX2_init_5 ⟨Nat.le_of_ble_eq_true rfl, Nat.le_of_ble_eq_true rfl⟩) hw (fun v h' H locs hp hw => ?_)
  obtain ⟨rfl, rfl⟩ := hp
  refine W.eq (g2 := F0 m 8 ls []) rfl ?_
  refine lv_aload_n hx hb dX2_init_8 rfl (lv_at hl 0 rfl) ?_
  refine lv_iload_n hx hb dX2_init_9 rfl (lv_at hl 1 rfl) ?_
  refine w_putF (ci := 3) (C := RX2) (T := TX2) (N := 5) (ref := "LayoutDesk$Simple") (ty := .int) (fs' := [.int by_, .int al, .int ki, .int ba0, .int l0]) hx hb hts in_X2_init_3 tyX2 tyX2_ok nmX2 hown hw (wu_s _ _ _) rfl 2 (by decide) (hts (.fieldLink RX2 7 "LayoutDesk$Simple" "kind" "I") (by decide +kernel)) (fun _ h9 => h9) rfl hin rfl (by decide +kernel) rfl rfl (Nat.le_of_ble_eq_true rfl) rfl dX2_init_10 (fun H locs hw => ?_)
  refine lv_aload_n hx hb dX2_init_13 rfl (lv_at hl 0 rfl) ?_
  refine lv_iload_n hx hb dX2_init_14 rfl (lv_at hl 2 rfl) ?_
  refine w_putF (ci := 3) (C := RX2) (T := TX2) (N := 5) (ref := "LayoutDesk$Simple") (ty := .int) (fs' := [.int by_, .int al, .int ki, .int ba, .int l0]) hx hb hts in_X2_init_3 tyX2 tyX2_ok nmX2 hown hw (wu_s _ _ _) rfl 3 (by decide) (hts (.fieldLink RX2 13 "LayoutDesk$Simple" "base" "I") (by decide +kernel)) (fun _ h9 => h9) rfl hin rfl (by decide +kernel) rfl rfl (Nat.le_of_ble_eq_true rfl) rfl dX2_init_15 (fun H locs hw => ?_)
  refine lv_aload_n hx hb dX2_init_18 rfl (lv_at hl 0 rfl) ?_
  refine lv_iload_n hx hb dX2_init_19 rfl (lv_at hl 3 rfl) ?_
  refine w_putF (ci := 3) (C := RX2) (T := TX2) (N := 5) (ref := "LayoutDesk$Simple") (ty := .int) (fs' := [.int by_, .int al, .int ki, .int ba, .int le]) hx hb hts in_X2_init_3 tyX2 tyX2_ok nmX2 hown hw (wu_s _ _ _) rfl 4 (by decide) (hts (.fieldLink RX2 16 "LayoutDesk$Simple" "length" "I") (by decide +kernel)) (fun _ h9 => h9) rfl hin rfl (by decide +kernel) rfl rfl (Nat.le_of_ble_eq_true rfl) rfl dX2_init_20 (fun H locs hw => ?_)
  exact r_void hx hb hr hlocks hw dX2_init_23 (Nat.le_of_ble_eq_true rfl) (Nat.le_of_ble_eq_true rfl) (⟨rfl, by rw [wu_uu, wu_uu, wu_uu]⟩)
theorem in_X1_init_2 : ∀ w ∈ u_ws RX1 TX1 4, w ∈ wsX1_init := by decide +kernel
set_option maxHeartbeats 4000000 in
set_option maxRecDepth 100000 in
theorem c_Member_init (l : Launch) (g : GG) (h : Nat → Option va_E) (a : Nat) (p0 t0 l0 w0 pl ty lo wi : Int32) (ha : h a = some (.inr (2, [.int p0, .int t0, .int l0, .int w0]))) : Con l yX1_init wsX1_init 1 12 0 0 [.ref a, .int pl, .int ty, .int lo, .int wi] g h (fun v h' => v = none ∧ h' = wu h a (oMb pl ty lo wi)) := by
  refine m_start (cc := cX1_init) (maxL := 5) (ret := none) (by decide) rfl (Nat.le_of_ble_eq_true rfl) ?_
  intro p e s m below meth c A ls hx hb hr hml hts hown hlocks hin hw hl
  have hl : lv_has ls 5 [(0, .ref a), (1, .int pl), (2, .int ty), (3, .int lo), (4, .int wi)] := hl
  have hown : s.vm.findClass RX1 = some m.cls := hown
  refine lv_aload_n hx hb dX1_init_0 rfl (lv_at hl 0 rfl) ?_
  refine W.objInit hx hb hown (hts (.methodLink RX1 1 objectInit) (by decide +kernel)) (hts (.instanceMethod objectInit) (by decide +kernel)) (hts _ (List.mem_of_getElem? (i := 3) rfl)) rfl (by rw [hml]; exact hl.1) rfl dX1_init_1 (Nat.le_of_ble_eq_true rfl) (Nat.le_of_ble_eq_true rfl) ?_
  refine W.eq (g2 := F0 m 4 ls []) rfl ?_
  refine lv_aload_n hx hb dX1_init_4 rfl (lv_at hl 0 rfl) ?_
  refine lv_iload_n hx hb dX1_init_5 rfl (lv_at hl 1 rfl) ?_
  refine w_putF (ci := 2) (C := RX1) (T := TX1) (N := 4) (ref := "LayoutDesk$Member") (ty := .int) (fs' := [.int pl, .int t0, .int l0, .int w0]) hx hb hts in_X1_init_2 tyX1 tyX1_ok nmX1 hown hw ha rfl 0 (by decide) (hts (.fieldLink RX1 7 "LayoutDesk$Member" "place" "I") (by decide +kernel)) (fun _ h9 => h9) rfl hin rfl (by decide +kernel) rfl rfl (Nat.le_of_ble_eq_true rfl) rfl dX1_init_6 (fun H locs hw => ?_)
  refine lv_aload_n hx hb dX1_init_9 rfl (lv_at hl 0 rfl) ?_
  refine lv_iload_n hx hb dX1_init_10 rfl (lv_at hl 2 rfl) ?_
  refine w_putF (ci := 2) (C := RX1) (T := TX1) (N := 4) (ref := "LayoutDesk$Member") (ty := .int) (fs' := [.int pl, .int ty, .int l0, .int w0]) hx hb hts in_X1_init_2 tyX1 tyX1_ok nmX1 hown hw (wu_s _ _ _) rfl 1 (by decide) (hts (.fieldLink RX1 13 "LayoutDesk$Member" "type" "I") (by decide +kernel)) (fun _ h9 => h9) rfl hin rfl (by decide +kernel) rfl rfl (Nat.le_of_ble_eq_true rfl) rfl dX1_init_11 (fun H locs hw => ?_)
  refine lv_aload_n hx hb dX1_init_14 rfl (lv_at hl 0 rfl) ?_
  refine lv_iload_n hx hb dX1_init_15 rfl (lv_at hl 3 rfl) ?_
  refine w_putF (ci := 2) (C := RX1) (T := TX1) (N := 4) (ref := "LayoutDesk$Member") (ty := .int) (fs' := [.int pl, .int ty, .int lo, .int w0]) hx hb hts in_X1_init_2 tyX1 tyX1_ok nmX1 hown hw (wu_s _ _ _) rfl 2 (by decide) (hts (.fieldLink RX1 16 "LayoutDesk$Member" "lowestBit" "I") (by decide +kernel)) (fun _ h9 => h9) rfl hin rfl (by decide +kernel) rfl rfl (Nat.le_of_ble_eq_true rfl) rfl dX1_init_16 (fun H locs hw => ?_)
  refine lv_aload_n hx hb dX1_init_19 rfl (lv_at hl 0 rfl) ?_
  refine lv_iload hx hb dX1_init_20 (lv_at hl 4 rfl) ?_
  refine w_putF (ci := 2) (C := RX1) (T := TX1) (N := 4) (ref := "LayoutDesk$Member") (ty := .int) (fs' := [.int pl, .int ty, .int lo, .int wi]) hx hb hts in_X1_init_2 tyX1 tyX1_ok nmX1 hown hw (wu_s _ _ _) rfl 3 (by decide) (hts (.fieldLink RX1 19 "LayoutDesk$Member" "width" "I") (by decide +kernel)) (fun _ h9 => h9) rfl hin rfl (by decide +kernel) rfl rfl (Nat.le_of_ble_eq_true rfl) rfl dX1_init_22 (fun H locs hw => ?_)
  exact r_void hx hb hr hlocks hw dX1_init_25 (Nat.le_of_ble_eq_true rfl) (Nat.le_of_ble_eq_true rfl) (⟨rfl, by rw [wu_uu, wu_uu, wu_uu]⟩)
theorem in_X2_isMadeFrom_3 : ∀ w ∈ u_ws RX2 TX2 5, w ∈ wsX2_isMadeFrom := by decide +kernel
set_option maxHeartbeats 4000000 in
set_option maxRecDepth 100000 in
theorem c_isMadeFrom (l : Launch) (g : GG) (h : Nat → Option va_E) (a : Nat) (by_ al ki ba le k2 b2 l2 : Int32) (ha : h a = some (oSi by_ al ki ba le)) : Con l yX2_isMadeFrom wsX2_isMadeFrom 0 0 0 0 [.ref a, .int k2, .int b2, .int l2] g h (fun v h' => v = some (.int (if ki = k2 ∧ ba = b2 ∧ le = l2 then 1 else 0)) ∧ h = h') := by
  refine m_start (cc := cX2_isMadeFrom) (maxL := 4) (ret := (some .boolean)) (by decide) rfl (Nat.le_of_ble_eq_true rfl) ?_
  intro p e s m below meth c A ls hx hb hr hml hts hown hlocks hin hw hl
  have hl : lv_has ls 4 [(0, .ref a), (1, .int k2), (2, .int b2), (3, .int l2)] := hl
  have hown : s.vm.findClass RX2 = some m.cls := hown
  refine lv_aload_n hx hb dX2_isMadeFrom_0 rfl (lv_at hl 0 rfl) ?_
  refine w_get (ci := 3) (C := RX2) (T := TX2) (N := 5) (ref := "LayoutDesk$Simple") hx hb hts in_X2_isMadeFrom_3 hown hw ha rfl 2 (by decide) (hts (.fieldLink RX2 7 "LayoutDesk$Simple" "kind" "I") (by decide +kernel)) (fun _ h9 => h9) rfl dX2_isMadeFrom_1 ?_
  refine lv_iload_n hx hb dX2_isMadeFrom_4 rfl (lv_at hl 1 rfl) ?_
  refine lv_icmp_ne (tgt := 28) hx hb dX2_isMadeFrom_5 (by decide) (fun c5 => ?_) (fun c5 => ?_)
  · refine lv_iconst (v := 0) hx hb dX2_isMadeFrom_28 (by decide) ?_
    exact r_bool hx hb hr hlocks hw rfl dX2_isMadeFrom_29 (Nat.le_of_ble_eq_true rfl) (Nat.le_of_ble_eq_true rfl) (⟨by rw [if_neg (fun z => c5 z.1)], rfl⟩)
  · refine lv_aload_n hx hb dX2_isMadeFrom_8 rfl (lv_at hl 0 rfl) ?_
    refine w_get (ci := 3) (C := RX2) (T := TX2) (N := 5) (ref := "LayoutDesk$Simple") hx hb hts in_X2_isMadeFrom_3 hown hw ha rfl 3 (by decide) (hts (.fieldLink RX2 13 "LayoutDesk$Simple" "base" "I") (by decide +kernel)) (fun _ h9 => h9) rfl dX2_isMadeFrom_9 ?_
    refine lv_iload_n hx hb dX2_isMadeFrom_12 rfl (lv_at hl 2 rfl) ?_
    refine lv_icmp_ne (tgt := 28) hx hb dX2_isMadeFrom_13 (by decide) (fun c13 => ?_) (fun c13 => ?_)
    · refine lv_iconst (v := 0) hx hb dX2_isMadeFrom_28 (by decide) ?_
      exact r_bool hx hb hr hlocks hw rfl dX2_isMadeFrom_29 (Nat.le_of_ble_eq_true rfl) (Nat.le_of_ble_eq_true rfl) (⟨by rw [if_neg (fun z => c13 z.2.1)], rfl⟩)
    · refine lv_aload_n hx hb dX2_isMadeFrom_16 rfl (lv_at hl 0 rfl) ?_
      refine w_get (ci := 3) (C := RX2) (T := TX2) (N := 5) (ref := "LayoutDesk$Simple") hx hb hts in_X2_isMadeFrom_3 hown hw ha rfl 4 (by decide) (hts (.fieldLink RX2 16 "LayoutDesk$Simple" "length" "I") (by decide +kernel)) (fun _ h9 => h9) rfl dX2_isMadeFrom_17 ?_
      refine lv_iload_n hx hb dX2_isMadeFrom_20 rfl (lv_at hl 3 rfl) ?_
      refine lv_icmp_ne (tgt := 28) hx hb dX2_isMadeFrom_21 (by decide) (fun c21 => ?_) (fun c21 => ?_)
      · refine lv_iconst (v := 0) hx hb dX2_isMadeFrom_28 (by decide) ?_
        exact r_bool hx hb hr hlocks hw rfl dX2_isMadeFrom_29 (Nat.le_of_ble_eq_true rfl) (Nat.le_of_ble_eq_true rfl) (⟨by rw [if_neg (fun z => c21 z.2.2)], rfl⟩)
      · refine lv_iconst (v := 1) hx hb dX2_isMadeFrom_24 (by decide) ?_
        refine lv_goto (tgt := 29) hx hb dX2_isMadeFrom_25 (by decide) ?_
        exact r_bool hx hb hr hlocks hw rfl dX2_isMadeFrom_29 (Nat.le_of_ble_eq_true rfl) (Nat.le_of_ble_eq_true rfl) (⟨by rw [if_pos ⟨c5, c13, c21⟩], rfl⟩)
set_option maxHeartbeats 4000000 in
set_option maxRecDepth 100000 in
theorem c_roundUp (l : Launch) (g : GG) (h : Nat → Option va_E) (p_ s_ : Nat) (hp : p_ ≤ 2000000) (hs : s_ ≤ 4) : Con l yX4_roundUp wsX4_roundUp 0 0 0 0 [.int (nI p_), .int (nI s_)] g h (fun v h' => v = some (.int (nI (rup p_ s_))) ∧ h = h') := by
  refine m_start (cc := cX4_roundUp) (maxL := 3) (ret := (some .int)) (by decide) rfl (Nat.le_of_ble_eq_true rfl) ?_
  intro p e s m below meth c A ls hx hb hr hml hts hown hlocks hin hw hl
  have hl : lv_has ls 3 [(0, .int (nI p_)), (1, .int (nI s_))] := hl
  have hown : s.vm.findClass RX4 = some m.cls := hown
  refine lv_iload_n hx hb dX4_roundUp_0 rfl (lv_at hl 1 rfl) ?_
  refine lv_if_gt (tgt := 6) hx hb dX4_roundUp_1 (by decide) (fun c1 => ?_) (fun c1 => ?_)
  · have z0 : 0 < s_ := Nat.pos_of_ne_zero (fun z => by rw [z, nI_0] at c1; exact absurd c1 (by decide))
    refine lv_iload_n hx hb dX4_roundUp_6 rfl (lv_at hl 0 rfl) ?_
    refine lv_iload_n hx hb dX4_roundUp_7 rfl (lv_at hl 1 rfl) ?_
    refine lv_irem hx hb dX4_roundUp_8 (nI_ne0 z0 (by omega)) ?_
    refine lv_topi (fun o_ eo_ => ?_)
    have eo : o_ = nI (p_ % s_) := eo_.trans (pk_rem (by omega) z0 (by omega))
    refine lv_istore_n (lv' := [(2, .int o_), (0, .int (nI p_)), (1, .int (nI s_))]) hx hb dX4_roundUp_9 rfl hl (by decide) rfl (fun ls hl => ?_)
    refine lv_iload_n hx hb dX4_roundUp_10 rfl (lv_at hl 0 rfl) ?_
    refine lv_if_ne (tgt := 18) hx hb dX4_roundUp_11 (by decide) (fun c11 => ?_) (fun c11 => ?_)
    · have z1 : p_ % s_ ≠ 0 := fun z => c11 (by rw [eo, z]; exact nI_0)
      refine lv_iload_n hx hb dX4_roundUp_18 rfl (lv_at hl 1 rfl) ?_
      refine lv_iload_n hx hb dX4_roundUp_19 rfl (lv_at hl 2 rfl) ?_
      refine lv_iadd hx hb dX4_roundUp_20 ?_
      refine lv_iload_n hx hb dX4_roundUp_21 rfl (lv_at hl 0 rfl) ?_
      refine lv_isub hx hb dX4_roundUp_22 ?_
      exact r_int hx hb hr hlocks hw dX4_roundUp_23 (Nat.le_of_ble_eq_true rfl) (Nat.le_of_ble_eq_true rfl) (⟨by rw [rup_alt z0, if_neg z1, eo, nI_add, pk_sub (by have := Nat.mod_lt p_ z0; omega)], rfl⟩)
    · have z1 : p_ % s_ = 0 := (nI_eq (b := 0) (by have := Nat.mod_lt p_ z0; omega) (by decide)).mp (by rw [← eo, c11]; exact nI_0.symm)
      refine lv_iload_n hx hb dX4_roundUp_14 rfl (lv_at hl 1 rfl) ?_
      refine lv_goto (tgt := 23) hx hb dX4_roundUp_15 (by decide) ?_
      exact r_int hx hb hr hlocks hw dX4_roundUp_23 (Nat.le_of_ble_eq_true rfl) (Nat.le_of_ble_eq_true rfl) (⟨by rw [rup_alt z0, if_pos z1], rfl⟩)
  · have z0 : s_ = 0 := Nat.eq_zero_of_not_pos (fun z => c1 (nI_0lt z (by omega)))
    refine lv_iload_n hx hb dX4_roundUp_4 rfl (lv_at hl 0 rfl) ?_
    exact r_int hx hb hr hlocks hw dX4_roundUp_5 (Nat.le_of_ble_eq_true rfl) (Nat.le_of_ble_eq_true rfl) (⟨by rw [z0]; rfl, rfl⟩)
set_option maxHeartbeats 4000000 in
set_option maxRecDepth 100000 in
theorem c_isBit (l : Launch) (g : GG) (h : Nat → Option va_E) (t : Int32) : Con l yX4_isBitFieldType wsX4_isBitFieldType 0 0 0 0 [.int t] g h (fun v h' => v = some (.int (if t = 5 ∨ t = 6 then 1 else 0)) ∧ h = h') := by
  refine m_start (cc := cX4_isBitFieldType) (maxL := 1) (ret := (some .boolean)) (by decide) rfl (Nat.le_of_ble_eq_true rfl) ?_
  intro p e s m below meth c A ls hx hb hr hml hts hown hlocks hin hw hl
  have hl : lv_has ls 1 [(0, .int t)] := hl
  have hown : s.vm.findClass RX4 = some m.cls := hown
  refine lv_iload_n hx hb dX4_isBitFieldType_0 rfl (lv_at hl 0 rfl) ?_
  refine lv_iconst (v := 5) hx hb dX4_isBitFieldType_1 (by decide) ?_
  refine lv_icmp_eq (tgt := 11) hx hb dX4_isBitFieldType_2 (by decide) (fun c2 => ?_) (fun c2 => ?_)
  · refine lv_iconst (v := 1) hx hb dX4_isBitFieldType_11 (by decide) ?_
    refine lv_goto (tgt := 16) hx hb dX4_isBitFieldType_12 (by decide) ?_
    exact r_bool hx hb hr hlocks hw rfl dX4_isBitFieldType_16 (Nat.le_of_ble_eq_true rfl) (Nat.le_of_ble_eq_true rfl) (⟨by rw [if_pos (Or.inl c2)], rfl⟩)
  · refine lv_iload_n hx hb dX4_isBitFieldType_5 rfl (lv_at hl 0 rfl) ?_
    refine lv_bipush (v := 6) hx hb dX4_isBitFieldType_6 (by decide) ?_
    refine lv_icmp_ne (tgt := 15) hx hb dX4_isBitFieldType_8 (by decide) (fun c8 => ?_) (fun c8 => ?_)
    · refine lv_iconst (v := 0) hx hb dX4_isBitFieldType_15 (by decide) ?_
      exact r_bool hx hb hr hlocks hw rfl dX4_isBitFieldType_16 (Nat.le_of_ble_eq_true rfl) (Nat.le_of_ble_eq_true rfl) (⟨by rw [if_neg (fun z => z.elim c2 c8)], rfl⟩)
    · refine lv_iconst (v := 1) hx hb dX4_isBitFieldType_11 (by decide) ?_
      refine lv_goto (tgt := 16) hx hb dX4_isBitFieldType_12 (by decide) ?_
      exact r_bool hx hb hr hlocks hw rfl dX4_isBitFieldType_16 (Nat.le_of_ble_eq_true rfl) (Nat.le_of_ble_eq_true rfl) (⟨by rw [if_pos (Or.inr c8)], rfl⟩)
