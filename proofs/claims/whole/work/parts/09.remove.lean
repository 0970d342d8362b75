/-! taking the last element away -/
theorem in_Jx4a65c_fastRemove_b59b0_0 : ∀ w ∈ u_ws RJx4a65c TJx4a65c 3, w ∈ wsJx4a65c_fastRemove_b59b0 := by decide +kernel
set_option maxHeartbeats 4000000 in
set_option maxRecDepth 100000 in
theorem c_AL_fastRemove (l : Launch) (g : GG) (h : Nat → Option va_E) (mc : Int32) (a arr k cap : Nat) (f : Nat → Option Nat) (ha : h a = some (oAL mc arr (nI (k + 1)))) (hr0 : h arr = some (arO g cap f)) (h1 : k < cap) (h2 : cap ≤ 800) : Con l yJx4a65c_fastRemove_b59b0 wsJx4a65c_fastRemove_b59b0 1 40 0 0 [.ref a, .ref arr, .int (nI k)] g h (fun v h' => v = none ∧ h' = wu (wu h a (oAL (mc + 1) arr (nI k))) arr (arO g cap (va_up f k none))) := by
  refine m_start (cc := cJx4a65c_fastRemove_b59b0) (maxL := 4) (ret := none) (by decide) rfl (Nat.le_of_ble_eq_true rfl) ?_
  intro p e s m below meth c A ls hx hb hr hml hts hown hlocks hin hw hl
  have hl : lv_has ls 4 [(0, .ref a), (1, .ref arr), (2, .int (nI k))] := hl
  have hown : s.vm.findClass RJx4a65c = some m.cls := hown
  refine lv_aload_n hx hb dJx4a65c_fastRemove_b59b0_0 rfl (lv_at hl 0 rfl) ?_
  refine lv_dup hx hb dJx4a65c_fastRemove_b59b0_1 rfl ?_
  refine w_get (ci := 0) (C := RJx4a65c) (T := TJx4a65c) (N := 3) (ref := "java/util/ArrayList") hx hb hts in_Jx4a65c_fastRemove_b59b0_0 hown hw ha rfl 0 (by decide) (hts (.fieldLink RJx4a65c 63 "java/util/ArrayList" "modCount" "I") (by decide +kernel)) (u_same (hts (.sameField "java/util/ArrayList" "java/util/AbstractList" "modCount" "I") (by decide +kernel))) rfl dJx4a65c_fastRemove_b59b0_2 ?_
  refine lv_iconst (v := 1) hx hb dJx4a65c_fastRemove_b59b0_5 (by decide) ?_
  refine lv_iadd hx hb dJx4a65c_fastRemove_b59b0_6 ?_
  refine w_put (ci := 0) (C := RJx4a65c) (T := TJx4a65c) (N := 3) (ref := "java/util/ArrayList") (ty := .int) (fs' := [.int (mc + 1), .ref arr, .int (nI (k + 1))]) hx hb hts in_Jx4a65c_fastRemove_b59b0_0 tyJx4a65c tyJx4a65c_ok nmJx4a65c hown hw ha rfl 0 (by decide) (hts (.fieldLink RJx4a65c 63 "java/util/ArrayList" "modCount" "I") (by decide +kernel)) (u_same (hts (.sameField "java/util/ArrayList" "java/util/AbstractList" "modCount" "I") (by decide +kernel))) rfl (by decide +kernel) rfl rfl (Nat.le_of_ble_eq_true rfl) rfl dJx4a65c_fastRemove_b59b0_7 (fun H locs hw => ?_)
  refine lv_aload_n hx hb dJx4a65c_fastRemove_b59b0_10 rfl (lv_at hl 0 rfl) ?_
  refine w_get (ci := 0) (C := RJx4a65c) (T := TJx4a65c) (N := 3) (ref := "java/util/ArrayList") hx hb hts in_Jx4a65c_fastRemove_b59b0_0 hown hw (wu_s _ _ _) rfl 2 (by decide) (hts (.fieldLink RJx4a65c 48 "java/util/ArrayList" "size" "I") (by decide +kernel)) (fun _ h9 => h9) rfl dJx4a65c_fastRemove_b59b0_11 ?_
  refine lv_iconst (v := 1) hx hb dJx4a65c_fastRemove_b59b0_14 (by decide) ?_
  refine lv_isub hx hb dJx4a65c_fastRemove_b59b0_15 ?_
  refine lv_topi (fun k1 ek1 => ?_)
  have ek1 : k1 = nI k := ek1.trans (nI_pred k)
  subst ek1
  refine lv_dup hx hb dJx4a65c_fastRemove_b59b0_16 rfl ?_
  refine lv_istore_n (lv' := [(3, .int (nI k)), (0, .ref a), (1, .ref arr), (2, .int (nI k))]) hx hb dJx4a65c_fastRemove_b59b0_17 rfl hl (by decide) rfl (fun ls hl => ?_)
  refine lv_iload_n hx hb dJx4a65c_fastRemove_b59b0_18 rfl (lv_at hl 3 rfl) ?_
  refine lv_icmp_le (tgt := 34) hx hb dJx4a65c_fastRemove_b59b0_19 (by decide) (fun c19 => ?_) (fun c19 => ?_)
  · refine lv_aload_n hx hb dJx4a65c_fastRemove_b59b0_34 rfl (lv_at hl 2 rfl) ?_
    refine lv_aload_n hx hb dJx4a65c_fastRemove_b59b0_35 rfl (lv_at hl 1 rfl) ?_
    refine lv_iload_n hx hb dJx4a65c_fastRemove_b59b0_36 rfl (lv_at hl 0 rfl) ?_
    refine lv_dup_x1 hx hb dJx4a65c_fastRemove_b59b0_37 rfl rfl ?_
    refine w_put (ci := 0) (C := RJx4a65c) (T := TJx4a65c) (N := 3) (ref := "java/util/ArrayList") (ty := .int) (fs' := [.int (mc + 1), .ref arr, .int (nI k)]) hx hb hts in_Jx4a65c_fastRemove_b59b0_0 tyJx4a65c tyJx4a65c_ok nmJx4a65c hown hw (wu_s _ _ _) rfl 2 (by decide) (hts (.fieldLink RJx4a65c 48 "java/util/ArrayList" "size" "I") (by decide +kernel)) (fun _ h9 => h9) rfl (by decide +kernel) rfl rfl (Nat.le_of_ble_eq_true rfl) rfl dJx4a65c_fastRemove_b59b0_38 (fun H locs hw => ?_)
    refine lv_null hx hb dJx4a65c_fastRemove_b59b0_41 ?_
    refine w_aastN hx hb hw ((wu_n (ne_e hr0 ha ne_lr)).trans ((wu_n (ne_e hr0 ha ne_lr)).trans hr0)) (vp_in_nI h1 (by omega)) dJx4a65c_fastRemove_b59b0_42 (fun H locs hw => ?_)
    exact r_void hx hb hr hlocks hw dJx4a65c_fastRemove_b59b0_43 (Nat.le_of_ble_eq_true rfl) (Nat.le_of_ble_eq_true rfl) (⟨rfl, by rw [wu_uu, nI_clamp (by omega)]⟩)
  · exact absurd (nI_le (Nat.le_refl k) (by omega)) c19
theorem in_Jx4a65c_remove_915e3_0 : ∀ w ∈ u_ws RJx4a65c TJx4a65c 3, w ∈ wsJx4a65c_remove_915e3 := by decide +kernel
set_option maxHeartbeats 4000000 in
set_option maxRecDepth 100000 in
theorem c_AL_removeR (l : Launch) (g : GG) (h : Nat → Option va_E) (mc : Int32) (a arr k cap x : Nat) (f : Nat → Option Nat) (ha : h a = some (oAL mc arr (nI (k + 1)))) (hr0 : h arr = some (arO g cap f)) (h1 : k < cap) (h2 : cap ≤ 800) (hfx : f k = some x) : Con l yJx4a65c_remove_915e3 wsJx4a65c_remove_915e3 2 70 0 0 [.ref a, .int (nI k)] g h (fun v h' => v = some (.ref x) ∧ h' = wu (wu h a (oAL (mc + 1) arr (nI k))) arr (arO g cap (va_up f k none))) := by
  refine m_start (cc := cJx4a65c_remove_915e3) (maxL := 4) (ret := (some (.object "java/lang/Object"))) (by decide) rfl (Nat.le_of_ble_eq_true rfl) ?_
  intro p e s m below meth c A ls hx hb hr hml hts hown hlocks hin hw hl
  have hl : lv_has ls 4 [(0, .ref a), (1, .int (nI k))] := hl
  have hown : s.vm.findClass RJx4a65c = some m.cls := hown
  refine lv_iload_n hx hb dJx4a65c_remove_915e3_0 rfl (lv_at hl 1 rfl) ?_
  refine lv_aload_n hx hb dJx4a65c_remove_915e3_1 rfl (lv_at hl 0 rfl) ?_
  refine w_get (ci := 0) (C := RJx4a65c) (T := TJx4a65c) (N := 3) (ref := "java/util/ArrayList") hx hb hts in_Jx4a65c_remove_915e3_0 hown hw ha rfl 2 (by decide) (hts (.fieldLink RJx4a65c 48 "java/util/ArrayList" "size" "I") (by decide +kernel)) (fun _ h9 => h9) rfl dJx4a65c_remove_915e3_2 ?_
  refine w_call (va_runS (As := [.int (nI k), .int (nI (k + 1))]) (rest := []) ⟨hx, hb, hml, hown, hts⟩ (c_obj_check l g h (nI k) (nI (k + 1)) (nI_pos (by omega)) (nI_lt (by omega) (by omega)) s.heap.size) (va_cwS 2 hts gJx4a65c_remove_915e3_J15_checkIndex_7cf53 rfl rfl rfl (by decide +kernel) ⟨Nat.le_of_ble_eq_true rfl, Nat.le_of_ble_eq_true rfl⟩) ⟨pr_blind, pr_of hw⟩ rfl rfl hl.1 rfl (lv_room (Nat.le_of_ble_eq_true rfl)) dJx4a65c_remove_915e3_5 ⟨Nat.le_of_ble_eq_true rfl, Nat.le_of_ble_eq_true rfl⟩) hw (fun v h' H locs hp hw => ?_)
  obtain ⟨rfl, rfl⟩ := hp
  refine W.eq (g2 := F0 m 8 ls [.int (nI k)]) rfl ?_
  refine lv_pop hx hb dJx4a65c_remove_915e3_8 rfl ?_
  refine lv_aload_n hx hb dJx4a65c_remove_915e3_9 rfl (lv_at hl 0 rfl) ?_
  refine w_get (ci := 0) (C := RJx4a65c) (T := TJx4a65c) (N := 3) (ref := "java/util/ArrayList") hx hb hts in_Jx4a65c_remove_915e3_0 hown hw ha rfl 1 (by decide) (hts (.fieldLink RJx4a65c 9 "java/util/ArrayList" "elementData" "[Ljava/lang/Object;") (by decide +kernel)) (fun _ h9 => h9) rfl dJx4a65c_remove_915e3_10 ?_
  refine lv_astore_n (lv' := [(2, .ref arr), (0, .ref a), (1, .int (nI k))]) hx hb dJx4a65c_remove_915e3_13 rfl hl (by decide) rfl (fun ls hl => ?_)
  refine lv_aload_n hx hb dJx4a65c_remove_915e3_14 rfl (lv_at hl 0 rfl) ?_
  refine lv_iload_n hx hb dJx4a65c_remove_915e3_15 rfl (lv_at hl 2 rfl) ?_
  refine w_aald hx hb hw hr0 (vp_in_nI h1 (by omega)) dJx4a65c_remove_915e3_16 ?_
  refine W.eq (g2 := F0 m 17 ls [.ref x]) (by rw [nI_clamp (by omega), hfx]; rfl) ?_
  refine lv_astore_n (lv' := [(3, .ref x), (2, .ref arr), (0, .ref a), (1, .int (nI k))]) hx hb dJx4a65c_remove_915e3_17 rfl hl (by decide) rfl (fun ls hl => ?_)
  refine lv_aload_n hx hb dJx4a65c_remove_915e3_18 rfl (lv_at hl 2 rfl) ?_
  refine lv_aload_n hx hb dJx4a65c_remove_915e3_19 rfl (lv_at hl 1 rfl) ?_
  refine lv_iload_n hx hb dJx4a65c_remove_915e3_20 rfl (lv_at hl 3 rfl) ?_
  refine w_call (va_runV (As := [.ref arr, .int (nI k)]) (rest := []) ⟨hx, hb, hml, hown, hts⟩ (c_AL_fastRemove l g h mc a arr k cap f ha hr0 h1 h2 H.size) (cwV 2 hts gJx4a65c_remove_915e3_Jx4a65c_fastRemove_b59b0 rfl rfl rfl (by decide +kernel) ⟨Nat.le_of_ble_eq_true rfl, Nat.le_of_ble_eq_true rfl⟩) ⟨pr_blind, w_recv hw ha rfl, pr_of hw⟩ rfl rfl hl.1 rfl (lv_room (Nat.le_of_ble_eq_true rfl)) dJx4a65c_remove_915e3_21 ⟨Nat.le_of_ble_eq_true rfl, Nat.le_of_ble_eq_true rfl⟩) hw (fun v h' H locs hp hw => ?_)
  obtain ⟨rfl, rfl⟩ := hp
  refine W.eq (g2 := F0 m 24 ls []) rfl ?_
  refine lv_aload_n hx hb dJx4a65c_remove_915e3_24 rfl (lv_at hl 0 rfl) ?_
  exact r_ref hx hb hr (Or.inl ⟨_, rfl⟩) (Or.inr ⟨_, rfl⟩) hlocks hw dJx4a65c_remove_915e3_25 (Nat.le_of_ble_eq_true rfl) (Nat.le_of_ble_eq_true rfl) (⟨rfl, rfl⟩)
