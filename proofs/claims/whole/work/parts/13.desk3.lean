/-! the desk: its list of types, the lookups -/
theorem in_X4_isFull_4 : ∀ w ∈ u_ws RX4 TX4 1, w ∈ wsX4_isFull := by decide +kernel
set_option maxHeartbeats 4000000 in
set_option maxRecDepth 100000 in
theorem c_isFull (l : Launch) (g : GG) (h : Nat → Option va_E) (x kl ka : Nat) (ty : List Nat) (hd : h x = some (oDk kl)) (hL : AL g h kl ka ty) : Con l yX4_isFull wsX4_isFull 1 30 0 0 [.ref x] g h (fun v h' => v = some (.int (if 300 ≤ ty.length then 1 else 0)) ∧ h = h') := by
  have hn9 := AL_len hL
  obtain ⟨⟨mc, hk0⟩, -, -⟩ := id hL
  refine m_start (cc := cX4_isFull) (maxL := 1) (ret := (some .boolean)) (by decide) rfl (Nat.le_of_ble_eq_true rfl) ?_
  intro p e s m below meth c A ls hx hb hr hml hts hown hlocks hin hw hl
  have hl : lv_has ls 1 [(0, .ref x)] := hl
  have hown : s.vm.findClass RX4 = some m.cls := hown
  refine lv_aload_n hx hb dX4_isFull_0 rfl (lv_at hl 0 rfl) ?_
  refine w_get (ci := 4) (C := RX4) (T := TX4) (N := 1) (ref := "LayoutDesk") hx hb hts in_X4_isFull_4 hown hw hd rfl 0 (by decide) (hts (.fieldLink RX4 10 "LayoutDesk" "known" "Ljava/util/ArrayList;") (by decide +kernel)) (fun _ h9 => h9) rfl dX4_isFull_1 ?_
  refine w_call (va_runV (As := []) (rest := []) ⟨hx, hb, hml, hown, hts⟩ (c_sizeL l g h kl ka ty hL s.heap.size) (cwV 0 hts gX4_isFull_Jx4a65c_size_8abf5 rfl rfl rfl (by decide +kernel) ⟨Nat.le_of_ble_eq_true rfl, Nat.le_of_ble_eq_true rfl⟩) ⟨pr_blind, w_recv hw hk0 rfl, pr_of hw⟩ rfl rfl hl.1 rfl (lv_room (Nat.le_of_ble_eq_true rfl)) dX4_isFull_4 ⟨Nat.le_of_ble_eq_true rfl, Nat.le_of_ble_eq_true rfl⟩) hw (fun v h' H locs hp hw => ?_)
  obtain ⟨rfl, rfl⟩ := hp
  refine W.eq (g2 := F0 m 7 ls [.int (nI ty.length)]) rfl ?_
  refine lv_sipush (v := 300) hx hb dX4_isFull_7 (by decide) ?_
  refine lv_icmp_lt (tgt := 17) hx hb dX4_isFull_10 (by decide) (fun c10 => ?_) (fun c10 => ?_)
  · refine lv_iconst (v := 0) hx hb dX4_isFull_17 (by decide) ?_
    exact r_bool hx hb hr hlocks hw rfl dX4_isFull_18 (Nat.le_of_ble_eq_true rfl) (Nat.le_of_ble_eq_true rfl) (⟨by rw [if_neg (fun z => (nI_nlt (b := 300) z (by omega)) c10)], rfl⟩)
  · refine lv_iconst (v := 1) hx hb dX4_isFull_13 (by decide) ?_
    refine lv_goto (tgt := 18) hx hb dX4_isFull_14 (by decide) ?_
    exact r_bool hx hb hr hlocks hw rfl dX4_isFull_18 (Nat.le_of_ble_eq_true rfl) (Nat.le_of_ble_eq_true rfl) (⟨by rw [if_pos (Nat.le_of_not_lt (fun z => c10 (nI_lt (b := 300) z (by decide))))], rfl⟩)
theorem in_X4_enter_4 : ∀ w ∈ u_ws RX4 TX4 1, w ∈ wsX4_enter := by decide +kernel
set_option maxHeartbeats 4000000 in
set_option maxRecDepth 100000 in
theorem c_enter (l : Launch) (g : GG) (h : Nat → Option va_E) (x kl ka : Nat) (ty : List Nat) (hd : h x = some (oDk kl)) (hL : AL g h kl ka ty) (y : Nat) (hy0 : isE h y) (hn : ty.length ≤ 530) : Con l yX4_enter wsX4_enter 7 171 1 800 [.ref x, .ref y] g h (fun v h' => ∃ ka' : Nat, v = some (.int (nI ty.length)) ∧ (ka' = ka ∨ h ka' = none) ∧ AL g h' kl ka' (ty ++ [y]) ∧ ∀ q, q ≠ kl → q ≠ ka' → h' q = h q) := by
  obtain ⟨⟨mc, hk0⟩, -, -⟩ := id hL
  refine m_start (cc := cX4_enter) (maxL := 2) (ret := (some .int)) (by decide) rfl (Nat.le_of_ble_eq_true rfl) ?_
  intro p e s m below meth c A ls hx hb hr hml hts hown hlocks hin hw hl
  have hl : lv_has ls 2 [(0, .ref x), (1, .ref y)] := hl
  have hown : s.vm.findClass RX4 = some m.cls := hown
  refine lv_aload_n hx hb dX4_enter_0 rfl (lv_at hl 0 rfl) ?_
  refine w_get (ci := 4) (C := RX4) (T := TX4) (N := 1) (ref := "LayoutDesk") hx hb hts in_X4_enter_4 hown hw hd rfl 0 (by decide) (hts (.fieldLink RX4 10 "LayoutDesk" "known" "Ljava/util/ArrayList;") (by decide +kernel)) (fun _ h9 => h9) rfl dX4_enter_1 ?_
  refine lv_aload_n hx hb dX4_enter_4 rfl (lv_at hl 1 rfl) ?_
  refine w_call (va_runV (As := [.ref y]) (rest := []) ⟨hx, hb, hml, hown, hts⟩ (c_AL_add l g h kl ka y ty hL hy0 hn s.heap.size) (cwV 1 hts gX4_enter_Jx4a65c_add_9ea2d rfl rfl rfl (by decide +kernel) ⟨Nat.le_of_ble_eq_true rfl, Nat.le_of_ble_eq_true rfl⟩) ⟨pr_blind, w_recv hw hk0 rfl, pr_of hw⟩ rfl rfl hl.1 rfl (lv_room (Nat.le_of_ble_eq_true rfl)) dX4_enter_5 ⟨Nat.le_of_ble_eq_true rfl, Nat.le_of_ble_eq_true rfl⟩) hw (fun v h' H locs hp hw => ?_)
  obtain ⟨ka', rfl, q1, q2, q3⟩ := hp
  refine W.eq (g2 := F0 m 8 ls [.int 1]) rfl ?_
  have hr' : h ka' = none ∨ ∃ z, h ka' = some (.inl z) := by
    rcases q1 with q1 | q1
    · subst q1; exact AL_arr hL
    · exact Or.inl q1
  have hD' : h' x = some (oDk kl) := (q3 x (ne_e hd hk0 (ne_c (by decide))) (hr'.elim (fun z => ne_n hd z) (fun z => ne_e hd z.choose_spec ne_rl))).trans hd
  obtain ⟨mc2, hk2⟩ := q2.1
  refine lv_pop hx hb dX4_enter_8 rfl ?_
  refine lv_aload_n hx hb dX4_enter_9 rfl (lv_at hl 0 rfl) ?_
  refine w_get (ci := 4) (C := RX4) (T := TX4) (N := 1) (ref := "LayoutDesk") hx hb hts in_X4_enter_4 hown hw hD' rfl 0 (by decide) (hts (.fieldLink RX4 10 "LayoutDesk" "known" "Ljava/util/ArrayList;") (by decide +kernel)) (fun _ h9 => h9) rfl dX4_enter_10 ?_
  refine w_call (va_runV (As := []) (rest := []) ⟨hx, hb, hml, hown, hts⟩ (c_sizeL l g h' kl ka' (ty ++ [y]) q2 H.size) (cwV 0 hts gX4_enter_Jx4a65c_size_8abf5 rfl rfl rfl (by decide +kernel) ⟨Nat.le_of_ble_eq_true rfl, Nat.le_of_ble_eq_true rfl⟩) ⟨pr_blind, w_recv hw hk2 rfl, pr_of hw⟩ rfl rfl hl.1 rfl (lv_room (Nat.le_of_ble_eq_true rfl)) dX4_enter_13 ⟨Nat.le_of_ble_eq_true rfl, Nat.le_of_ble_eq_true rfl⟩) hw (fun v k' H locs hp hw => ?_)
  obtain ⟨rfl, rfl⟩ := hp
  refine W.eq (g2 := F0 m 16 ls [.int (nI (ty ++ [y]).length)]) rfl ?_
  refine lv_iconst (v := 1) hx hb dX4_enter_16 (by decide) ?_
  refine lv_isub hx hb dX4_enter_17 ?_
  exact r_int hx hb hr hlocks hw dX4_enter_18 (Nat.le_of_ble_eq_true rfl) (Nat.le_of_ble_eq_true rfl) (⟨ka', by rw [List.length_append, List.length_singleton, nI_pred], q1, q2, q3⟩)
theorem in_X4_typeAt_4 : ∀ w ∈ u_ws RX4 TX4 1, w ∈ wsX4_typeAt := by decide +kernel
set_option maxHeartbeats 4000000 in
set_option maxRecDepth 100000 in
theorem c_typeAt_N (l : Launch) (g : GG) (h : Nat → Option va_E) (x kl ka : Nat) (ty : List Nat) (hd : h x = some (oDk kl)) (hL : AL g h kl ka ty) (t : Int32) (ht : lk ty t = none) : Con l yX4_typeAt wsX4_typeAt 3 70 0 0 [.ref x, .int t] g h (fun v h' => v = some .null ∧ h = h') := by
  have hn9 := AL_len hL
  obtain ⟨⟨mc, hk0⟩, -, -⟩ := id hL
  refine m_start (cc := cX4_typeAt) (maxL := 2) (ret := (some (.object "LayoutDesk$Type"))) (by decide) rfl (Nat.le_of_ble_eq_true rfl) ?_
  intro p e s m below meth c A ls hx hb hr hml hts hown hlocks hin hw hl
  have hl : lv_has ls 2 [(0, .ref x), (1, .int t)] := hl
  have hown : s.vm.findClass RX4 = some m.cls := hown
  refine lv_iload_n hx hb dX4_typeAt_0 rfl (lv_at hl 1 rfl) ?_
  refine lv_if_lt (tgt := 15) hx hb dX4_typeAt_1 (by decide) (fun c1 => ?_) (fun c1 => ?_)
  · refine lv_null hx hb dX4_typeAt_15 ?_
    refine lv_goto (tgt := 30) hx hb dX4_typeAt_16 (by decide) ?_
    exact r_ref hx hb hr (Or.inl ⟨_, rfl⟩) (Or.inl rfl) hlocks hw dX4_typeAt_30 (Nat.le_of_ble_eq_true rfl) (Nat.le_of_ble_eq_true rfl) (⟨rfl, rfl⟩)
  · refine lv_iload_n hx hb dX4_typeAt_4 rfl (lv_at hl 1 rfl) ?_
    refine lv_aload_n hx hb dX4_typeAt_5 rfl (lv_at hl 0 rfl) ?_
    refine w_get (ci := 4) (C := RX4) (T := TX4) (N := 1) (ref := "LayoutDesk") hx hb hts in_X4_typeAt_4 hown hw hd rfl 0 (by decide) (hts (.fieldLink RX4 10 "LayoutDesk" "known" "Ljava/util/ArrayList;") (by decide +kernel)) (fun _ h9 => h9) rfl dX4_typeAt_6 ?_
    refine w_call (va_runV (As := []) (rest := [.int t]) ⟨hx, hb, hml, hown, hts⟩ (c_sizeL l g h kl ka ty hL s.heap.size) (cwV 0 hts gX4_typeAt_Jx4a65c_size_8abf5 rfl rfl rfl (by decide +kernel) ⟨Nat.le_of_ble_eq_true rfl, Nat.le_of_ble_eq_true rfl⟩) ⟨pr_blind, w_recv hw hk0 rfl, pr_of hw⟩ rfl rfl hl.1 rfl (lv_room (Nat.le_of_ble_eq_true rfl)) dX4_typeAt_9 ⟨Nat.le_of_ble_eq_true rfl, Nat.le_of_ble_eq_true rfl⟩) hw (fun v h' H locs hp hw => ?_)
    obtain ⟨rfl, rfl⟩ := hp
    refine W.eq (g2 := F0 m 12 ls [.int (nI ty.length), .int t]) rfl ?_
    refine lv_icmp_lt (tgt := 19) hx hb dX4_typeAt_12 (by decide) (fun c12 => ?_) (fun c12 => ?_)
    · obtain ⟨a9, ha9⟩ := lk_some c1 c12 (by omega)
      rw [ht] at ha9
      cases ha9
    · refine lv_null hx hb dX4_typeAt_15 ?_
      refine lv_goto (tgt := 30) hx hb dX4_typeAt_16 (by decide) ?_
      exact r_ref hx hb hr (Or.inl ⟨_, rfl⟩) (Or.inl rfl) hlocks hw dX4_typeAt_30 (Nat.le_of_ble_eq_true rfl) (Nat.le_of_ble_eq_true rfl) (⟨rfl, rfl⟩)
set_option maxHeartbeats 4000000 in
set_option maxRecDepth 100000 in
theorem c_typeAt_S (l : Launch) (g : GG) (h : Nat → Option va_E) (x kl ka : Nat) (ty : List Nat) (hd : h x = some (oDk kl)) (hL : AL g h kl ka ty) (t : Int32) (a : Nat) (ht : lk ty t = some a) (hT : isTy h a) : Con l yX4_typeAt wsX4_typeAt 3 70 0 0 [.ref x, .int t] g h (fun v h' => v = some (.ref a) ∧ h = h') := by
  have hn9 := AL_len hL
  obtain ⟨⟨mc, hk0⟩, -, -⟩ := id hL
  refine m_start (cc := cX4_typeAt) (maxL := 2) (ret := (some (.object "LayoutDesk$Type"))) (by decide) rfl (Nat.le_of_ble_eq_true rfl) ?_
  intro p e s m below meth c A ls hx hb hr hml hts hown hlocks hin hw hl
  have hl : lv_has ls 2 [(0, .ref x), (1, .int t)] := hl
  have hown : s.vm.findClass RX4 = some m.cls := hown
  refine lv_iload_n hx hb dX4_typeAt_0 rfl (lv_at hl 1 rfl) ?_
  refine lv_if_lt (tgt := 15) hx hb dX4_typeAt_1 (by decide) (fun c1 => ?_) (fun c1 => ?_)
  · exact absurd c1 (lk_ofS ht).1
  · refine lv_iload_n hx hb dX4_typeAt_4 rfl (lv_at hl 1 rfl) ?_
    refine lv_aload_n hx hb dX4_typeAt_5 rfl (lv_at hl 0 rfl) ?_
    refine w_get (ci := 4) (C := RX4) (T := TX4) (N := 1) (ref := "LayoutDesk") hx hb hts in_X4_typeAt_4 hown hw hd rfl 0 (by decide) (hts (.fieldLink RX4 10 "LayoutDesk" "known" "Ljava/util/ArrayList;") (by decide +kernel)) (fun _ h9 => h9) rfl dX4_typeAt_6 ?_
    refine w_call (va_runV (As := []) (rest := [.int t]) ⟨hx, hb, hml, hown, hts⟩ (c_sizeL l g h kl ka ty hL s.heap.size) (cwV 0 hts gX4_typeAt_Jx4a65c_size_8abf5 rfl rfl rfl (by decide +kernel) ⟨Nat.le_of_ble_eq_true rfl, Nat.le_of_ble_eq_true rfl⟩) ⟨pr_blind, w_recv hw hk0 rfl, pr_of hw⟩ rfl rfl hl.1 rfl (lv_room (Nat.le_of_ble_eq_true rfl)) dX4_typeAt_9 ⟨Nat.le_of_ble_eq_true rfl, Nat.le_of_ble_eq_true rfl⟩) hw (fun v h' H locs hp hw => ?_)
    obtain ⟨rfl, rfl⟩ := hp
    refine W.eq (g2 := F0 m 12 ls [.int (nI ty.length), .int t]) rfl ?_
    refine lv_icmp_lt (tgt := 19) hx hb dX4_typeAt_12 (by decide) (fun c12 => ?_) (fun c12 => ?_)
    · refine lv_aload_n hx hb dX4_typeAt_19 rfl (lv_at hl 0 rfl) ?_
      refine w_get (ci := 4) (C := RX4) (T := TX4) (N := 1) (ref := "LayoutDesk") hx hb hts in_X4_typeAt_4 hown hw hd rfl 0 (by decide) (hts (.fieldLink RX4 10 "LayoutDesk" "known" "Ljava/util/ArrayList;") (by decide +kernel)) (fun _ h9 => h9) rfl dX4_typeAt_20 ?_
      refine lv_iload_n hx hb dX4_typeAt_23 rfl (lv_at hl 1 rfl) ?_
      refine w_call (va_runV (As := [.int t]) (rest := []) ⟨hx, hb, hml, hown, hts⟩ (c_getL l g h kl ka ty hL t a ht H.size) (cwV 1 hts gX4_typeAt_Jx4a65c_get_915e3 rfl rfl rfl (by decide +kernel) ⟨Nat.le_of_ble_eq_true rfl, Nat.le_of_ble_eq_true rfl⟩) ⟨pr_blind, w_recv hw hk0 rfl, pr_of hw⟩ rfl rfl hl.1 rfl (lv_room (Nat.le_of_ble_eq_true rfl)) dX4_typeAt_24 ⟨Nat.le_of_ble_eq_true rfl, Nat.le_of_ble_eq_true rfl⟩) hw (fun v h' H locs hp hw => ?_)
      obtain ⟨rfl, rfl⟩ := hp
      refine W.eq (g2 := F0 m 27 ls [.ref a]) rfl ?_
      refine w_castT hx hb hown (hts (.classLink RX4 53 "LayoutDesk$Type") (by decide +kernel)) hw hT dX4_typeAt_27 ?_
      exact r_ref hx hb hr (Or.inl ⟨_, rfl⟩) (Or.inr ⟨_, rfl⟩) hlocks hw dX4_typeAt_30 (Nat.le_of_ble_eq_true rfl) (Nat.le_of_ble_eq_true rfl) (⟨rfl, rfl⟩)
    · exact absurd (lk_lt ht (by omega)).1 c12
set_option maxHeartbeats 4000000 in
set_option maxRecDepth 100000 in
theorem c_recordAt_N1 (l : Launch) (g : GG) (h : Nat → Option va_E) (x kl ka : Nat) (ty : List Nat) (hd : h x = some (oDk kl)) (hL : AL g h kl ka ty) (t : Int32) (ht : lk ty t = none) : Con l yX4_recordAt wsX4_recordAt 4 100 0 0 [.ref x, .int t] g h (fun v h' => v = some .null ∧ h = h') := by
  refine m_start (cc := cX4_recordAt) (maxL := 4) (ret := (some (.object "LayoutDesk$Compound"))) (by decide) rfl (Nat.le_of_ble_eq_true rfl) ?_
  intro p e s m below meth c A ls hx hb hr hml hts hown hlocks hin hw hl
  have hl : lv_has ls 4 [(0, .ref x), (1, .int t)] := hl
  have hown : s.vm.findClass RX4 = some m.cls := hown
  refine lv_aload_n hx hb dX4_recordAt_0 rfl (lv_at hl 0 rfl) ?_
  refine lv_iload_n hx hb dX4_recordAt_1 rfl (lv_at hl 1 rfl) ?_
  refine w_call (va_runV (As := [.int t]) (rest := []) ⟨hx, hb, hml, hown, hts⟩ (c_typeAt_N l g h x kl ka ty hd hL t ht s.heap.size) (cwV 1 hts gX4_recordAt_X4_typeAt rfl rfl rfl (by decide +kernel) ⟨Nat.le_of_ble_eq_true rfl, Nat.le_of_ble_eq_true rfl⟩) ⟨pr_blind, w_recv hw hd rfl, pr_of hw⟩ rfl rfl hl.1 rfl (lv_room (Nat.le_of_ble_eq_true rfl)) dX4_recordAt_2 ⟨Nat.le_of_ble_eq_true rfl, Nat.le_of_ble_eq_true rfl⟩) hw (fun v h' H locs hp hw => ?_)
  obtain ⟨rfl, rfl⟩ := hp
  refine W.eq (g2 := F0 m 5 ls [.null]) rfl ?_
  refine lv_astore_nN (lv' := [(3, .null), (0, .ref x), (1, .int t)]) hx hb dX4_recordAt_5 rfl hl (by decide) rfl (fun ls hl => ?_)
  refine lv_aload_nN hx hb dX4_recordAt_6 rfl (lv_at hl 0 rfl) ?_
  refine lv_instN hx hb dX4_recordAt_7 ?_
  refine lv_if_eq (tgt := 22) hx hb dX4_recordAt_10 (by decide) (fun c10 => ?_) (fun c10 => ?_)
  · refine lv_null hx hb dX4_recordAt_22 ?_
    exact r_ref hx hb hr (Or.inl ⟨_, rfl⟩) (Or.inl rfl) hlocks hw dX4_recordAt_23 (Nat.le_of_ble_eq_true rfl) (Nat.le_of_ble_eq_true rfl) (⟨rfl, rfl⟩)
  · exact absurd rfl c10
set_option maxHeartbeats 4000000 in
set_option maxRecDepth 100000 in
theorem c_recordAt_N2 (l : Launch) (g : GG) (h : Nat → Option va_E) (x kl ka : Nat) (ty : List Nat) (hd : h x = some (oDk kl)) (hL : AL g h kl ka ty) (t : Int32) (a : Nat) (b0 b1 b2 b3 b4 : Int32) (ht : lk ty t = some a) (ha : h a = some (oSi b0 b1 b2 b3 b4)) : Con l yX4_recordAt wsX4_recordAt 4 100 0 0 [.ref x, .int t] g h (fun v h' => v = some .null ∧ h = h') := by
  have hT : isTy h a := Or.inr ⟨_, _, _, _, _, ha⟩
  refine m_start (cc := cX4_recordAt) (maxL := 4) (ret := (some (.object "LayoutDesk$Compound"))) (by decide) rfl (Nat.le_of_ble_eq_true rfl) ?_
  intro p e s m below meth c A ls hx hb hr hml hts hown hlocks hin hw hl
  have hl : lv_has ls 4 [(0, .ref x), (1, .int t)] := hl
  have hown : s.vm.findClass RX4 = some m.cls := hown
  refine lv_aload_n hx hb dX4_recordAt_0 rfl (lv_at hl 0 rfl) ?_
  refine lv_iload_n hx hb dX4_recordAt_1 rfl (lv_at hl 1 rfl) ?_
  refine w_call (va_runV (As := [.int t]) (rest := []) ⟨hx, hb, hml, hown, hts⟩ (c_typeAt_S l g h x kl ka ty hd hL t a ht hT s.heap.size) (cwV 1 hts gX4_recordAt_X4_typeAt rfl rfl rfl (by decide +kernel) ⟨Nat.le_of_ble_eq_true rfl, Nat.le_of_ble_eq_true rfl⟩) ⟨pr_blind, w_recv hw hd rfl, pr_of hw⟩ rfl rfl hl.1 rfl (lv_room (Nat.le_of_ble_eq_true rfl)) dX4_recordAt_2 ⟨Nat.le_of_ble_eq_true rfl, Nat.le_of_ble_eq_true rfl⟩) hw (fun v h' H locs hp hw => ?_)
  obtain ⟨rfl, rfl⟩ := hp
  refine W.eq (g2 := F0 m 5 ls [.ref a]) rfl ?_
  refine lv_astore_n (lv' := [(3, .ref a), (0, .ref x), (1, .int t)]) hx hb dX4_recordAt_5 rfl hl (by decide) rfl (fun ls hl => ?_)
  refine lv_aload_n hx hb dX4_recordAt_6 rfl (lv_at hl 0 rfl) ?_
  refine va_instNo (C := RX2) hx hb hown (hts (.classLink RX4 63 "LayoutDesk$Compound") (by decide +kernel)) (w_nc hw (by decide +kernel)) (w_recv hw ha rfl) dX4_recordAt_7 ?_
  refine lv_if_eq (tgt := 22) hx hb dX4_recordAt_10 (by decide) (fun c10 => ?_) (fun c10 => ?_)
  · refine lv_null hx hb dX4_recordAt_22 ?_
    exact r_ref hx hb hr (Or.inl ⟨_, rfl⟩) (Or.inl rfl) hlocks hw dX4_recordAt_23 (Nat.le_of_ble_eq_true rfl) (Nat.le_of_ble_eq_true rfl) (⟨rfl, rfl⟩)
  · exact absurd rfl c10
set_option maxHeartbeats 4000000 in
set_option maxRecDepth 100000 in
theorem c_recordAt_S (l : Launch) (g : GG) (h : Nat → Option va_E) (x kl ka : Nat) (ty : List Nat) (hd : h x = some (oDk kl)) (hL : AL g h kl ka ty) (t : Int32) (a ml : Nat) (by_ al ov op re up fb : Int32) (ht : lk ty t = some a) (ha : h a = some (oCo by_ al ov ml op re up fb)) : Con l yX4_recordAt wsX4_recordAt 4 100 0 0 [.ref x, .int t] g h (fun v h' => v = some (.ref a) ∧ h = h') := by
  have hT : isTy h a := Or.inl ⟨_, _, _, _, _, _, _, _, ha⟩
  refine m_start (cc := cX4_recordAt) (maxL := 4) (ret := (some (.object "LayoutDesk$Compound"))) (by decide) rfl (Nat.le_of_ble_eq_true rfl) ?_
  intro p e s m below meth c A ls hx hb hr hml hts hown hlocks hin hw hl
  have hl : lv_has ls 4 [(0, .ref x), (1, .int t)] := hl
  have hown : s.vm.findClass RX4 = some m.cls := hown
  refine lv_aload_n hx hb dX4_recordAt_0 rfl (lv_at hl 0 rfl) ?_
  refine lv_iload_n hx hb dX4_recordAt_1 rfl (lv_at hl 1 rfl) ?_
  refine w_call (va_runV (As := [.int t]) (rest := []) ⟨hx, hb, hml, hown, hts⟩ (c_typeAt_S l g h x kl ka ty hd hL t a ht hT s.heap.size) (cwV 1 hts gX4_recordAt_X4_typeAt rfl rfl rfl (by decide +kernel) ⟨Nat.le_of_ble_eq_true rfl, Nat.le_of_ble_eq_true rfl⟩) ⟨pr_blind, w_recv hw hd rfl, pr_of hw⟩ rfl rfl hl.1 rfl (lv_room (Nat.le_of_ble_eq_true rfl)) dX4_recordAt_2 ⟨Nat.le_of_ble_eq_true rfl, Nat.le_of_ble_eq_true rfl⟩) hw (fun v h' H locs hp hw => ?_)
  obtain ⟨rfl, rfl⟩ := hp
  refine W.eq (g2 := F0 m 5 ls [.ref a]) rfl ?_
  refine lv_astore_n (lv' := [(3, .ref a), (0, .ref x), (1, .int t)]) hx hb dX4_recordAt_5 rfl hl (by decide) rfl (fun ls hl => ?_)
  refine lv_aload_n hx hb dX4_recordAt_6 rfl (lv_at hl 0 rfl) ?_
  refine va_instY (C := RX0) hx hb hown (hts (.classLink RX4 63 "LayoutDesk$Compound") (by decide +kernel)) (w_nwN hw (by decide +kernel)) (w_recv hw ha rfl) dX4_recordAt_7 ?_
  refine lv_if_eq (tgt := 22) hx hb dX4_recordAt_10 (by decide) (fun c10 => ?_) (fun c10 => ?_)
  · exact absurd c10 (by decide)
  · refine lv_aload_n hx hb dX4_recordAt_13 rfl (lv_at hl 0 rfl) ?_
    refine va_castY (C := RX0) hx hb hown (hts (.classLink RX4 63 "LayoutDesk$Compound") (by decide +kernel)) (w_nwN hw (by decide +kernel)) (w_recv hw ha rfl) dX4_recordAt_14 ?_
    refine lv_astore_n (lv' := [(2, .ref a), (3, .ref a), (0, .ref x), (1, .int t)]) hx hb dX4_recordAt_17 rfl hl (by decide) rfl (fun ls hl => ?_)
    refine lv_aload_n hx hb dX4_recordAt_18 rfl (lv_at hl 0 rfl) ?_
    refine lv_goto (tgt := 23) hx hb dX4_recordAt_19 (by decide) ?_
    exact r_ref hx hb hr (Or.inl ⟨_, rfl⟩) (Or.inr ⟨_, rfl⟩) hlocks hw dX4_recordAt_23 (Nat.le_of_ble_eq_true rfl) (Nat.le_of_ble_eq_true rfl) (⟨rfl, rfl⟩)
/-- no record at t -/
def noRec (h : Nat → Option va_E) (ty : List Nat) (t : Int32) : Prop := lk ty t = none ∨ ∃ (a : Nat) (b0 b1 b2 b3 b4 : Int32), lk ty t = some a ∧ h a = some (oSi b0 b1 b2 b3 b4)
theorem c_recordAt_N (l : Launch) (g : GG) (h : Nat → Option va_E) (x kl ka : Nat) (ty : List Nat) (hd : h x = some (oDk kl)) (hL : AL g h kl ka ty) (t : Int32) (ht : noRec h ty t) : Con l yX4_recordAt wsX4_recordAt 4 100 0 0 [.ref x, .int t] g h (fun v h' => v = some .null ∧ h = h') := by
  rcases ht with ht | ⟨a, b0, b1, b2, b3, b4, h1, h2⟩
  · exact c_recordAt_N1 l g h x kl ka ty hd hL t ht
  · exact c_recordAt_N2 l g h x kl ka ty hd hL t a b0 b1 b2 b3 b4 h1 h2
/-- no open record at t -/
def noOpen (h : Nat → Option va_E) (ty : List Nat) (t : Int32) : Prop := noRec h ty t ∨ ∃ (a ml : Nat) (by_ al ov re up fb : Int32), lk ty t = some a ∧ h a = some (oCo by_ al ov ml 0 re up fb)
set_option maxHeartbeats 4000000 in
set_option maxRecDepth 100000 in
theorem c_open_N1 (l : Launch) (g : GG) (h : Nat → Option va_E) (x kl ka : Nat) (ty : List Nat) (hd : h x = some (oDk kl)) (hL : AL g h kl ka ty) (t : Int32) (ht : noRec h ty t) : Con l yX4_openRecordAt wsX4_openRecordAt 5 130 0 0 [.ref x, .int t] g h (fun v h' => v = some .null ∧ h = h') := by
  refine m_start (cc := cX4_openRecordAt) (maxL := 3) (ret := (some (.object "LayoutDesk$Compound"))) (by decide) rfl (Nat.le_of_ble_eq_true rfl) ?_
  intro p e s m below meth c A ls hx hb hr hml hts hown hlocks hin hw hl
  have hl : lv_has ls 3 [(0, .ref x), (1, .int t)] := hl
  have hown : s.vm.findClass RX4 = some m.cls := hown
  refine lv_aload_n hx hb dX4_openRecordAt_0 rfl (lv_at hl 0 rfl) ?_
  refine lv_iload_n hx hb dX4_openRecordAt_1 rfl (lv_at hl 1 rfl) ?_
  refine w_call (va_runV (As := [.int t]) (rest := []) ⟨hx, hb, hml, hown, hts⟩ (c_recordAt_N l g h x kl ka ty hd hL t ht s.heap.size) (cwV 1 hts gX4_openRecordAt_X4_recordAt rfl rfl rfl (by decide +kernel) ⟨Nat.le_of_ble_eq_true rfl, Nat.le_of_ble_eq_true rfl⟩) ⟨pr_blind, w_recv hw hd rfl, pr_of hw⟩ rfl rfl hl.1 rfl (lv_room (Nat.le_of_ble_eq_true rfl)) dX4_openRecordAt_2 ⟨Nat.le_of_ble_eq_true rfl, Nat.le_of_ble_eq_true rfl⟩) hw (fun v h' H locs hp hw => ?_)
  obtain ⟨rfl, rfl⟩ := hp
  refine W.eq (g2 := F0 m 5 ls [.null]) rfl ?_
  refine lv_astore_nN (lv' := [(2, .null), (0, .ref x), (1, .int t)]) hx hb dX4_openRecordAt_5 rfl hl (by decide) rfl (fun ls hl => ?_)
  refine lv_aload_nN hx hb dX4_openRecordAt_6 rfl (lv_at hl 0 rfl) ?_
  refine lv_ifnullN (tgt := 21) hx hb dX4_openRecordAt_7 (by decide) ?_
  refine lv_null hx hb dX4_openRecordAt_21 ?_
  exact r_ref hx hb hr (Or.inl ⟨_, rfl⟩) (Or.inl rfl) hlocks hw dX4_openRecordAt_22 (Nat.le_of_ble_eq_true rfl) (Nat.le_of_ble_eq_true rfl) (⟨rfl, rfl⟩)
theorem in_X4_openRecordAt_1 : ∀ w ∈ u_ws RX0 TX0 8, w ∈ wsX4_openRecordAt := by decide +kernel
set_option maxHeartbeats 4000000 in
set_option maxRecDepth 100000 in
theorem c_open_N2 (l : Launch) (g : GG) (h : Nat → Option va_E) (x kl ka : Nat) (ty : List Nat) (hd : h x = some (oDk kl)) (hL : AL g h kl ka ty) (t : Int32) (a ml : Nat) (by_ al ov op re up fb : Int32) (ht : lk ty t = some a) (ha : h a = some (oCo by_ al ov ml op re up fb)) (ho : op = 0) : Con l yX4_openRecordAt wsX4_openRecordAt 5 130 0 0 [.ref x, .int t] g h (fun v h' => v = some .null ∧ h = h') := by
  refine m_start (cc := cX4_openRecordAt) (maxL := 3) (ret := (some (.object "LayoutDesk$Compound"))) (by decide) rfl (Nat.le_of_ble_eq_true rfl) ?_
  intro p e s m below meth c A ls hx hb hr hml hts hown hlocks hin hw hl
  have hl : lv_has ls 3 [(0, .ref x), (1, .int t)] := hl
  have hown : s.vm.findClass RX4 = some m.cls := hown
  refine lv_aload_n hx hb dX4_openRecordAt_0 rfl (lv_at hl 0 rfl) ?_
  refine lv_iload_n hx hb dX4_openRecordAt_1 rfl (lv_at hl 1 rfl) ?_
  refine w_call (va_runV (As := [.int t]) (rest := []) ⟨hx, hb, hml, hown, hts⟩ (c_recordAt_S l g h x kl ka ty hd hL t a ml by_ al ov op re up fb ht ha s.heap.size) (cwV 1 hts gX4_openRecordAt_X4_recordAt rfl rfl rfl (by decide +kernel) ⟨Nat.le_of_ble_eq_true rfl, Nat.le_of_ble_eq_true rfl⟩) ⟨pr_blind, w_recv hw hd rfl, pr_of hw⟩ rfl rfl hl.1 rfl (lv_room (Nat.le_of_ble_eq_true rfl)) dX4_openRecordAt_2 ⟨Nat.le_of_ble_eq_true rfl, Nat.le_of_ble_eq_true rfl⟩) hw (fun v h' H locs hp hw => ?_)
  obtain ⟨rfl, rfl⟩ := hp
  refine W.eq (g2 := F0 m 5 ls [.ref a]) rfl ?_
  refine lv_astore_n (lv' := [(2, .ref a), (0, .ref x), (1, .int t)]) hx hb dX4_openRecordAt_5 rfl hl (by decide) rfl (fun ls hl => ?_)
  refine lv_aload_n hx hb dX4_openRecordAt_6 rfl (lv_at hl 0 rfl) ?_
  refine lv_ifnull hx hb dX4_openRecordAt_7 ?_
  refine lv_aload_n hx hb dX4_openRecordAt_10 rfl (lv_at hl 0 rfl) ?_
  refine w_getN (ci := 1) (C := RX0) (T := TX0) (N := 8) (ref := "LayoutDesk$Compound") hx hb hts in_X4_openRecordAt_1 hown hw ha rfl 4 (by decide) (w_nw hw (w := .fieldLinkNest "LayoutDesk" 124 "LayoutDesk$Compound" "open" "Z" "LayoutDesk") (by decide +kernel)) (fun _ h9 => h9) rfl dX4_openRecordAt_11 ?_
  refine lv_if_eq (tgt := 21) hx hb dX4_openRecordAt_14 (by decide) (fun c14 => ?_) (fun c14 => ?_)
  · refine lv_null hx hb dX4_openRecordAt_21 ?_
    exact r_ref hx hb hr (Or.inl ⟨_, rfl⟩) (Or.inl rfl) hlocks hw dX4_openRecordAt_22 (Nat.le_of_ble_eq_true rfl) (Nat.le_of_ble_eq_true rfl) (⟨rfl, rfl⟩)
  · exact absurd ho c14
set_option maxHeartbeats 4000000 in
set_option maxRecDepth 100000 in
theorem c_open_S (l : Launch) (g : GG) (h : Nat → Option va_E) (x kl ka : Nat) (ty : List Nat) (hd : h x = some (oDk kl)) (hL : AL g h kl ka ty) (t : Int32) (a ml : Nat) (by_ al ov op re up fb : Int32) (ht : lk ty t = some a) (ha : h a = some (oCo by_ al ov ml op re up fb)) (ho : op = 1) : Con l yX4_openRecordAt wsX4_openRecordAt 5 130 0 0 [.ref x, .int t] g h (fun v h' => v = some (.ref a) ∧ h = h') := by
  refine m_start (cc := cX4_openRecordAt) (maxL := 3) (ret := (some (.object "LayoutDesk$Compound"))) (by decide) rfl (Nat.le_of_ble_eq_true rfl) ?_
  intro p e s m below meth c A ls hx hb hr hml hts hown hlocks hin hw hl
  have hl : lv_has ls 3 [(0, .ref x), (1, .int t)] := hl
  have hown : s.vm.findClass RX4 = some m.cls := hown
  refine lv_aload_n hx hb dX4_openRecordAt_0 rfl (lv_at hl 0 rfl) ?_
  refine lv_iload_n hx hb dX4_openRecordAt_1 rfl (lv_at hl 1 rfl) ?_
  refine w_call (va_runV (As := [.int t]) (rest := []) ⟨hx, hb, hml, hown, hts⟩ (c_recordAt_S l g h x kl ka ty hd hL t a ml by_ al ov op re up fb ht ha s.heap.size) (cwV 1 hts gX4_openRecordAt_X4_recordAt rfl rfl rfl (by decide +kernel) ⟨Nat.le_of_ble_eq_true rfl, Nat.le_of_ble_eq_true rfl⟩) ⟨pr_blind, w_recv hw hd rfl, pr_of hw⟩ rfl rfl hl.1 rfl (lv_room (Nat.le_of_ble_eq_true rfl)) dX4_openRecordAt_2 ⟨Nat.le_of_ble_eq_true rfl, Nat.le_of_ble_eq_true rfl⟩) hw (fun v h' H locs hp hw => ?_)
  obtain ⟨rfl, rfl⟩ := hp
  refine W.eq (g2 := F0 m 5 ls [.ref a]) rfl ?_
  refine lv_astore_n (lv' := [(2, .ref a), (0, .ref x), (1, .int t)]) hx hb dX4_openRecordAt_5 rfl hl (by decide) rfl (fun ls hl => ?_)
  refine lv_aload_n hx hb dX4_openRecordAt_6 rfl (lv_at hl 0 rfl) ?_
  refine lv_ifnull hx hb dX4_openRecordAt_7 ?_
  refine lv_aload_n hx hb dX4_openRecordAt_10 rfl (lv_at hl 0 rfl) ?_
  refine w_getN (ci := 1) (C := RX0) (T := TX0) (N := 8) (ref := "LayoutDesk$Compound") hx hb hts in_X4_openRecordAt_1 hown hw ha rfl 4 (by decide) (w_nw hw (w := .fieldLinkNest "LayoutDesk" 124 "LayoutDesk$Compound" "open" "Z" "LayoutDesk") (by decide +kernel)) (fun _ h9 => h9) rfl dX4_openRecordAt_11 ?_
  refine lv_if_eq (tgt := 21) hx hb dX4_openRecordAt_14 (by decide) (fun c14 => ?_) (fun c14 => ?_)
  · exact absurd (ho.symm.trans c14) (by decide)
  · refine lv_aload_n hx hb dX4_openRecordAt_17 rfl (lv_at hl 0 rfl) ?_
    refine lv_goto (tgt := 22) hx hb dX4_openRecordAt_18 (by decide) ?_
    exact r_ref hx hb hr (Or.inl ⟨_, rfl⟩) (Or.inr ⟨_, rfl⟩) hlocks hw dX4_openRecordAt_22 (Nat.le_of_ble_eq_true rfl) (Nat.le_of_ble_eq_true rfl) (⟨rfl, rfl⟩)
theorem c_open_N (l : Launch) (g : GG) (h : Nat → Option va_E) (x kl ka : Nat) (ty : List Nat) (hd : h x = some (oDk kl)) (hL : AL g h kl ka ty) (t : Int32) (ht : noOpen h ty t) : Con l yX4_openRecordAt wsX4_openRecordAt 5 130 0 0 [.ref x, .int t] g h (fun v h' => v = some .null ∧ h = h') := by
  rcases ht with ht | ⟨a, ml, by_, al, ov, re, up, fb, h1, h2⟩
  · exact c_open_N1 l g h x kl ka ty hd hL t ht
  · exact c_open_N2 l g h x kl ka ty hd hL t a ml by_ al ov 0 re up fb h1 h2 rfl
theorem in_X4_find_4 : ∀ w ∈ u_ws RX4 TX4 1, w ∈ wsX4_find := by decide +kernel
set_option maxHeartbeats 4000000 in
set_option maxRecDepth 100000 in
theorem find_loop {p : Program} {e : Env} {s : State} {m : MethodId} {below : List Frame} {meth : Method} {c : Code} {A : Nat → Prop} (l : Launch) (g : GG) (h : Nat → Option va_E) (x kl ka : Nat) (ty : List Nat) (hd : h x = some (oDk kl)) (hL : AL g h kl ka ty) (k2 b2 n2 : Int32) (hT : ∀ a ∈ ty, isTy h a) (hx : p.tables.exec = Jvm.exec) (hb : c.code = cX4_find) (hr : meth.sig.returnType = (some .int)) (hml : c.maxLocals = 7) (hts : ∀ w ∈ wsX4_find, w.before ([.ref x, .int k2, .int b2, .int n2] : List Value).toArray s = true) (hown : s.vm.findClass RX4 = some m.cls) (hlocks : meth.locks = false) :
    ∀ (n i : Nat), i + n = ty.length → (∀ j a : Nat, j < i → ty[j]? = some a → ¬ mt h k2 b2 n2 a) → ∀ (H : Heap) (locs : List Loc) (ls : Array Slot), wd g A s h H locs → lv_has ls 7 [(4, .int (nI i)), (0, .ref x), (1, .int k2), (2, .int b2), (3, .int n2)] → W p l e { frames := 3, cells := 0, slots := 0, locals := 70 } s m ([.ref x, .int k2, .int b2, .int n2] : List Value).toArray below meth c H locs 0 0 (MQ below (cQ g A (fun v h' => h = h' ∧ ((∃ i, i < ty.length ∧ v = some (.int (nI i)) ∧ (∃ a, ty[i]? = some a ∧ mt h k2 b2 n2 a) ∧ ∀ j, j < i → ∀ a, ty[j]? = some a → ¬ mt h k2 b2 n2 a) ∨ (v = some (.int (-1)) ∧ ∀ j a : Nat, ty[j]? = some a → ¬ mt h k2 b2 n2 a)))) ([.ref x, .int k2, .int b2, .int n2] : List Value).toArray s 0 0 A) (F0 m 3 ls []) := by
  have hn9 := AL_len hL
  obtain ⟨⟨mc, hk0⟩, -, -⟩ := id hL
  intro n
  induction n with
  | zero =>
    intro i hi hnone H locs ls hw hl
    refine lv_iload hx hb dX4_find_3 (lv_at hl 0 rfl) ?_
    refine lv_aload_n hx hb dX4_find_5 rfl (lv_at hl 1 rfl) ?_
    refine w_get (ci := 4) (C := RX4) (T := TX4) (N := 1) (ref := "LayoutDesk") hx hb hts in_X4_find_4 hown hw hd rfl 0 (by decide) (hts (.fieldLink RX4 10 "LayoutDesk" "known" "Ljava/util/ArrayList;") (by decide +kernel)) (fun _ h9 => h9) rfl dX4_find_6 ?_
    refine w_call (va_runV (As := []) (rest := [.int (nI i)]) ⟨hx, hb, hml, hown, hts⟩ (c_sizeL l g h kl ka ty hL H.size) (cwV 0 hts gX4_find_Jx4a65c_size_8abf5 rfl rfl rfl (by decide +kernel) ⟨Nat.le_of_ble_eq_true rfl, Nat.le_of_ble_eq_true rfl⟩) ⟨pr_blind, w_recv hw hk0 rfl, pr_of hw⟩ rfl rfl hl.1 rfl (lv_room (Nat.le_of_ble_eq_true rfl)) dX4_find_9 ⟨Nat.le_of_ble_eq_true rfl, Nat.le_of_ble_eq_true rfl⟩) hw (fun v h' H locs hp hw => ?_)
    obtain ⟨rfl, rfl⟩ := hp
    refine W.eq (g2 := F0 m 12 ls [.int (nI ty.length), .int (nI i)]) rfl ?_
    refine lv_icmp_ge (tgt := 61) hx hb dX4_find_12 (by decide) (fun c12 => ?_) (fun c12 => ?_)
    · refine lv_iconst (v := (-1)) hx hb dX4_find_61 (by decide) ?_
      exact r_int hx hb hr hlocks hw dX4_find_62 (Nat.le_of_ble_eq_true rfl) (Nat.le_of_ble_eq_true rfl) (⟨rfl, Or.inr ⟨rfl, fun j a ha => hnone j a (by have := (List.getElem?_eq_some_iff.mp ha).1; omega) ha⟩⟩)
    · exact absurd (nI_le (by omega) (by omega)) c12
  | succ n ih =>
    intro i hi hnone H locs ls hw hl
    refine lv_iload hx hb dX4_find_3 (lv_at hl 0 rfl) ?_
    refine lv_aload_n hx hb dX4_find_5 rfl (lv_at hl 1 rfl) ?_
    refine w_get (ci := 4) (C := RX4) (T := TX4) (N := 1) (ref := "LayoutDesk") hx hb hts in_X4_find_4 hown hw hd rfl 0 (by decide) (hts (.fieldLink RX4 10 "LayoutDesk" "known" "Ljava/util/ArrayList;") (by decide +kernel)) (fun _ h9 => h9) rfl dX4_find_6 ?_
    refine w_call (va_runV (As := []) (rest := [.int (nI i)]) ⟨hx, hb, hml, hown, hts⟩ (c_sizeL l g h kl ka ty hL H.size) (cwV 0 hts gX4_find_Jx4a65c_size_8abf5 rfl rfl rfl (by decide +kernel) ⟨Nat.le_of_ble_eq_true rfl, Nat.le_of_ble_eq_true rfl⟩) ⟨pr_blind, w_recv hw hk0 rfl, pr_of hw⟩ rfl rfl hl.1 rfl (lv_room (Nat.le_of_ble_eq_true rfl)) dX4_find_9 ⟨Nat.le_of_ble_eq_true rfl, Nat.le_of_ble_eq_true rfl⟩) hw (fun v h' H locs hp hw => ?_)
    obtain ⟨rfl, rfl⟩ := hp
    refine W.eq (g2 := F0 m 12 ls [.int (nI ty.length), .int (nI i)]) rfl ?_
    refine lv_icmp_ge (tgt := 61) hx hb dX4_find_12 (by decide) (fun c12 => ?_) (fun c12 => ?_)
    · exact absurd ((nI_leI (by omega) (by omega)).mp c12) (by omega)
    · obtain ⟨a, ha9⟩ : ∃ a, ty[i]? = some a := ⟨ty[i], List.getElem?_eq_getElem (by omega)⟩
      refine lv_aload_n hx hb dX4_find_15 rfl (lv_at hl 1 rfl) ?_
      refine w_get (ci := 4) (C := RX4) (T := TX4) (N := 1) (ref := "LayoutDesk") hx hb hts in_X4_find_4 hown hw hd rfl 0 (by decide) (hts (.fieldLink RX4 10 "LayoutDesk" "known" "Ljava/util/ArrayList;") (by decide +kernel)) (fun _ h9 => h9) rfl dX4_find_16 ?_
      refine lv_iload hx hb dX4_find_19 (lv_at hl 0 rfl) ?_
      refine w_call (va_runV (As := [.int (nI i)]) (rest := []) ⟨hx, hb, hml, hown, hts⟩ (c_getL l g h kl ka ty hL (nI i) a ((lk_nI (by omega)).trans ha9) H.size) (cwV 1 hts gX4_find_Jx4a65c_get_915e3 rfl rfl rfl (by decide +kernel) ⟨Nat.le_of_ble_eq_true rfl, Nat.le_of_ble_eq_true rfl⟩) ⟨pr_blind, w_recv hw hk0 rfl, pr_of hw⟩ rfl rfl hl.1 rfl (lv_room (Nat.le_of_ble_eq_true rfl)) dX4_find_21 ⟨Nat.le_of_ble_eq_true rfl, Nat.le_of_ble_eq_true rfl⟩) hw (fun v h' H locs hp hw => ?_)
      obtain ⟨rfl, rfl⟩ := hp
      refine W.eq (g2 := F0 m 24 ls [.ref a]) rfl ?_
      refine lv_astore (lv' := [(6, .ref a), (4, .int (nI i)), (0, .ref x), (1, .int k2), (2, .int b2), (3, .int n2)]) hx hb dX4_find_24 hl (by decide) rfl (fun ls hl => ?_)
      refine lv_aload hx hb dX4_find_26 (lv_at hl 0 rfl) ?_
      rcases hT a (List.mem_of_getElem? ha9) with ⟨c0, c1, c2, c3, c4, c5, c6, c7, ha⟩ | ⟨b0, b1, ki, ba, le, ha⟩
      · have hno : ¬ mt h k2 b2 n2 a := mt_co ha
        refine va_instNo (C := RX0) hx hb hown (hts (.classLink RX4 20 "LayoutDesk$Simple") (by decide +kernel)) (w_nc hw (by decide +kernel)) (w_recv hw ha rfl) dX4_find_28 ?_
        refine lv_if_eq (tgt := 55) hx hb dX4_find_31 (by decide) (fun c31 => ?_) (fun c31 => ?_)
        · obtain ⟨z55, ez55⟩ : ∃ y : Int32, y = (nI i) + 1 := ⟨_, rfl⟩
          refine lv_iinc (v := z55) (lv' := [(4, .int z55), (6, .ref a), (0, .ref x), (1, .int k2), (2, .int b2), (3, .int n2)]) hx hb dX4_find_55 hl (k := 1) rfl (by rw [ez55]; rfl) (by decide) rfl (fun ls hl => ?_)
          refine lv_goto (tgt := 3) hx hb dX4_find_58 (by decide) ?_
          have hnext : ∀ j a : Nat, j < i + 1 → ty[j]? = some a → ¬ mt h k2 b2 n2 a := by
            intro j a2 hj ha2
            rcases Nat.lt_or_ge j i with z | z
            · exact hnone j a2 z ha2
            · have e9 : j = i := by omega
              subst e9
              rw [ha9] at ha2
              cases ha2
              exact hno
          have ez : z55 = nI (i + 1) := ez55.trans (nI_1 i)
          subst ez
          exact ih (i + 1) (by omega) hnext _ _ ls hw (lv_sub hl [0, 2, 3, 4, 5] rfl)
        · exact absurd rfl c31
      · refine va_instY (C := RX2) hx hb hown (hts (.classLink RX4 20 "LayoutDesk$Simple") (by decide +kernel)) (w_nwN hw (by decide +kernel)) (w_recv hw ha rfl) dX4_find_28 ?_
        refine lv_if_eq (tgt := 55) hx hb dX4_find_31 (by decide) (fun c31 => ?_) (fun c31 => ?_)
        · exact absurd c31 (by decide)
        · refine lv_aload hx hb dX4_find_34 (lv_at hl 0 rfl) ?_
          refine va_castY (C := RX2) hx hb hown (hts (.classLink RX4 20 "LayoutDesk$Simple") (by decide +kernel)) (w_nwN hw (by decide +kernel)) (w_recv hw ha rfl) dX4_find_36 ?_
          refine lv_astore (lv' := [(5, .ref a), (6, .ref a), (4, .int (nI i)), (0, .ref x), (1, .int k2), (2, .int b2), (3, .int n2)]) hx hb dX4_find_39 hl (by decide) rfl (fun ls hl => ?_)
          refine lv_aload hx hb dX4_find_41 (lv_at hl 0 rfl) ?_
          refine lv_iload_n hx hb dX4_find_43 rfl (lv_at hl 4 rfl) ?_
          refine lv_iload_n hx hb dX4_find_44 rfl (lv_at hl 5 rfl) ?_
          refine lv_iload_n hx hb dX4_find_45 rfl (lv_at hl 6 rfl) ?_
          refine w_call (va_runV (As := [.int k2, .int b2, .int n2]) (rest := []) ⟨hx, hb, hml, hown, hts⟩ (c_isMadeFrom l g h a b0 b1 ki ba le k2 b2 n2 ha H.size) (cwV 3 hts gX4_find_X2_isMadeFrom rfl rfl rfl (by decide +kernel) ⟨Nat.le_of_ble_eq_true rfl, Nat.le_of_ble_eq_true rfl⟩) ⟨pr_blind, w_recv hw ha rfl, pr_of hw⟩ rfl rfl hl.1 rfl (lv_room (Nat.le_of_ble_eq_true rfl)) dX4_find_46 ⟨Nat.le_of_ble_eq_true rfl, Nat.le_of_ble_eq_true rfl⟩) hw (fun v h' H locs hp hw => ?_)
          obtain ⟨rfl, rfl⟩ := hp
          refine W.eq (g2 := F0 m 49 ls [.int (if ki = k2 ∧ ba = b2 ∧ le = n2 then 1 else 0)]) rfl ?_
          refine lv_if_eq (tgt := 55) hx hb dX4_find_49 (by decide) (fun c49 => ?_) (fun c49 => ?_)
          · have hno : ¬ mt h k2 b2 n2 a := mt_si ha (fun z => by rw [if_pos z] at c49; exact absurd c49 (by decide))
            obtain ⟨z55, ez55⟩ : ∃ y : Int32, y = (nI i) + 1 := ⟨_, rfl⟩
            refine lv_iinc (v := z55) (lv' := [(4, .int z55), (5, .ref a), (6, .ref a), (0, .ref x), (1, .int k2), (2, .int b2), (3, .int n2)]) hx hb dX4_find_55 hl (k := 2) rfl (by rw [ez55]; rfl) (by decide) rfl (fun ls hl => ?_)
            refine lv_goto (tgt := 3) hx hb dX4_find_58 (by decide) ?_
            have hnext : ∀ j a : Nat, j < i + 1 → ty[j]? = some a → ¬ mt h k2 b2 n2 a := by
              intro j a2 hj ha2
              rcases Nat.lt_or_ge j i with z | z
              · exact hnone j a2 z ha2
              · have e9 : j = i := by omega
                subst e9
                rw [ha9] at ha2
                cases ha2
                exact hno
            have ez : z55 = nI (i + 1) := ez55.trans (nI_1 i)
            subst ez
            exact ih (i + 1) (by omega) hnext _ _ ls hw (lv_sub hl [0, 3, 4, 5, 6] rfl)
          · have hyes : mt h k2 b2 n2 a := by
              by_cases z : ki = k2 ∧ ba = b2 ∧ le = n2
              · obtain ⟨z1, z2, z3⟩ := z
                subst z1 z2 z3
                exact ⟨_, _, ha⟩
              · rw [if_neg z] at c49
                exact absurd rfl c49
            refine lv_iload hx hb dX4_find_52 (lv_at hl 2 rfl) ?_
            exact r_int hx hb hr hlocks hw dX4_find_54 (Nat.le_of_ble_eq_true rfl) (Nat.le_of_ble_eq_true rfl) (⟨rfl, Or.inl ⟨i, by omega, rfl, ⟨a, ha9, hyes⟩, fun j hj a ha => hnone j a hj ha⟩⟩)
set_option maxHeartbeats 4000000 in
set_option maxRecDepth 100000 in
theorem c_find (l : Launch) (g : GG) (h : Nat → Option va_E) (x kl ka : Nat) (ty : List Nat) (hd : h x = some (oDk kl)) (hL : AL g h kl ka ty) (k2 b2 n2 : Int32) (hT : ∀ a ∈ ty, isTy h a) : Con l yX4_find wsX4_find 3 70 0 0 [.ref x, .int k2, .int b2, .int n2] g h (fun v h' => h = h' ∧ ((∃ i, i < ty.length ∧ v = some (.int (nI i)) ∧ (∃ a, ty[i]? = some a ∧ mt h k2 b2 n2 a) ∧ ∀ j, j < i → ∀ a, ty[j]? = some a → ¬ mt h k2 b2 n2 a) ∨ (v = some (.int (-1)) ∧ ∀ j a : Nat, ty[j]? = some a → ¬ mt h k2 b2 n2 a))) := by
  refine m_start (cc := cX4_find) (maxL := 7) (ret := (some .int)) (by decide) rfl (Nat.le_of_ble_eq_true rfl) ?_
  intro p e s m below meth c A ls hx hb hr hml hts hown hlocks hin hw hl
  have hl : lv_has ls 7 [(0, .ref x), (1, .int k2), (2, .int b2), (3, .int n2)] := hl
  have hown : s.vm.findClass RX4 = some m.cls := hown
  refine lv_iconst (v := 0) hx hb dX4_find_0 (by decide) ?_
  refine lv_istore (lv' := [(4, .int 0), (0, .ref x), (1, .int k2), (2, .int b2), (3, .int n2)]) hx hb dX4_find_1 hl (by decide) rfl (fun ls hl => ?_)
  exact find_loop l g h x kl ka ty hd hL k2 b2 n2 hT hx hb hr hml hts hown hlocks ty.length 0 (by omega) (fun j a hj => absurd hj (Nat.not_lt_zero j)) _ _ ls hw (lv_sub hl [0, 1, 2, 3, 4] rfl)
