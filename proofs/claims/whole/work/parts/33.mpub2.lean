/-! the model: pointer, array, record, separate, finish -/
set_option maxHeartbeats 4000000 in
set_option maxRecDepth 100000 in
theorem m_pointer_N (l : Launch) (g : GG) (h : Nat → Option va_E) (mo : Nat) (S : List TyS) (N : Nat) (hR : MR g h mo S) (hS : wfS N S) (t : Int32) (ht : lk S t = none) : Con l yX7_pointer wsX7_pointer 8 192 3 810 [.ref mo, .int t] g h (fun v h' => v = some (.int (fPtr S t).1) ∧ MR g h' mo (fPtr S t).2) := by
  obtain ⟨tl, ta, ty, al, aa, ab, P, hR0⟩ := hR
  obtain ⟨⟨mem, rea, ali, hm⟩, hs, hd, hz9, hG, hlen, -⟩ := id hR0
  have hL := hG.1
  have hn9 := AL_len hL
  obtain ⟨⟨mck, hk0⟩, -, -⟩ := id hL
  have htn := MR_lkN hR0 ht
  refine m_start (cc := cX7_pointer) (maxL := 3) (ret := (some .int)) (by decide) rfl (Nat.le_of_ble_eq_true rfl) ?_
  intro p e s m below meth c A ls hx hb hr hml hts hown hlocks hin hw hl
  have hl : lv_has ls 3 [(0, .ref mo), (1, .int t)] := hl
  have hown : s.vm.findClass RX7 = some m.cls := hown
  refine lv_aload_n hx hb dX7_pointer_0 rfl (lv_at hl 0 rfl) ?_
  refine lv_iload_n hx hb dX7_pointer_1 rfl (lv_at hl 1 rfl) ?_
  refine w_call (va_runV (As := [.int t]) (rest := []) ⟨hx, hb, hml, hown, hts⟩ (c_there_N l g h mo tl ta P.1 P.2.1 P.2.2.1 P.2.2.2 mem rea ali ty hm hL t htn s.heap.size) (cwV 1 hts gX7_pointer_X7_there rfl rfl rfl (by decide +kernel) ⟨Nat.le_of_ble_eq_true rfl, Nat.le_of_ble_eq_true rfl⟩) ⟨pr_blind, w_recv hw hm rfl, pr_of hw⟩ rfl rfl hl.1 rfl (lv_room (Nat.le_of_ble_eq_true rfl)) dX7_pointer_2 ⟨Nat.le_of_ble_eq_true rfl, Nat.le_of_ble_eq_true rfl⟩) hw (fun v h' H locs hp hw => ?_)
  obtain ⟨rfl, rfl⟩ := hp
  refine W.eq (g2 := F0 m 5 ls [.int 0]) rfl ?_
  refine lv_if_ne (tgt := 10) hx hb dX7_pointer_5 (by decide) (fun c5 => ?_) (fun c5 => ?_)
  · exact absurd rfl c5
  · refine lv_iconst (v := (-1)) hx hb dX7_pointer_8 (by decide) ?_
    have e9 : fPtr S t = (-1, S) := by simp [fPtr, ht]
    exact r_int hx hb hr hlocks hw dX7_pointer_9 (Nat.le_of_ble_eq_true rfl) (Nat.le_of_ble_eq_true rfl) (⟨by rw [e9], by rw [e9]; exact ⟨tl, ta, ty, al, aa, ab, P, hR0⟩⟩)
theorem in_X7_pointer_6 : ∀ w ∈ u_ws RX6 TX6 7, w ∈ wsX7_pointer := by decide +kernel
theorem in_X7_pointer_7 : ∀ w ∈ u_ws RX7 TX7 8, w ∈ wsX7_pointer := by decide +kernel
set_option maxHeartbeats 4000000 in
set_option maxRecDepth 100000 in
theorem m_pointer_S (l : Launch) (g : GG) (h : Nat → Option va_E) (mo : Nat) (S : List TyS) (N : Nat) (hR : MR g h mo S) (hS : wfS N S) (t : Int32) (T : TyS) (ht : lk S t = some T) : Con l yX7_pointer wsX7_pointer 8 192 3 810 [.ref mo, .int t] g h (fun v h' => v = some (.int (fPtr S t).1) ∧ MR g h' mo (fPtr S t).2) := by
  obtain ⟨tl, ta, ty, al, aa, ab, P, hR0⟩ := hR
  obtain ⟨⟨mem, rea, ali, hm⟩, hs, hd, hz9, hG, hlen, -⟩ := id hR0
  have hL := hG.1
  have hn9 := AL_len hL
  obtain ⟨⟨mck, hk0⟩, -, -⟩ := id hL
  obtain ⟨a, ha1, ha2, ha3, hc⟩ := MR_lk hR0 ht
  have ha := hc.1
  obtain ⟨hw1, hw2, hw3, hw4, hw5, hw6, hw7, hw8⟩ := (hS.2.2 _ _ ha3).1
  refine m_start (cc := cX7_pointer) (maxL := 3) (ret := (some .int)) (by decide) rfl (Nat.le_of_ble_eq_true rfl) ?_
  intro p e s m below meth c A ls hx hb hr hml hts hown hlocks hin hw hl
  have hl : lv_has ls 3 [(0, .ref mo), (1, .int t)] := hl
  have hown : s.vm.findClass RX7 = some m.cls := hown
  refine lv_aload_n hx hb dX7_pointer_0 rfl (lv_at hl 0 rfl) ?_
  refine lv_iload_n hx hb dX7_pointer_1 rfl (lv_at hl 1 rfl) ?_
  refine w_call (va_runV (As := [.int t]) (rest := []) ⟨hx, hb, hml, hown, hts⟩ (c_there_S l g h mo tl ta P.1 P.2.1 P.2.2.1 P.2.2.2 mem rea ali ty hm hL t a ha1 s.heap.size) (cwV 1 hts gX7_pointer_X7_there rfl rfl rfl (by decide +kernel) ⟨Nat.le_of_ble_eq_true rfl, Nat.le_of_ble_eq_true rfl⟩) ⟨pr_blind, w_recv hw hm rfl, pr_of hw⟩ rfl rfl hl.1 rfl (lv_room (Nat.le_of_ble_eq_true rfl)) dX7_pointer_2 ⟨Nat.le_of_ble_eq_true rfl, Nat.le_of_ble_eq_true rfl⟩) hw (fun v h' H locs hp hw => ?_)
  obtain ⟨rfl, rfl⟩ := hp
  refine W.eq (g2 := F0 m 5 ls [.int 1]) rfl ?_
  refine lv_if_ne (tgt := 10) hx hb dX7_pointer_5 (by decide) (fun c5 => ?_) (fun c5 => ?_)
  · refine lv_aload_n hx hb dX7_pointer_10 rfl (lv_at hl 0 rfl) ?_
    refine lv_iconst (v := 1) hx hb dX7_pointer_11 (by decide) ?_
    refine lv_iload_n hx hb dX7_pointer_12 rfl (lv_at hl 1 rfl) ?_
    refine lv_iconst (v := 0) hx hb dX7_pointer_13 (by decide) ?_
    refine w_call (va_runV (As := [.int 1, .int t, .int 0]) (rest := []) ⟨hx, hb, hml, hown, hts⟩ (c_known l g h mo tl ta P.1 P.2.1 P.2.2.1 P.2.2.2 mem rea ali ty hm hL 1 t 0 (MR_ty hR0) H.size) (cwV 3 hts gX7_pointer_X7_known rfl rfl rfl (by decide +kernel) ⟨Nat.le_of_ble_eq_true rfl, Nat.le_of_ble_eq_true rfl⟩) ⟨pr_blind, w_recv hw hm rfl, pr_of hw⟩ rfl rfl hl.1 rfl (lv_room (Nat.le_of_ble_eq_true rfl)) dX7_pointer_14 ⟨Nat.le_of_ble_eq_true rfl, Nat.le_of_ble_eq_true rfl⟩) hw (fun v h' H locs hp hw => ?_)
    have et : t = nI t.toNatClampNeg := (lk_lt ht (by have := hS.2.1; omega)).2.1
    obtain ⟨rfl, ⟨i9, hi9, rfl, hi2, hi3⟩ | ⟨rfl, hno9⟩⟩ := hp
    · refine W.eq (g2 := F0 m 17 ls [.int (nI i9)]) rfl ?_
      have hf9 : fnd S 1 t.toNatClampNeg 0 = some i9 := MR_fndS hR0 hS (Or.inl rfl) (by have := lk_lt ht (by have := hS.2.1; omega); have := hS.2.1; omega) (by decide) hi9 (by rw [← et]; exact hi2) (by rw [← et]; exact hi3)
      refine lv_istore_n (lv' := [(2, .int (nI i9)), (0, .ref mo), (1, .int t)]) hx hb dX7_pointer_17 rfl hl (by decide) rfl (fun ls hl => ?_)
      refine lv_iload_n hx hb dX7_pointer_18 rfl (lv_at hl 0 rfl) ?_
      refine lv_if_lt (tgt := 24) hx hb dX7_pointer_19 (by decide) (fun c19 => ?_) (fun c19 => ?_)
      · exact absurd c19 (nI_pos (by omega))
      · refine lv_iload_n hx hb dX7_pointer_22 rfl (lv_at hl 0 rfl) ?_
        have e9 : fPtr S t = (nI i9, S) := by simp [fPtr, ht, hf9]
        exact r_int hx hb hr hlocks hw dX7_pointer_23 (Nat.le_of_ble_eq_true rfl) (Nat.le_of_ble_eq_true rfl) (⟨by rw [e9], by rw [e9]; exact ⟨tl, ta, ty, al, aa, ab, P, hR0⟩⟩)
    · refine W.eq (g2 := F0 m 17 ls [.int (-1)]) rfl ?_
      have hf9 : fnd S 1 t.toNatClampNeg 0 = none := MR_fndN hR0 hS (Or.inl rfl) (by have := lk_lt ht (by have := hS.2.1; omega); have := hS.2.1; omega) (by decide) (by rw [← et]; exact hno9)
      refine lv_istore_n (lv' := [(2, .int (-1)), (0, .ref mo), (1, .int t)]) hx hb dX7_pointer_17 rfl hl (by decide) rfl (fun ls hl => ?_)
      refine lv_iload_n hx hb dX7_pointer_18 rfl (lv_at hl 0 rfl) ?_
      refine lv_if_lt (tgt := 24) hx hb dX7_pointer_19 (by decide) (fun c19 => ?_) (fun c19 => ?_)
      · refine lv_aload_n hx hb dX7_pointer_24 rfl (lv_at hl 1 rfl) ?_
        refine w_get (ci := 7) (C := RX7) (T := TX7) (N := 8) (ref := "LayoutDeskModel") hx hb hts in_X7_pointer_7 hown hw hm rfl 0 (by decide) (hts (.fieldLink RX7 10 "LayoutDeskModel" "types" "Ljava/util/ArrayList;") (by decide +kernel)) (fun _ h9 => h9) rfl dX7_pointer_25 ?_
        refine w_call (va_runV (As := []) (rest := []) ⟨hx, hb, hml, hown, hts⟩ (c_sizeL l g h tl ta ty hL H.size) (cwV 0 hts gX7_pointer_Jx4a65c_size_8abf5 rfl rfl rfl (by decide +kernel) ⟨Nat.le_of_ble_eq_true rfl, Nat.le_of_ble_eq_true rfl⟩) ⟨pr_blind, w_recv hw hk0 rfl, pr_of hw⟩ rfl rfl hl.1 rfl (lv_room (Nat.le_of_ble_eq_true rfl)) dX7_pointer_28 ⟨Nat.le_of_ble_eq_true rfl, Nat.le_of_ble_eq_true rfl⟩) hw (fun v h' H locs hp hw => ?_)
        obtain ⟨rfl, rfl⟩ := hp
        refine W.eq (g2 := F0 m 31 ls [.int (nI ty.length)]) rfl ?_
        refine lv_sipush (v := 300) hx hb dX7_pointer_31 (by decide) ?_
        refine lv_icmp_ne (tgt := 42) hx hb dX7_pointer_34 (by decide) (fun c34 => ?_) (fun c34 => ?_)
        · have hnf : ¬ 300 ≤ S.length := fun z => c34 (by rw [show ty.length = 300 by have := hS.2.1; omega]; rfl)
          refine lv_aload_n hx hb dX7_pointer_42 rfl (lv_at hl 1 rfl) ?_
          refine w_new (ci := 6) (C := RX6) (T := TX6) (N := 7) (fs := [.int 0, .int 0, .int 0, .int 0, .int 0, .null, .int 0]) hx hb hts in_X7_pointer_6 tyX6 tyX6_ok hown (hts (.classLink RX7 29 RX6) (by decide +kernel)) (hts (.instantiable RX6 7) (by decide +kernel)) (hts (.initialized RX6) (by decide +kernel)) hw rfl (fun j hj => by rcases (show j = 0 ∨ j = 1 ∨ j = 2 ∨ j = 3 ∨ j = 4 ∨ j = 5 ∨ j = 6 by omega) with rfl | rfl | rfl | rfl | rfl | rfl | rfl <;> rfl) (Nat.le_of_ble_eq_true rfl) (Nat.le_of_ble_eq_true rfl) dX7_pointer_43 (fun q H hq hw => ?_)
          refine lv_dup hx hb dX7_pointer_46 rfl ?_
          refine lv_iconst (v := 1) hx hb dX7_pointer_47 (by decide) ?_
          refine lv_iload_n hx hb dX7_pointer_48 rfl (lv_at hl 2 rfl) ?_
          refine lv_iconst (v := 0) hx hb dX7_pointer_49 (by decide) ?_
          refine lv_iconst (v := 4) hx hb dX7_pointer_50 (by decide) ?_
          refine w_call (va_runI (As := [.int 1, .int t, .int 0, .int 4]) (rest := [.ref q, .ref mo]) ⟨hx, hb, hml, hown, hts⟩ (c_MType_init l g (wu h q (.inr (6, [.int 0, .int 0, .int 0, .int 0, .int 0, .null, .int 0]))) q 1 t 0 4 (wu_s _ _ _) H.size) (cwI 4 hts gX7_pointer_X6_init rfl rfl rfl (hts (.initialized RX6) (by decide +kernel)) (hts (.methodLink RX7 31 yX6_init) (by decide +kernel)) (hts (.instanceMethod yX6_init) (by decide +kernel)) rfl (by decide +kernel) ⟨Nat.le_of_ble_eq_true rfl, Nat.le_of_ble_eq_true rfl⟩) ⟨pr_blind, pr_of hw⟩ rfl rfl hl.1 rfl (lv_room (Nat.le_of_ble_eq_true rfl)) dX7_pointer_51 ⟨Nat.le_of_ble_eq_true rfl, Nat.le_of_ble_eq_true rfl⟩) hw (fun v k' H locs hp hw => ?_)
          obtain ⟨ql, rfl, w1, w2, w3, w4⟩ := hp
          refine W.eq (g2 := F0 m 54 ls [.ref q, .ref mo]) rfl ?_
          have nqq : ql ≠ q := fun z => by rw [z, wu_s] at w1; cases w1
          have hql : h ql = none := (wu_n nqq).symm.trans w1
          have hex : ext h k' := fun z e9 hz => (w4 z (ne_n hz hq) (ne_n hz hql)).trans ((wu_n (ne_n hz hq)).trans hz)
          have hR1 : MR0 g k' mo S tl ta ty al aa ab P := MR_ext hR0 hex (w_z hw)
          have hz1 := w_z hw
          have hALq : AL g k' ql (gZ g) [] := ⟨⟨0, w3⟩, fun z hz => (by cases hz), Or.inr ⟨rfl, hz1, rfl⟩⟩
          refine w_call (va_runV (As := [.ref q]) (rest := []) ⟨hx, hb, hml, hown, hts⟩ (c_made l g k' mo tl ta P.1 P.2.1 P.2.2.1 P.2.2.2 mem rea ali ty (hex _ _ hm) hR1.2.2.2.2.1.1 q ⟨6, _, w2, by decide, by decide⟩ (by omega) H.size) (cwV 1 hts gX7_pointer_X7_made rfl rfl rfl (by decide +kernel) ⟨Nat.le_of_ble_eq_true rfl, Nat.le_of_ble_eq_true rfl⟩) ⟨pr_blind, w_recv hw (hex _ _ hm) rfl, pr_of hw⟩ rfl rfl hl.1 rfl (lv_room (Nat.le_of_ble_eq_true rfl)) dX7_pointer_54 ⟨Nat.le_of_ble_eq_true rfl, Nat.le_of_ble_eq_true rfl⟩) hw (fun v h' H locs hp hw => ?_)
          obtain ⟨ta', rfl, q1, q2, q3⟩ := hp
          refine W.eq (g2 := F0 m 57 ls [.int (nI ty.length)]) rfl ?_
          have e9 : fPtr S t = (nI S.length, S ++ [(1, t.toNatClampNeg, 0, 4, 4, [], false)]) := by simp [fPtr, ht, hf9, hnf]
          have hc9 : cM k' q (1, t.toNatClampNeg, 0, 4, 4, [], false) ql [] := ⟨w2.trans (by rw [if_neg (by decide : ¬ (4 : Int32) < 4)]; show _ = some (oTy (nI 1) (nI t.toNatClampNeg) (nI 0) (nI 4) (nI 4) ql 0); rw [← et]; rfl), rfl, fun j y d hj => (by cases hj)⟩
          exact r_int hx hb hr hlocks hw dX7_pointer_57 (Nat.le_of_ble_eq_true rfl) (Nat.le_of_ble_eq_true rfl) (⟨by rw [e9, hlen], by rw [e9]; exact ⟨_, _, _, _, _, _, _, MR_app ql hR1 (w_z hw) (ty_freshM (MR_ty hR0) hq) hc9 ⟨hALq, (ne_n hk0 hql).symm, fun k9 hk9 => by obtain ⟨⟨m9, z9⟩, -, -⟩ := (hG.2.2.1 k9 hk9 trivial).1; exact (ne_n z9 hql).symm⟩ q1 q2 q3⟩⟩)
        · have hfu : 300 ≤ S.length := by have := (nI_eq (b := 300) (by omega) (by decide)).mp c34; omega
          refine lv_bipush (v := (-2)) hx hb dX7_pointer_37 (by decide) ?_
          refine lv_goto (tgt := 57) hx hb dX7_pointer_39 (by decide) ?_
          have e9 : fPtr S t = (-2, S) := by simp [fPtr, ht, hf9, hfu]
          exact r_int hx hb hr hlocks hw dX7_pointer_57 (Nat.le_of_ble_eq_true rfl) (Nat.le_of_ble_eq_true rfl) (⟨by rw [e9], by rw [e9]; exact ⟨tl, ta, ty, al, aa, ab, P, hR0⟩⟩)
      · exact absurd (by decide) c19
  · exact absurd c5 (by decide)
theorem m_pointer (l : Launch) (g : GG) (h : Nat → Option va_E) (mo : Nat) (S : List TyS) (N : Nat) (hR : MR g h mo S) (hS : wfS N S) (t : Int32) : Con l yX7_pointer wsX7_pointer 8 192 3 810 [.ref mo, .int t] g h (fun v h' => v = some (.int (fPtr S t).1) ∧ MR g h' mo (fPtr S t).2) := by
  cases ht : lk S t with
  | none => exact m_pointer_N l g h mo S N hR hS t ht
  | some T => exact m_pointer_S l g h mo S N hR hS t T ht
set_option maxHeartbeats 4000000 in
set_option maxRecDepth 100000 in
theorem m_array_N (l : Launch) (g : GG) (h : Nat → Option va_E) (mo : Nat) (S : List TyS) (N : Nat) (hR : MR g h mo S) (hS : wfS N S) (t n : Int32) (ht : lk S t = none) : Con l yX7_array wsX7_array 8 192 3 810 [.ref mo, .int t, .int n] g h (fun v h' => v = some (.int (fArr S t n).1) ∧ MR g h' mo (fArr S t n).2) := by
  obtain ⟨tl, ta, ty, al, aa, ab, P, hR0⟩ := hR
  obtain ⟨⟨mem, rea, ali, hm⟩, hs, hd, hz9, hG, hlen, -⟩ := id hR0
  have hL := hG.1
  have hn9 := AL_len hL
  obtain ⟨⟨mck, hk0⟩, -, -⟩ := id hL
  have htn := MR_lkN hR0 ht
  refine m_start (cc := cX7_array) (maxL := 5) (ret := (some .int)) (by decide) rfl (Nat.le_of_ble_eq_true rfl) ?_
  intro p e s m below meth c A ls hx hb hr hml hts hown hlocks hin hw hl
  have hl : lv_has ls 5 [(0, .ref mo), (1, .int t), (2, .int n)] := hl
  have hown : s.vm.findClass RX7 = some m.cls := hown
  refine lv_aload_n hx hb dX7_array_0 rfl (lv_at hl 0 rfl) ?_
  refine lv_iload_n hx hb dX7_array_1 rfl (lv_at hl 1 rfl) ?_
  refine w_call (va_runV (As := [.int t]) (rest := []) ⟨hx, hb, hml, hown, hts⟩ (c_there_N l g h mo tl ta P.1 P.2.1 P.2.2.1 P.2.2.2 mem rea ali ty hm hL t htn s.heap.size) (cwV 1 hts gX7_array_X7_there rfl rfl rfl (by decide +kernel) ⟨Nat.le_of_ble_eq_true rfl, Nat.le_of_ble_eq_true rfl⟩) ⟨pr_blind, w_recv hw hm rfl, pr_of hw⟩ rfl rfl hl.1 rfl (lv_room (Nat.le_of_ble_eq_true rfl)) dX7_array_2 ⟨Nat.le_of_ble_eq_true rfl, Nat.le_of_ble_eq_true rfl⟩) hw (fun v h' H locs hp hw => ?_)
  obtain ⟨rfl, rfl⟩ := hp
  refine W.eq (g2 := F0 m 5 ls [.int 0]) rfl ?_
  refine lv_if_eq (tgt := 19) hx hb dX7_array_5 (by decide) (fun c5 => ?_) (fun c5 => ?_)
  · refine lv_iconst (v := (-1)) hx hb dX7_array_19 (by decide) ?_
    have e9 : fArr S t n = (-1, S) := by simp [fArr, ht]
    exact r_int hx hb hr hlocks hw dX7_array_20 (Nat.le_of_ble_eq_true rfl) (Nat.le_of_ble_eq_true rfl) (⟨by rw [e9], by rw [e9]; exact ⟨tl, ta, ty, al, aa, ab, P, hR0⟩⟩)
  · exact absurd rfl c5
theorem in_X7_array_6 : ∀ w ∈ u_ws RX6 TX6 7, w ∈ wsX7_array := by decide +kernel
theorem in_X7_array_7 : ∀ w ∈ u_ws RX7 TX7 8, w ∈ wsX7_array := by decide +kernel
set_option maxHeartbeats 4000000 in
set_option maxRecDepth 100000 in
theorem m_array_S (l : Launch) (g : GG) (h : Nat → Option va_E) (mo : Nat) (S : List TyS) (N : Nat) (hR : MR g h mo S) (hS : wfS N S) (t n : Int32) (T : TyS) (ht : lk S t = some T) : Con l yX7_array wsX7_array 8 192 3 810 [.ref mo, .int t, .int n] g h (fun v h' => v = some (.int (fArr S t n).1) ∧ MR g h' mo (fArr S t n).2) := by
  obtain ⟨tl, ta, ty, al, aa, ab, P, hR0⟩ := hR
  obtain ⟨⟨mem, rea, ali, hm⟩, hs, hd, hz9, hG, hlen, -⟩ := id hR0
  have hL := hG.1
  have hn9 := AL_len hL
  obtain ⟨⟨mck, hk0⟩, -, -⟩ := id hL
  obtain ⟨a, ha1, ha2, ha3, hc⟩ := MR_lk hR0 ht
  have ha := hc.1
  obtain ⟨hw1, hw2, hw3, hw4, hw5, hw6, hw7, hw8⟩ := (hS.2.2 _ _ ha3).1
  refine m_start (cc := cX7_array) (maxL := 5) (ret := (some .int)) (by decide) rfl (Nat.le_of_ble_eq_true rfl) ?_
  intro p e s m below meth c A ls hx hb hr hml hts hown hlocks hin hw hl
  have hl : lv_has ls 5 [(0, .ref mo), (1, .int t), (2, .int n)] := hl
  have hown : s.vm.findClass RX7 = some m.cls := hown
  refine lv_aload_n hx hb dX7_array_0 rfl (lv_at hl 0 rfl) ?_
  refine lv_iload_n hx hb dX7_array_1 rfl (lv_at hl 1 rfl) ?_
  refine w_call (va_runV (As := [.int t]) (rest := []) ⟨hx, hb, hml, hown, hts⟩ (c_there_S l g h mo tl ta P.1 P.2.1 P.2.2.1 P.2.2.2 mem rea ali ty hm hL t a ha1 s.heap.size) (cwV 1 hts gX7_array_X7_there rfl rfl rfl (by decide +kernel) ⟨Nat.le_of_ble_eq_true rfl, Nat.le_of_ble_eq_true rfl⟩) ⟨pr_blind, w_recv hw hm rfl, pr_of hw⟩ rfl rfl hl.1 rfl (lv_room (Nat.le_of_ble_eq_true rfl)) dX7_array_2 ⟨Nat.le_of_ble_eq_true rfl, Nat.le_of_ble_eq_true rfl⟩) hw (fun v h' H locs hp hw => ?_)
  obtain ⟨rfl, rfl⟩ := hp
  refine W.eq (g2 := F0 m 5 ls [.int 1]) rfl ?_
  refine lv_if_eq (tgt := 19) hx hb dX7_array_5 (by decide) (fun c5 => ?_) (fun c5 => ?_)
  · exact absurd c5 (by decide)
  · refine lv_iload_n hx hb dX7_array_8 rfl (lv_at hl 2 rfl) ?_
    refine lv_iconst (v := 1) hx hb dX7_array_9 (by decide) ?_
    refine lv_icmp_lt (tgt := 19) hx hb dX7_array_10 (by decide) (fun c10 => ?_) (fun c10 => ?_)
    · refine lv_iconst (v := (-1)) hx hb dX7_array_19 (by decide) ?_
      have e9 : fArr S t n = (-1, S) := by simp [fArr, ht, c10]
      exact r_int hx hb hr hlocks hw dX7_array_20 (Nat.le_of_ble_eq_true rfl) (Nat.le_of_ble_eq_true rfl) (⟨by rw [e9], by rw [e9]; exact ⟨tl, ta, ty, al, aa, ab, P, hR0⟩⟩)
    · refine lv_iload_n hx hb dX7_array_13 rfl (lv_at hl 2 rfl) ?_
      refine lv_ldc (v := 524288) hx hb hown (hts (.constant RX7 76 (524288)) (by decide +kernel)) dX7_array_14 ?_
      refine lv_icmp_le (tgt := 21) hx hb dX7_array_16 (by decide) (fun c16 => ?_) (fun c16 => ?_)
      · obtain ⟨en, hn1, hn2⟩ := arr_n c10 c16
        have hszi := (hS.2.2 _ _ ha3).2.1
        have et0 : t = nI t.toNatClampNeg := (lk_lt ht (by have := hS.2.1; omega)).2.1
        have ht0 : (0 < t) ↔ 0 < t.toNatClampNeg := by { have := (lk_lt ht (by have := hS.2.1; omega)).2.2; have := hS.2.1; conv => { lhs; rw [et0] }; exact nI_ltI (a := 0) (by decide) (by omega) }
        refine lv_aload_n hx hb dX7_array_21 rfl (lv_at hl 0 rfl) ?_
        refine lv_iload_n hx hb dX7_array_22 rfl (lv_at hl 1 rfl) ?_
        refine w_call (va_runV (As := [.int t]) (rest := []) ⟨hx, hb, hml, hown, hts⟩ (c_sized l g h mo tl ta P.1 P.2.1 P.2.2.1 P.2.2.2 mem rea ali ty hm hL t a (al t.toNatClampNeg) (tK T) (nI (tTo T)) (nI (tLn T)) (nI (tSz T)) (mAl T) (if tFi T = true then 1 else 0) hw1 ha1 ha (by split; exact Or.inr rfl; exact Or.inl rfl) H.size) (cwV 1 hts gX7_array_X7_sized rfl rfl rfl (by decide +kernel) ⟨Nat.le_of_ble_eq_true rfl, Nat.le_of_ble_eq_true rfl⟩) ⟨pr_blind, w_recv hw hm rfl, pr_of hw⟩ rfl rfl hl.1 rfl (lv_room (Nat.le_of_ble_eq_true rfl)) dX7_array_23 ⟨Nat.le_of_ble_eq_true rfl, Nat.le_of_ble_eq_true rfl⟩) hw (fun v h' H locs hp hw => ?_)
        obtain ⟨rfl, rfl⟩ := hp
        refine W.eq (g2 := F0 m 26 ls [.int (if 0 < t ∧ (tK T < 3 ∨ (if tFi T = true then (1 : Int32) else 0) = 1) then 1 else 0)]) rfl ?_
        refine lv_if_ne (tgt := 32) hx hb dX7_array_26 (by decide) (fun c26 => ?_) (fun c26 => ?_)
        · have hsz9 : ¬ tSz T = 0 := by
            by_cases z : 0 < t ∧ (tK T < 3 ∨ (if tFi T = true then (1 : Int32) else 0) = 1)
            · exact hszi.mpr ⟨ht0.mp z.1, z.2.imp id ((show ((if tFi T = true then (1 : Int32) else 0) = 1) ↔ tFi T = true by cases tFi T <;> decide).mp)⟩
            · rw [if_neg z] at c26
              exact absurd rfl c26
          have hma : mAl T = nI (tAl T) := if_neg (fun z => by rcases (hszi.mp hsz9).2 with y | y; { omega }; { rw [z.2] at y; cases y })
          refine lv_iload_n hx hb dX7_array_32 rfl (lv_at hl 2 rfl) ?_
          refine lv_i2l (v := n.toInt64) hx hb dX7_array_33 rfl ?_
          refine lv_aload_n hx hb dX7_array_34 rfl (lv_at hl 0 rfl) ?_
          refine lv_iload_n hx hb dX7_array_35 rfl (lv_at hl 1 rfl) ?_
          refine w_call (va_runV (As := [.int t]) (rest := [.long n.toInt64]) ⟨hx, hb, hml, hown, hts⟩ (c_msize_S l g h mo tl ta P.1 P.2.1 P.2.2.1 P.2.2.2 mem rea ali ty hm hL t a (al t.toNatClampNeg) (tK T) (nI (tTo T)) (nI (tLn T)) (nI (tSz T)) (mAl T) (if tFi T = true then 1 else 0) hw1 ha1 ha H.size) (cwV 1 hts gX7_array_X7_size rfl rfl rfl (by decide +kernel) ⟨Nat.le_of_ble_eq_true rfl, Nat.le_of_ble_eq_true rfl⟩) ⟨pr_blind, w_recv hw hm rfl, pr_of hw⟩ rfl rfl hl.1 rfl (lv_room (Nat.le_of_ble_eq_true rfl)) dX7_array_36 ⟨Nat.le_of_ble_eq_true rfl, Nat.le_of_ble_eq_true rfl⟩) hw (fun v h' H locs hp hw => ?_)
          obtain ⟨rfl, rfl⟩ := hp
          refine W.eq (g2 := F0 m 39 ls [.int (nI (tSz T)), .long n.toInt64]) rfl ?_
          refine lv_i2l (v := (nI (tSz T)).toInt64) hx hb dX7_array_39 rfl ?_
          refine lv_lmul hx hb dX7_array_40 ?_
          refine lv_topl (fun b8 eb8 => ?_)
          have hb8 := mul_le hn2 hw4 (eb8.trans (by rw [← en]))
          rw [Nat.mul_comm] at hb8
          refine lv_ldc2 (v := 524288) hx hb hown (hts (.constantLong RX7 83 (524288)) (by decide +kernel)) dX7_array_41 ?_
          refine W.lcmp hx hb dX7_array_44 ?_
          refine lv_if_le (tgt := 51) hx hb dX7_array_45 (by decide) (fun c45 => ?_) (fun c45 => ?_)
          · have hmul := hb8.2.mp c45
            refine lv_aload_n hx hb dX7_array_51 rfl (lv_at hl 0 rfl) ?_
            refine lv_iconst (v := 2) hx hb dX7_array_52 (by decide) ?_
            refine lv_iload_n hx hb dX7_array_53 rfl (lv_at hl 1 rfl) ?_
            refine lv_iload_n hx hb dX7_array_54 rfl (lv_at hl 2 rfl) ?_
            refine w_call (va_runV (As := [.int 2, .int t, .int n]) (rest := []) ⟨hx, hb, hml, hown, hts⟩ (c_known l g h mo tl ta P.1 P.2.1 P.2.2.1 P.2.2.2 mem rea ali ty hm hL 2 t n (MR_ty hR0) H.size) (cwV 3 hts gX7_array_X7_known rfl rfl rfl (by decide +kernel) ⟨Nat.le_of_ble_eq_true rfl, Nat.le_of_ble_eq_true rfl⟩) ⟨pr_blind, w_recv hw hm rfl, pr_of hw⟩ rfl rfl hl.1 rfl (lv_room (Nat.le_of_ble_eq_true rfl)) dX7_array_55 ⟨Nat.le_of_ble_eq_true rfl, Nat.le_of_ble_eq_true rfl⟩) hw (fun v h' H locs hp hw => ?_)
            have et : t = nI t.toNatClampNeg := (lk_lt ht (by have := hS.2.1; omega)).2.1
            obtain ⟨rfl, ⟨i9, hi9, rfl, hi2, hi3⟩ | ⟨rfl, hno9⟩⟩ := hp
            · refine W.eq (g2 := F0 m 58 ls [.int (nI i9)]) rfl ?_
              have hf9 : fnd S 2 t.toNatClampNeg n.toNatClampNeg = some i9 := MR_fndS hR0 hS (Or.inr rfl) (by have := lk_lt ht (by have := hS.2.1; omega); have := hS.2.1; omega) (by omega) hi9 (by rw [← et, ← en]; exact hi2) (by rw [← et, ← en]; exact hi3)
              refine lv_istore_n (lv' := [(3, .int (nI i9)), (0, .ref mo), (1, .int t), (2, .int n)]) hx hb dX7_array_58 rfl hl (by decide) rfl (fun ls hl => ?_)
              refine lv_iload_n hx hb dX7_array_59 rfl (lv_at hl 0 rfl) ?_
              refine lv_if_lt (tgt := 65) hx hb dX7_array_60 (by decide) (fun c60 => ?_) (fun c60 => ?_)
              · exact absurd c60 (nI_pos (by omega))
              · refine lv_iload_n hx hb dX7_array_63 rfl (lv_at hl 0 rfl) ?_
                have e9 : fArr S t n = (nI i9, S) := by simp [fArr, ht, (show ¬ (n < 1 ∨ 524288 < n) from fun z => z.elim c10 (fun z => Int32.not_lt.mpr c16 z)), hsz9, show ¬ 524288 < tSz T * n.toNatClampNeg from Nat.not_lt.mpr hmul, hf9]
                exact r_int hx hb hr hlocks hw dX7_array_64 (Nat.le_of_ble_eq_true rfl) (Nat.le_of_ble_eq_true rfl) (⟨by rw [e9], by rw [e9]; exact ⟨tl, ta, ty, al, aa, ab, P, hR0⟩⟩)
            · refine W.eq (g2 := F0 m 58 ls [.int (-1)]) rfl ?_
              have hf9 : fnd S 2 t.toNatClampNeg n.toNatClampNeg = none := MR_fndN hR0 hS (Or.inr rfl) (by have := lk_lt ht (by have := hS.2.1; omega); have := hS.2.1; omega) (by omega) (by rw [← et, ← en]; exact hno9)
              refine lv_istore_n (lv' := [(3, .int (-1)), (0, .ref mo), (1, .int t), (2, .int n)]) hx hb dX7_array_58 rfl hl (by decide) rfl (fun ls hl => ?_)
              refine lv_iload_n hx hb dX7_array_59 rfl (lv_at hl 0 rfl) ?_
              refine lv_if_lt (tgt := 65) hx hb dX7_array_60 (by decide) (fun c60 => ?_) (fun c60 => ?_)
              · refine lv_aload_n hx hb dX7_array_65 rfl (lv_at hl 1 rfl) ?_
                refine w_get (ci := 7) (C := RX7) (T := TX7) (N := 8) (ref := "LayoutDeskModel") hx hb hts in_X7_array_7 hown hw hm rfl 0 (by decide) (hts (.fieldLink RX7 10 "LayoutDeskModel" "types" "Ljava/util/ArrayList;") (by decide +kernel)) (fun _ h9 => h9) rfl dX7_array_66 ?_
                refine w_call (va_runV (As := []) (rest := []) ⟨hx, hb, hml, hown, hts⟩ (c_sizeL l g h tl ta ty hL H.size) (cwV 0 hts gX7_array_Jx4a65c_size_8abf5 rfl rfl rfl (by decide +kernel) ⟨Nat.le_of_ble_eq_true rfl, Nat.le_of_ble_eq_true rfl⟩) ⟨pr_blind, w_recv hw hk0 rfl, pr_of hw⟩ rfl rfl hl.1 rfl (lv_room (Nat.le_of_ble_eq_true rfl)) dX7_array_69 ⟨Nat.le_of_ble_eq_true rfl, Nat.le_of_ble_eq_true rfl⟩) hw (fun v h' H locs hp hw => ?_)
                obtain ⟨rfl, rfl⟩ := hp
                refine W.eq (g2 := F0 m 72 ls [.int (nI ty.length)]) rfl ?_
                refine lv_sipush (v := 300) hx hb dX7_array_72 (by decide) ?_
                refine lv_icmp_ne (tgt := 81) hx hb dX7_array_75 (by decide) (fun c75 => ?_) (fun c75 => ?_)
                · have hnf : ¬ 300 ≤ S.length := fun z => c75 (by rw [show ty.length = 300 by have := hS.2.1; omega]; rfl)
                  refine w_new (ci := 6) (C := RX6) (T := TX6) (N := 7) (fs := [.int 0, .int 0, .int 0, .int 0, .int 0, .null, .int 0]) hx hb hts in_X7_array_6 tyX6 tyX6_ok hown (hts (.classLink RX7 29 RX6) (by decide +kernel)) (hts (.instantiable RX6 7) (by decide +kernel)) (hts (.initialized RX6) (by decide +kernel)) hw rfl (fun j hj => by rcases (show j = 0 ∨ j = 1 ∨ j = 2 ∨ j = 3 ∨ j = 4 ∨ j = 5 ∨ j = 6 by omega) with rfl | rfl | rfl | rfl | rfl | rfl | rfl <;> rfl) (Nat.le_of_ble_eq_true rfl) (Nat.le_of_ble_eq_true rfl) dX7_array_81 (fun q H hq hw => ?_)
                  refine lv_dup hx hb dX7_array_84 rfl ?_
                  refine lv_iconst (v := 2) hx hb dX7_array_85 (by decide) ?_
                  refine lv_iload_n hx hb dX7_array_86 rfl (lv_at hl 2 rfl) ?_
                  refine lv_iload_n hx hb dX7_array_87 rfl (lv_at hl 3 rfl) ?_
                  refine lv_iload_n hx hb dX7_array_88 rfl (lv_at hl 3 rfl) ?_
                  refine lv_aload_n hx hb dX7_array_89 rfl (lv_at hl 1 rfl) ?_
                  refine lv_iload_n hx hb dX7_array_90 rfl (lv_at hl 2 rfl) ?_
                  have hexq : ext h (wu h q (.inr (6, [.int 0, .int 0, .int 0, .int 0, .int 0, .null, .int 0]))) := ext_new hq
                  have hRw : MR0 g (wu h q (.inr (6, [.int 0, .int 0, .int 0, .int 0, .int 0, .null, .int 0]))) mo S tl ta ty al aa ab P := MR_ext hR0 hexq (w_z hw)
                  refine w_call (va_runV (As := [.int t]) (rest := [.int n, .int n, .int t, .int 2, .ref q, .ref q]) ⟨hx, hb, hml, hown, hts⟩ (c_msize_S l g (wu h q (.inr (6, [.int 0, .int 0, .int 0, .int 0, .int 0, .null, .int 0]))) mo tl ta P.1 P.2.1 P.2.2.1 P.2.2.2 mem rea ali ty (hexq _ _ hm) hRw.2.2.2.2.1.1 t a (al t.toNatClampNeg) (tK T) (nI (tTo T)) (nI (tLn T)) (nI (tSz T)) (mAl T) (if tFi T = true then 1 else 0) hw1 ha1 (hexq _ _ ha) H.size) (cwV 1 hts gX7_array_X7_size rfl rfl rfl (by decide +kernel) ⟨Nat.le_of_ble_eq_true rfl, Nat.le_of_ble_eq_true rfl⟩) ⟨pr_blind, w_recv hw (hexq _ _ hm) rfl, pr_of hw⟩ rfl rfl hl.1 rfl (lv_room (Nat.le_of_ble_eq_true rfl)) dX7_array_91 ⟨Nat.le_of_ble_eq_true rfl, Nat.le_of_ble_eq_true rfl⟩) hw (fun v h' H locs hp hw => ?_)
                  obtain ⟨rfl, rfl⟩ := hp
                  refine W.eq (g2 := F0 m 94 ls [.int (nI (tSz T)), .int n, .int n, .int t, .int 2, .ref q, .ref q]) rfl ?_
                  refine lv_imul hx hb dX7_array_94 ?_
                  refine w_call (va_runI (As := [.int 2, .int t, .int n, .int (n * (nI (tSz T)))]) (rest := [.ref q]) ⟨hx, hb, hml, hown, hts⟩ (c_MType_init l g (wu h q (.inr (6, [.int 0, .int 0, .int 0, .int 0, .int 0, .null, .int 0]))) q 2 t n (n * nI (tSz T)) (wu_s _ _ _) H.size) (cwI 4 hts gX7_array_X6_init rfl rfl rfl (hts (.initialized RX6) (by decide +kernel)) (hts (.methodLink RX7 31 yX6_init) (by decide +kernel)) (hts (.instanceMethod yX6_init) (by decide +kernel)) rfl (by decide +kernel) ⟨Nat.le_of_ble_eq_true rfl, Nat.le_of_ble_eq_true rfl⟩) ⟨pr_blind, pr_of hw⟩ rfl rfl hl.1 rfl (lv_room (Nat.le_of_ble_eq_true rfl)) dX7_array_95 ⟨Nat.le_of_ble_eq_true rfl, Nat.le_of_ble_eq_true rfl⟩) hw (fun v k' H locs hp hw => ?_)
                  obtain ⟨ql, rfl, w1, w2, w3, w4⟩ := hp
                  refine W.eq (g2 := F0 m 98 ls [.ref q]) rfl ?_
                  have nqq : ql ≠ q := fun z => by rw [z, wu_s] at w1; cases w1
                  have hql : h ql = none := (wu_n nqq).symm.trans w1
                  have hex : ext h k' := fun z e9 hz => (w4 z (ne_n hz hq) (ne_n hz hql)).trans ((wu_n (ne_n hz hq)).trans hz)
                  have hR1 : MR0 g k' mo S tl ta ty al aa ab P := MR_ext hR0 hex (w_z hw)
                  have hz1 := w_z hw
                  have hALq : AL g k' ql (gZ g) [] := ⟨⟨0, w3⟩, fun z hz => (by cases hz), Or.inr ⟨rfl, hz1, rfl⟩⟩
                  refine lv_astore (lv' := [(4, .ref q), (3, .int (-1)), (0, .ref mo), (1, .int t), (2, .int n)]) hx hb dX7_array_98 hl (by decide) rfl (fun ls hl => ?_)
                  refine lv_aload hx hb dX7_array_100 (lv_at hl 0 rfl) ?_
                  refine lv_aload_n hx hb dX7_array_102 rfl (lv_at hl 2 rfl) ?_
                  refine w_get (ci := 7) (C := RX7) (T := TX7) (N := 8) (ref := "LayoutDeskModel") hx hb hts in_X7_array_7 hown hw (hex _ _ hm) rfl 0 (by decide) (hts (.fieldLink RX7 10 "LayoutDeskModel" "types" "Ljava/util/ArrayList;") (by decide +kernel)) (fun _ h9 => h9) rfl dX7_array_103 ?_
                  refine lv_iload_n hx hb dX7_array_106 rfl (lv_at hl 3 rfl) ?_
                  obtain ⟨⟨mck2, hk2⟩, -, -⟩ := id hR1.2.2.2.2.1.1
                  refine w_call (va_runV (As := [.int t]) (rest := [.ref q]) ⟨hx, hb, hml, hown, hts⟩ (c_getL l g k' tl ta ty hR1.2.2.2.2.1.1 t a ha1 H.size) (cwV 1 hts gX7_array_Jx4a65c_get_915e3 rfl rfl rfl (by decide +kernel) ⟨Nat.le_of_ble_eq_true rfl, Nat.le_of_ble_eq_true rfl⟩) ⟨pr_blind, w_recv hw hk2 rfl, pr_of hw⟩ rfl rfl hl.1 rfl (lv_room (Nat.le_of_ble_eq_true rfl)) dX7_array_107 ⟨Nat.le_of_ble_eq_true rfl, Nat.le_of_ble_eq_true rfl⟩) hw (fun v h' H locs hp hw => ?_)
                  obtain ⟨rfl, rfl⟩ := hp
                  refine W.eq (g2 := F0 m 110 ls [.ref a, .ref q]) rfl ?_
                  refine va_castY (C := RX6) hx hb hown (hts (.classLink RX7 29 "LayoutDeskModel$Type") (by decide +kernel)) (w_nwN hw (by decide +kernel)) (w_recv hw (hex _ _ ha) rfl) dX7_array_110 ?_
                  refine w_get (ci := 6) (C := RX6) (T := TX6) (N := 7) (ref := "LayoutDeskModel$Type") hx hb hts in_X7_array_6 hown hw (hex _ _ ha) rfl 4 (by decide) (hts (.fieldLink RX7 85 "LayoutDeskModel$Type" "align" "I") (by decide +kernel)) (fun _ h9 => h9) rfl dX7_array_113 ?_
                  refine w_put (ci := 6) (C := RX6) (T := TX6) (N := 7) (ref := "LayoutDeskModel$Type") (ty := .int) (fs' := [.int 2, .int t, .int n, .int (n * nI (tSz T)), .int (mAl T), .ref ql, .int 0]) hx hb hts in_X7_array_6 tyX6 tyX6_ok nmX6 hown hw w2 rfl 4 (by decide) (hts (.fieldLink RX7 85 "LayoutDeskModel$Type" "align" "I") (by decide +kernel)) (fun _ h9 => h9) rfl (by decide +kernel) rfl rfl (Nat.le_of_ble_eq_true rfl) rfl dX7_array_116 (fun H locs hw => ?_)
                  refine lv_aload_n hx hb dX7_array_119 rfl (lv_at hl 2 rfl) ?_
                  refine lv_aload hx hb dX7_array_120 (lv_at hl 0 rfl) ?_
                  have hexq2 : ext h (wu k' q (.inr (6, [.int 2, .int t, .int n, .int (n * nI (tSz T)), .int (mAl T), .ref ql, .int 0]))) := fun z e9 hz => (wu_n (ne_n hz hq)).trans (hex z e9 hz)
                  have hR2 : MR0 g (wu k' q (.inr (6, [.int 2, .int t, .int n, .int (n * nI (tSz T)), .int (mAl T), .ref ql, .int 0]))) mo S tl ta ty al aa ab P := MR_ext hR0 hexq2 (w_z hw)
                  have hALq2 : AL g (wu k' q (.inr (6, [.int 2, .int t, .int n, .int (n * nI (tSz T)), .int (mAl T), .ref ql, .int 0]))) ql (gZ g) [] := ⟨⟨0, (wu_n nqq).trans w3⟩, fun z hz => (by cases hz), Or.inr ⟨rfl, w_z hw, rfl⟩⟩
                  refine w_call (va_runV (As := [.ref q]) (rest := []) ⟨hx, hb, hml, hown, hts⟩ (c_made l g (wu k' q (.inr (6, [.int 2, .int t, .int n, .int (n * nI (tSz T)), .int (mAl T), .ref ql, .int 0]))) mo tl ta P.1 P.2.1 P.2.2.1 P.2.2.2 mem rea ali ty (hexq2 _ _ hm) hR2.2.2.2.2.1.1 q ⟨6, _, wu_s _ _ _, by decide, by decide⟩ (by omega) H.size) (cwV 1 hts gX7_array_X7_made rfl rfl rfl (by decide +kernel) ⟨Nat.le_of_ble_eq_true rfl, Nat.le_of_ble_eq_true rfl⟩) ⟨pr_blind, w_recv hw (hexq2 _ _ hm) rfl, pr_of hw⟩ rfl rfl hl.1 rfl (lv_room (Nat.le_of_ble_eq_true rfl)) dX7_array_122 ⟨Nat.le_of_ble_eq_true rfl, Nat.le_of_ble_eq_true rfl⟩) hw (fun v h' H locs hp hw => ?_)
                  obtain ⟨ta', rfl, q1, q2, q3⟩ := hp
                  refine W.eq (g2 := F0 m 125 ls [.int (nI ty.length)]) rfl ?_
                  have e9 : fArr S t n = (nI S.length, S ++ [(2, t.toNatClampNeg, n.toNatClampNeg, tSz T * n.toNatClampNeg, tAl T, [], false)]) := by simp [fArr, ht, (show ¬ (n < 1 ∨ 524288 < n) from fun z => z.elim c10 (fun z => Int32.not_lt.mpr c16 z)), hsz9, show ¬ 524288 < tSz T * n.toNatClampNeg from Nat.not_lt.mpr hmul, hf9, hnf]
                  have en8 : n * nI (tSz T) = nI (tSz T * n.toNatClampNeg) := by { conv => { lhs; rw [en] }; rw [pk_mul, Nat.mul_comm] }
                  have hc9 : cM (wu k' q (.inr (6, [.int 2, .int t, .int n, .int (n * nI (tSz T)), .int (mAl T), .ref ql, .int 0]))) q (2, t.toNatClampNeg, n.toNatClampNeg, tSz T * n.toNatClampNeg, tAl T, [], false) ql [] := ⟨(wu_s _ _ _).trans (by rw [en8, hma]; show _ = some (oTy (nI 2) (nI t.toNatClampNeg) (nI n.toNatClampNeg) (nI (tSz T * n.toNatClampNeg)) (nI (tAl T)) ql 0); rw [← et, ← en]; rfl), rfl, fun j y d hj => (by cases hj)⟩
                  exact r_int hx hb hr hlocks hw dX7_array_125 (Nat.le_of_ble_eq_true rfl) (Nat.le_of_ble_eq_true rfl) (⟨by rw [e9, hlen], by rw [e9]; exact ⟨_, _, _, _, _, _, _, MR_app ql hR2 (w_z hw) (ty_freshM (MR_ty hR0) hq) hc9 ⟨hALq2, (ne_n hk0 hql).symm, fun k9 hk9 => by obtain ⟨⟨m9, z9⟩, -, -⟩ := (hG.2.2.1 k9 hk9 trivial).1; exact (ne_n z9 hql).symm⟩ q1 q2 q3⟩⟩)
                · have hfu : 300 ≤ S.length := by have := (nI_eq (b := 300) (by omega) (by decide)).mp c75; omega
                  refine lv_bipush (v := (-4)) hx hb dX7_array_78 (by decide) ?_
                  have e9 : fArr S t n = (-4, S) := by simp [fArr, ht, (show ¬ (n < 1 ∨ 524288 < n) from fun z => z.elim c10 (fun z => Int32.not_lt.mpr c16 z)), hsz9, show ¬ 524288 < tSz T * n.toNatClampNeg from Nat.not_lt.mpr hmul, hf9, hfu]
                  exact r_int hx hb hr hlocks hw dX7_array_80 (Nat.le_of_ble_eq_true rfl) (Nat.le_of_ble_eq_true rfl) (⟨by rw [e9], by rw [e9]; exact ⟨tl, ta, ty, al, aa, ab, P, hR0⟩⟩)
              · exact absurd (by decide) c60
          · have hmul2 : 524288 < tSz T * n.toNatClampNeg := Nat.lt_of_not_le (fun z => c45 (hb8.2.mpr z))
            refine lv_bipush (v := (-3)) hx hb dX7_array_48 (by decide) ?_
            have e9 : fArr S t n = (-3, S) := by simp [fArr, ht, (show ¬ (n < 1 ∨ 524288 < n) from fun z => z.elim c10 (fun z => Int32.not_lt.mpr c16 z)), hsz9, hmul2]
            exact r_int hx hb hr hlocks hw dX7_array_50 (Nat.le_of_ble_eq_true rfl) (Nat.le_of_ble_eq_true rfl) (⟨by rw [e9], by rw [e9]; exact ⟨tl, ta, ty, al, aa, ab, P, hR0⟩⟩)
        · have hsz8 : tSz T = 0 := Classical.byContradiction (fun z => by rw [if_pos ⟨ht0.mpr (hszi.mp z).1, (hszi.mp z).2.imp id ((show ((if tFi T = true then (1 : Int32) else 0) = 1) ↔ tFi T = true by cases tFi T <;> decide).mpr)⟩] at c26; exact absurd c26 (by decide))
          refine lv_bipush (v := (-2)) hx hb dX7_array_29 (by decide) ?_
          have e9 : fArr S t n = (-2, S) := by simp [fArr, ht, (show ¬ (n < 1 ∨ 524288 < n) from fun z => z.elim c10 (fun z => Int32.not_lt.mpr c16 z)), hsz8]
          exact r_int hx hb hr hlocks hw dX7_array_31 (Nat.le_of_ble_eq_true rfl) (Nat.le_of_ble_eq_true rfl) (⟨by rw [e9], by rw [e9]; exact ⟨tl, ta, ty, al, aa, ab, P, hR0⟩⟩)
      · refine lv_iconst (v := (-1)) hx hb dX7_array_19 (by decide) ?_
        have e9 : fArr S t n = (-1, S) := by simp [fArr, ht, Int32.not_le.mp c16]
        exact r_int hx hb hr hlocks hw dX7_array_20 (Nat.le_of_ble_eq_true rfl) (Nat.le_of_ble_eq_true rfl) (⟨by rw [e9], by rw [e9]; exact ⟨tl, ta, ty, al, aa, ab, P, hR0⟩⟩)
theorem m_array (l : Launch) (g : GG) (h : Nat → Option va_E) (mo : Nat) (S : List TyS) (N : Nat) (hR : MR g h mo S) (hS : wfS N S) (t n : Int32) : Con l yX7_array wsX7_array 8 192 3 810 [.ref mo, .int t, .int n] g h (fun v h' => v = some (.int (fArr S t n).1) ∧ MR g h' mo (fArr S t n).2) := by
  cases ht : lk S t with
  | none => exact m_array_N l g h mo S N hR hS t n ht
  | some T => exact m_array_S l g h mo S N hR hS t n T ht
theorem in_X7_record_6 : ∀ w ∈ u_ws RX6 TX6 7, w ∈ wsX7_record := by decide +kernel
theorem in_X7_record_7 : ∀ w ∈ u_ws RX7 TX7 8, w ∈ wsX7_record := by decide +kernel
set_option maxHeartbeats 4000000 in
set_option maxRecDepth 100000 in
theorem m_record (l : Launch) (g : GG) (h : Nat → Option va_E) (mo : Nat) (S : List TyS) (N : Nat) (hR : MR g h mo S) (hS : wfS N S) (k : Int32) : Con l yX7_record wsX7_record 8 192 3 810 [.ref mo, .int k] g h (fun v h' => v = some (.int (fRec S k).1) ∧ MR g h' mo (fRec S k).2) := by
  obtain ⟨tl, ta, ty, al, aa, ab, P, hR0⟩ := hR
  obtain ⟨⟨mem, rea, ali, hm⟩, hs, hd, hz9, hG, hlen, -⟩ := id hR0
  have hL := hG.1
  have hn9 := AL_len hL
  obtain ⟨⟨mck, hk0⟩, -, -⟩ := id hL
  refine m_start (cc := cX7_record) (maxL := 2) (ret := (some .int)) (by decide) rfl (Nat.le_of_ble_eq_true rfl) ?_
  intro p e s m below meth c A ls hx hb hr hml hts hown hlocks hin hw hl
  have hl : lv_has ls 2 [(0, .ref mo), (1, .int k)] := hl
  have hown : s.vm.findClass RX7 = some m.cls := hown
  refine lv_iload_n hx hb dX7_record_0 rfl (lv_at hl 1 rfl) ?_
  refine lv_if_eq (tgt := 11) hx hb dX7_record_1 (by decide) (fun c1 => ?_) (fun c1 => ?_)
  · refine lv_aload_n hx hb dX7_record_11 rfl (lv_at hl 0 rfl) ?_
    refine w_get (ci := 7) (C := RX7) (T := TX7) (N := 8) (ref := "LayoutDeskModel") hx hb hts in_X7_record_7 hown hw hm rfl 0 (by decide) (hts (.fieldLink RX7 10 "LayoutDeskModel" "types" "Ljava/util/ArrayList;") (by decide +kernel)) (fun _ h9 => h9) rfl dX7_record_12 ?_
    refine w_call (va_runV (As := []) (rest := []) ⟨hx, hb, hml, hown, hts⟩ (c_sizeL l g h tl ta ty hL s.heap.size) (cwV 0 hts gX7_record_Jx4a65c_size_8abf5 rfl rfl rfl (by decide +kernel) ⟨Nat.le_of_ble_eq_true rfl, Nat.le_of_ble_eq_true rfl⟩) ⟨pr_blind, w_recv hw hk0 rfl, pr_of hw⟩ rfl rfl hl.1 rfl (lv_room (Nat.le_of_ble_eq_true rfl)) dX7_record_15 ⟨Nat.le_of_ble_eq_true rfl, Nat.le_of_ble_eq_true rfl⟩) hw (fun v h' H locs hp hw => ?_)
    obtain ⟨rfl, rfl⟩ := hp
    refine W.eq (g2 := F0 m 18 ls [.int (nI ty.length)]) rfl ?_
    refine lv_sipush (v := 300) hx hb dX7_record_18 (by decide) ?_
    refine lv_icmp_ne (tgt := 29) hx hb dX7_record_21 (by decide) (fun c21 => ?_) (fun c21 => ?_)
    · have hnf : ¬ 300 ≤ S.length := fun z => c21 (by rw [show ty.length = 300 by have := hS.2.1; omega]; rfl)
      refine lv_aload_n hx hb dX7_record_29 rfl (lv_at hl 0 rfl) ?_
      refine w_new (ci := 6) (C := RX6) (T := TX6) (N := 7) (fs := [.int 0, .int 0, .int 0, .int 0, .int 0, .null, .int 0]) hx hb hts in_X7_record_6 tyX6 tyX6_ok hown (hts (.classLink RX7 29 RX6) (by decide +kernel)) (hts (.instantiable RX6 7) (by decide +kernel)) (hts (.initialized RX6) (by decide +kernel)) hw rfl (fun j hj => by rcases (show j = 0 ∨ j = 1 ∨ j = 2 ∨ j = 3 ∨ j = 4 ∨ j = 5 ∨ j = 6 by omega) with rfl | rfl | rfl | rfl | rfl | rfl | rfl <;> rfl) (Nat.le_of_ble_eq_true rfl) (Nat.le_of_ble_eq_true rfl) dX7_record_30 (fun q H hq hw => ?_)
      refine lv_dup hx hb dX7_record_33 rfl ?_
      refine lv_iconst (v := 3) hx hb dX7_record_34 (by decide) ?_
      refine lv_iload_n hx hb dX7_record_35 rfl (lv_at hl 1 rfl) ?_
      refine lv_iadd hx hb dX7_record_36 ?_
      refine lv_iconst (v := 0) hx hb dX7_record_37 (by decide) ?_
      refine lv_iconst (v := 0) hx hb dX7_record_38 (by decide) ?_
      refine lv_iconst (v := 0) hx hb dX7_record_39 (by decide) ?_
      refine w_call (va_runI (As := [.int (3 + k), .int 0, .int 0, .int 0]) (rest := [.ref q, .ref mo]) ⟨hx, hb, hml, hown, hts⟩ (c_MType_init l g (wu h q (.inr (6, [.int 0, .int 0, .int 0, .int 0, .int 0, .null, .int 0]))) q (3 + k) 0 0 0 (wu_s _ _ _) H.size) (cwI 4 hts gX7_record_X6_init rfl rfl rfl (hts (.initialized RX6) (by decide +kernel)) (hts (.methodLink RX7 31 yX6_init) (by decide +kernel)) (hts (.instanceMethod yX6_init) (by decide +kernel)) rfl (by decide +kernel) ⟨Nat.le_of_ble_eq_true rfl, Nat.le_of_ble_eq_true rfl⟩) ⟨pr_blind, pr_of hw⟩ rfl rfl hl.1 rfl (lv_room (Nat.le_of_ble_eq_true rfl)) dX7_record_40 ⟨Nat.le_of_ble_eq_true rfl, Nat.le_of_ble_eq_true rfl⟩) hw (fun v k' H locs hp hw => ?_)
      obtain ⟨ql, rfl, w1, w2, w3, w4⟩ := hp
      refine W.eq (g2 := F0 m 43 ls [.ref q, .ref mo]) rfl ?_
      have nqq : ql ≠ q := fun z => by rw [z, wu_s] at w1; cases w1
      have hql : h ql = none := (wu_n nqq).symm.trans w1
      have hex : ext h k' := fun z e9 hz => (w4 z (ne_n hz hq) (ne_n hz hql)).trans ((wu_n (ne_n hz hq)).trans hz)
      have hR1 : MR0 g k' mo S tl ta ty al aa ab P := MR_ext hR0 hex (w_z hw)
      have hz1 := w_z hw
      have hALq : AL g k' ql (gZ g) [] := ⟨⟨0, w3⟩, fun z hz => (by cases hz), Or.inr ⟨rfl, hz1, rfl⟩⟩
      refine w_call (va_runV (As := [.ref q]) (rest := []) ⟨hx, hb, hml, hown, hts⟩ (c_made l g k' mo tl ta P.1 P.2.1 P.2.2.1 P.2.2.2 mem rea ali ty (hex _ _ hm) hR1.2.2.2.2.1.1 q ⟨6, _, w2, by decide, by decide⟩ (by omega) H.size) (cwV 1 hts gX7_record_X7_made rfl rfl rfl (by decide +kernel) ⟨Nat.le_of_ble_eq_true rfl, Nat.le_of_ble_eq_true rfl⟩) ⟨pr_blind, w_recv hw (hex _ _ hm) rfl, pr_of hw⟩ rfl rfl hl.1 rfl (lv_room (Nat.le_of_ble_eq_true rfl)) dX7_record_43 ⟨Nat.le_of_ble_eq_true rfl, Nat.le_of_ble_eq_true rfl⟩) hw (fun v h' H locs hp hw => ?_)
      obtain ⟨ta', rfl, q1, q2, q3⟩ := hp
      refine W.eq (g2 := F0 m 46 ls [.int (nI ty.length)]) rfl ?_
      subst c1
      have e9 : fRec S 0 = (nI S.length, S ++ [(3, 0, 0, 0, 0, [], false)]) := by
        unfold fRec
        rw [if_neg (by decide), if_neg hnf]
        rfl
      have hc9 : cM k' q (3, 0, 0, 0, 0, [], false) ql [] := ⟨w2.trans (by rw [if_neg (by decide : ¬ (4 : Int32) < 0)]; rfl), rfl, fun j y d hj => (by cases hj)⟩
      exact r_int hx hb hr hlocks hw dX7_record_46 (Nat.le_of_ble_eq_true rfl) (Nat.le_of_ble_eq_true rfl) (⟨by rw [e9, hlen], by rw [e9]; exact ⟨_, _, _, _, _, _, _, MR_app ql hR1 (w_z hw) (ty_freshM (MR_ty hR0) hq) hc9 ⟨hALq, (ne_n hk0 hql).symm, fun k9 hk9 => by obtain ⟨⟨m9, z9⟩, -, -⟩ := (hG.2.2.1 k9 hk9 trivial).1; exact (ne_n z9 hql).symm⟩ q1 q2 q3⟩⟩)
    · have hfu : 300 ≤ S.length := by have := (nI_eq (b := 300) (by omega) (by decide)).mp c21; omega
      refine lv_bipush (v := (-2)) hx hb dX7_record_24 (by decide) ?_
      refine lv_goto (tgt := 46) hx hb dX7_record_26 (by decide) ?_
      subst c1
      have e9 : fRec S 0 = (-2, S) := by
        unfold fRec
        rw [if_neg (by decide), if_pos hfu]
      exact r_int hx hb hr hlocks hw dX7_record_46 (Nat.le_of_ble_eq_true rfl) (Nat.le_of_ble_eq_true rfl) (⟨by rw [e9], by rw [e9]; exact ⟨tl, ta, ty, al, aa, ab, P, hR0⟩⟩)
  · refine lv_iload_n hx hb dX7_record_4 rfl (lv_at hl 1 rfl) ?_
    refine lv_iconst (v := 1) hx hb dX7_record_5 (by decide) ?_
    refine lv_icmp_eq (tgt := 11) hx hb dX7_record_6 (by decide) (fun c6 => ?_) (fun c6 => ?_)
    · refine lv_aload_n hx hb dX7_record_11 rfl (lv_at hl 0 rfl) ?_
      refine w_get (ci := 7) (C := RX7) (T := TX7) (N := 8) (ref := "LayoutDeskModel") hx hb hts in_X7_record_7 hown hw hm rfl 0 (by decide) (hts (.fieldLink RX7 10 "LayoutDeskModel" "types" "Ljava/util/ArrayList;") (by decide +kernel)) (fun _ h9 => h9) rfl dX7_record_12 ?_
      refine w_call (va_runV (As := []) (rest := []) ⟨hx, hb, hml, hown, hts⟩ (c_sizeL l g h tl ta ty hL s.heap.size) (cwV 0 hts gX7_record_Jx4a65c_size_8abf5 rfl rfl rfl (by decide +kernel) ⟨Nat.le_of_ble_eq_true rfl, Nat.le_of_ble_eq_true rfl⟩) ⟨pr_blind, w_recv hw hk0 rfl, pr_of hw⟩ rfl rfl hl.1 rfl (lv_room (Nat.le_of_ble_eq_true rfl)) dX7_record_15 ⟨Nat.le_of_ble_eq_true rfl, Nat.le_of_ble_eq_true rfl⟩) hw (fun v h' H locs hp hw => ?_)
      obtain ⟨rfl, rfl⟩ := hp
      refine W.eq (g2 := F0 m 18 ls [.int (nI ty.length)]) rfl ?_
      refine lv_sipush (v := 300) hx hb dX7_record_18 (by decide) ?_
      refine lv_icmp_ne (tgt := 29) hx hb dX7_record_21 (by decide) (fun c21 => ?_) (fun c21 => ?_)
      · have hnf : ¬ 300 ≤ S.length := fun z => c21 (by rw [show ty.length = 300 by have := hS.2.1; omega]; rfl)
        refine lv_aload_n hx hb dX7_record_29 rfl (lv_at hl 0 rfl) ?_
        refine w_new (ci := 6) (C := RX6) (T := TX6) (N := 7) (fs := [.int 0, .int 0, .int 0, .int 0, .int 0, .null, .int 0]) hx hb hts in_X7_record_6 tyX6 tyX6_ok hown (hts (.classLink RX7 29 RX6) (by decide +kernel)) (hts (.instantiable RX6 7) (by decide +kernel)) (hts (.initialized RX6) (by decide +kernel)) hw rfl (fun j hj => by rcases (show j = 0 ∨ j = 1 ∨ j = 2 ∨ j = 3 ∨ j = 4 ∨ j = 5 ∨ j = 6 by omega) with rfl | rfl | rfl | rfl | rfl | rfl | rfl <;> rfl) (Nat.le_of_ble_eq_true rfl) (Nat.le_of_ble_eq_true rfl) dX7_record_30 (fun q H hq hw => ?_)
        refine lv_dup hx hb dX7_record_33 rfl ?_
        refine lv_iconst (v := 3) hx hb dX7_record_34 (by decide) ?_
        refine lv_iload_n hx hb dX7_record_35 rfl (lv_at hl 1 rfl) ?_
        refine lv_iadd hx hb dX7_record_36 ?_
        refine lv_iconst (v := 0) hx hb dX7_record_37 (by decide) ?_
        refine lv_iconst (v := 0) hx hb dX7_record_38 (by decide) ?_
        refine lv_iconst (v := 0) hx hb dX7_record_39 (by decide) ?_
        refine w_call (va_runI (As := [.int (3 + k), .int 0, .int 0, .int 0]) (rest := [.ref q, .ref mo]) ⟨hx, hb, hml, hown, hts⟩ (c_MType_init l g (wu h q (.inr (6, [.int 0, .int 0, .int 0, .int 0, .int 0, .null, .int 0]))) q (3 + k) 0 0 0 (wu_s _ _ _) H.size) (cwI 4 hts gX7_record_X6_init rfl rfl rfl (hts (.initialized RX6) (by decide +kernel)) (hts (.methodLink RX7 31 yX6_init) (by decide +kernel)) (hts (.instanceMethod yX6_init) (by decide +kernel)) rfl (by decide +kernel) ⟨Nat.le_of_ble_eq_true rfl, Nat.le_of_ble_eq_true rfl⟩) ⟨pr_blind, pr_of hw⟩ rfl rfl hl.1 rfl (lv_room (Nat.le_of_ble_eq_true rfl)) dX7_record_40 ⟨Nat.le_of_ble_eq_true rfl, Nat.le_of_ble_eq_true rfl⟩) hw (fun v k' H locs hp hw => ?_)
        obtain ⟨ql, rfl, w1, w2, w3, w4⟩ := hp
        refine W.eq (g2 := F0 m 43 ls [.ref q, .ref mo]) rfl ?_
        have nqq : ql ≠ q := fun z => by rw [z, wu_s] at w1; cases w1
        have hql : h ql = none := (wu_n nqq).symm.trans w1
        have hex : ext h k' := fun z e9 hz => (w4 z (ne_n hz hq) (ne_n hz hql)).trans ((wu_n (ne_n hz hq)).trans hz)
        have hR1 : MR0 g k' mo S tl ta ty al aa ab P := MR_ext hR0 hex (w_z hw)
        have hz1 := w_z hw
        have hALq : AL g k' ql (gZ g) [] := ⟨⟨0, w3⟩, fun z hz => (by cases hz), Or.inr ⟨rfl, hz1, rfl⟩⟩
        refine w_call (va_runV (As := [.ref q]) (rest := []) ⟨hx, hb, hml, hown, hts⟩ (c_made l g k' mo tl ta P.1 P.2.1 P.2.2.1 P.2.2.2 mem rea ali ty (hex _ _ hm) hR1.2.2.2.2.1.1 q ⟨6, _, w2, by decide, by decide⟩ (by omega) H.size) (cwV 1 hts gX7_record_X7_made rfl rfl rfl (by decide +kernel) ⟨Nat.le_of_ble_eq_true rfl, Nat.le_of_ble_eq_true rfl⟩) ⟨pr_blind, w_recv hw (hex _ _ hm) rfl, pr_of hw⟩ rfl rfl hl.1 rfl (lv_room (Nat.le_of_ble_eq_true rfl)) dX7_record_43 ⟨Nat.le_of_ble_eq_true rfl, Nat.le_of_ble_eq_true rfl⟩) hw (fun v h' H locs hp hw => ?_)
        obtain ⟨ta', rfl, q1, q2, q3⟩ := hp
        refine W.eq (g2 := F0 m 46 ls [.int (nI ty.length)]) rfl ?_
        subst c6
        have e9 : fRec S 1 = (nI S.length, S ++ [(4, 0, 0, 0, 0, [], false)]) := by
          unfold fRec
          rw [if_neg (by decide), if_neg hnf]
          rfl
        have hc9 : cM k' q (4, 0, 0, 0, 0, [], false) ql [] := ⟨w2.trans (by rw [if_neg (by decide : ¬ (4 : Int32) < 0)]; rfl), rfl, fun j y d hj => (by cases hj)⟩
        exact r_int hx hb hr hlocks hw dX7_record_46 (Nat.le_of_ble_eq_true rfl) (Nat.le_of_ble_eq_true rfl) (⟨by rw [e9, hlen], by rw [e9]; exact ⟨_, _, _, _, _, _, _, MR_app ql hR1 (w_z hw) (ty_freshM (MR_ty hR0) hq) hc9 ⟨hALq, (ne_n hk0 hql).symm, fun k9 hk9 => by obtain ⟨⟨m9, z9⟩, -, -⟩ := (hG.2.2.1 k9 hk9 trivial).1; exact (ne_n z9 hql).symm⟩ q1 q2 q3⟩⟩)
      · have hfu : 300 ≤ S.length := by have := (nI_eq (b := 300) (by omega) (by decide)).mp c21; omega
        refine lv_bipush (v := (-2)) hx hb dX7_record_24 (by decide) ?_
        refine lv_goto (tgt := 46) hx hb dX7_record_26 (by decide) ?_
        subst c6
        have e9 : fRec S 1 = (-2, S) := by
          unfold fRec
          rw [if_neg (by decide), if_pos hfu]
        exact r_int hx hb hr hlocks hw dX7_record_46 (Nat.le_of_ble_eq_true rfl) (Nat.le_of_ble_eq_true rfl) (⟨by rw [e9], by rw [e9]; exact ⟨tl, ta, ty, al, aa, ab, P, hR0⟩⟩)
    · refine lv_iconst (v := (-1)) hx hb dX7_record_9 (by decide) ?_
      have e9 : fRec S k = (-1, S) := by simp [fRec, c1, c6]
      exact r_int hx hb hr hlocks hw dX7_record_10 (Nat.le_of_ble_eq_true rfl) (Nat.le_of_ble_eq_true rfl) (⟨by rw [e9], by rw [e9]; exact ⟨tl, ta, ty, al, aa, ab, P, hR0⟩⟩)
set_option maxHeartbeats 4000000 in
set_option maxRecDepth 100000 in
theorem m_separate_N1 (l : Launch) (g : GG) (h : Nat → Option va_E) (mo : Nat) (S : List TyS) (N : Nat) (hR : MR g h mo S) (hS : wfS N S) (hN : N ≤ 520) (r : Int32) (hto : lkO S r = none) (ht : lk S r = none) : Con l yX7_separate wsX7_separate 7 171 2 803 [.ref mo, .int r] g h (fun v h' => v = some (.int (fSep S r).1) ∧ MR g h' mo (fSep S r).2) := by
  obtain ⟨tl, ta, ty, al, aa, ab, P, hR0⟩ := hR
  obtain ⟨⟨mem, rea, ali, hm⟩, hs, hd, hz9, hG, hlen, -⟩ := id hR0
  have hL := hG.1
  have hn9 := AL_len hL
  obtain ⟨⟨mck, hk0⟩, -, -⟩ := id hL
  have htn := MR_lkN hR0 ht
  refine m_start (cc := cX7_separate) (maxL := 3) (ret := (some .boolean)) (by decide) rfl (Nat.le_of_ble_eq_true rfl) ?_
  intro p e s m below meth c A ls hx hb hr hml hts hown hlocks hin hw hl
  have hl : lv_has ls 3 [(0, .ref mo), (1, .int r)] := hl
  have hown : s.vm.findClass RX7 = some m.cls := hown
  refine lv_aload_n hx hb dX7_separate_0 rfl (lv_at hl 0 rfl) ?_
  refine lv_iload_n hx hb dX7_separate_1 rfl (lv_at hl 1 rfl) ?_
  refine w_call (va_runV (As := [.int r]) (rest := []) ⟨hx, hb, hml, hown, hts⟩ (c_open_MN l g h mo tl ta P.1 P.2.1 P.2.2.1 P.2.2.2 mem rea ali ty hm hL r htn s.heap.size) (cwV 1 hts gX7_separate_X7_open rfl rfl rfl (by decide +kernel) ⟨Nat.le_of_ble_eq_true rfl, Nat.le_of_ble_eq_true rfl⟩) ⟨pr_blind, w_recv hw hm rfl, pr_of hw⟩ rfl rfl hl.1 rfl (lv_room (Nat.le_of_ble_eq_true rfl)) dX7_separate_2 ⟨Nat.le_of_ble_eq_true rfl, Nat.le_of_ble_eq_true rfl⟩) hw (fun v h' H locs hp hw => ?_)
  obtain ⟨rfl, rfl⟩ := hp
  refine W.eq (g2 := F0 m 5 ls [.null]) rfl ?_
  refine lv_astore_nN (lv' := [(2, .null), (0, .ref mo), (1, .int r)]) hx hb dX7_separate_5 rfl hl (by decide) rfl (fun ls hl => ?_)
  refine lv_aload_nN hx hb dX7_separate_6 rfl (lv_at hl 0 rfl) ?_
  refine lv_ifnonnullN hx hb dX7_separate_7 ?_
  refine lv_iconst (v := 0) hx hb dX7_separate_10 (by decide) ?_
  have e9 : fSep S r = (0, S) := by simp [fSep, hto]
  exact r_bool hx hb hr hlocks hw rfl dX7_separate_11 (Nat.le_of_ble_eq_true rfl) (Nat.le_of_ble_eq_true rfl) (⟨by rw [e9], by rw [e9]; exact ⟨tl, ta, ty, al, aa, ab, P, hR0⟩⟩)
set_option maxHeartbeats 4000000 in
set_option maxRecDepth 100000 in
theorem m_separate_N2 (l : Launch) (g : GG) (h : Nat → Option va_E) (mo : Nat) (S : List TyS) (N : Nat) (hR : MR g h mo S) (hS : wfS N S) (hN : N ≤ 520) (r : Int32) (T : TyS) (hto : lkO S r = none) (ht : lk S r = some T) (hcl : tK T < 3 ∨ tFi T = true) : Con l yX7_separate wsX7_separate 7 171 2 803 [.ref mo, .int r] g h (fun v h' => v = some (.int (fSep S r).1) ∧ MR g h' mo (fSep S r).2) := by
  obtain ⟨tl, ta, ty, al, aa, ab, P, hR0⟩ := hR
  obtain ⟨⟨mem, rea, ali, hm⟩, hs, hd, hz9, hG, hlen, -⟩ := id hR0
  have hL := hG.1
  have hn9 := AL_len hL
  obtain ⟨⟨mck, hk0⟩, -, -⟩ := id hL
  obtain ⟨a, ha1, ha2, ha3, hc⟩ := MR_lk hR0 ht
  have ha := hc.1
  obtain ⟨hw1, hw2, hw3, hw4, hw5, hw6, hw7, hw8⟩ := (hS.2.2 _ _ ha3).1
  refine m_start (cc := cX7_separate) (maxL := 3) (ret := (some .boolean)) (by decide) rfl (Nat.le_of_ble_eq_true rfl) ?_
  intro p e s m below meth c A ls hx hb hr hml hts hown hlocks hin hw hl
  have hl : lv_has ls 3 [(0, .ref mo), (1, .int r)] := hl
  have hown : s.vm.findClass RX7 = some m.cls := hown
  refine lv_aload_n hx hb dX7_separate_0 rfl (lv_at hl 0 rfl) ?_
  refine lv_iload_n hx hb dX7_separate_1 rfl (lv_at hl 1 rfl) ?_
  refine w_call (va_runV (As := [.int r]) (rest := []) ⟨hx, hb, hml, hown, hts⟩ (c_open_MC l g h mo tl ta P.1 P.2.1 P.2.2.1 P.2.2.2 mem rea ali ty hm hL r a (al r.toNatClampNeg) (tK T) (nI (tTo T)) (nI (tLn T)) (nI (tSz T)) (mAl T) (if tFi T = true then 1 else 0) hw1 ha1 ha (hcl.imp id (fun z => by rw [z]; rfl)) s.heap.size) (cwV 1 hts gX7_separate_X7_open rfl rfl rfl (by decide +kernel) ⟨Nat.le_of_ble_eq_true rfl, Nat.le_of_ble_eq_true rfl⟩) ⟨pr_blind, w_recv hw hm rfl, pr_of hw⟩ rfl rfl hl.1 rfl (lv_room (Nat.le_of_ble_eq_true rfl)) dX7_separate_2 ⟨Nat.le_of_ble_eq_true rfl, Nat.le_of_ble_eq_true rfl⟩) hw (fun v h' H locs hp hw => ?_)
  obtain ⟨rfl, rfl⟩ := hp
  refine W.eq (g2 := F0 m 5 ls [.null]) rfl ?_
  refine lv_astore_nN (lv' := [(2, .null), (0, .ref mo), (1, .int r)]) hx hb dX7_separate_5 rfl hl (by decide) rfl (fun ls hl => ?_)
  refine lv_aload_nN hx hb dX7_separate_6 rfl (lv_at hl 0 rfl) ?_
  refine lv_ifnonnullN hx hb dX7_separate_7 ?_
  refine lv_iconst (v := 0) hx hb dX7_separate_10 (by decide) ?_
  have e9 : fSep S r = (0, S) := by simp [fSep, hto]
  exact r_bool hx hb hr hlocks hw rfl dX7_separate_11 (Nat.le_of_ble_eq_true rfl) (Nat.le_of_ble_eq_true rfl) (⟨by rw [e9], by rw [e9]; exact ⟨tl, ta, ty, al, aa, ab, P, hR0⟩⟩)
theorem in_X7_separate_5 : ∀ w ∈ u_ws RX5 TX5 3, w ∈ wsX7_separate := by decide +kernel
theorem in_X7_separate_6 : ∀ w ∈ u_ws RX6 TX6 7, w ∈ wsX7_separate := by decide +kernel
set_option maxHeartbeats 4000000 in
set_option maxRecDepth 100000 in
theorem m_separate_O (l : Launch) (g : GG) (h : Nat → Option va_E) (mo : Nat) (S : List TyS) (N : Nat) (hR : MR g h mo S) (hS : wfS N S) (hN : N ≤ 520) (r : Int32) (T : TyS) (hto : lkO S r = some T) : Con l yX7_separate wsX7_separate 7 171 2 803 [.ref mo, .int r] g h (fun v h' => v = some (.int (fSep S r).1) ∧ MR g h' mo (fSep S r).2) := by
  obtain ⟨ht, hk, hfi⟩ := lkO_some hto
  obtain ⟨tl, ta, ty, al, aa, ab, P, hR0⟩ := hR
  obtain ⟨⟨mem, rea, ali, hm⟩, hs, hd, hz9, hG, hlen, -⟩ := id hR0
  have hL := hG.1
  have hn9 := AL_len hL
  obtain ⟨⟨mck, hk0⟩, -, -⟩ := id hL
  obtain ⟨a, ha1, ha2, ha3, hc⟩ := MR_lk hR0 ht
  have ha := hc.1
  obtain ⟨hw1, hw2, hw3, hw4, hw5, hw6, hw7, hw8⟩ := (hS.2.2 _ _ ha3).1
  obtain ⟨hf1, hf2, hf3, hf4⟩ := hw8 hk
  obtain ⟨hAL, hal1, -⟩ := hG.2.2.1 r.toNatClampNeg (by have := (List.getElem?_eq_some_iff.mp ha2).1; omega) trivial
  obtain ⟨⟨mca, hal0⟩, -, -⟩ := id hAL
  have hm0 : mAl T = 0 := if_pos ⟨hk, hfi⟩
  refine m_start (cc := cX7_separate) (maxL := 3) (ret := (some .boolean)) (by decide) rfl (Nat.le_of_ble_eq_true rfl) ?_
  intro p e s m below meth c A ls hx hb hr hml hts hown hlocks hin hw hl
  have hl : lv_has ls 3 [(0, .ref mo), (1, .int r)] := hl
  have hown : s.vm.findClass RX7 = some m.cls := hown
  refine lv_aload_n hx hb dX7_separate_0 rfl (lv_at hl 0 rfl) ?_
  refine lv_iload_n hx hb dX7_separate_1 rfl (lv_at hl 1 rfl) ?_
  refine w_call (va_runV (As := [.int r]) (rest := []) ⟨hx, hb, hml, hown, hts⟩ (c_open_MO l g h mo tl ta P.1 P.2.1 P.2.2.1 P.2.2.2 mem rea ali ty hm hL r a (al r.toNatClampNeg) (tK T) (nI (tTo T)) (nI (tLn T)) (nI (tSz T)) (mAl T) (if tFi T = true then 1 else 0) hw1 ha1 ha ⟨hk, by rw [hfi]; rfl⟩ s.heap.size) (cwV 1 hts gX7_separate_X7_open rfl rfl rfl (by decide +kernel) ⟨Nat.le_of_ble_eq_true rfl, Nat.le_of_ble_eq_true rfl⟩) ⟨pr_blind, w_recv hw hm rfl, pr_of hw⟩ rfl rfl hl.1 rfl (lv_room (Nat.le_of_ble_eq_true rfl)) dX7_separate_2 ⟨Nat.le_of_ble_eq_true rfl, Nat.le_of_ble_eq_true rfl⟩) hw (fun v h' H locs hp hw => ?_)
  obtain ⟨rfl, rfl⟩ := hp
  refine W.eq (g2 := F0 m 5 ls [.ref a]) rfl ?_
  refine lv_astore_n (lv' := [(2, .ref a), (0, .ref mo), (1, .int r)]) hx hb dX7_separate_5 rfl hl (by decide) rfl (fun ls hl => ?_)
  refine lv_aload_n hx hb dX7_separate_6 rfl (lv_at hl 0 rfl) ?_
  refine lv_ifnonnull (tgt := 12) hx hb dX7_separate_7 (by decide) ?_
  refine lv_aload_n hx hb dX7_separate_12 rfl (lv_at hl 0 rfl) ?_
  refine w_get (ci := 6) (C := RX6) (T := TX6) (N := 7) (ref := "LayoutDeskModel$Type") hx hb hts in_X7_separate_6 hown hw ha rfl 5 (by decide) (hts (.fieldLink RX7 95 "LayoutDeskModel$Type" "added" "Ljava/util/ArrayList;") (by decide +kernel)) (fun _ h9 => h9) rfl dX7_separate_13 ?_
  refine w_new (ci := 5) (C := RX5) (T := TX5) (N := 3) (fs := [.int 0, .int 0, .int 0]) hx hb hts in_X7_separate_5 tyX5 tyX5_ok hown (hts (.classLink RX7 98 RX5) (by decide +kernel)) (hts (.instantiable RX5 3) (by decide +kernel)) (hts (.initialized RX5) (by decide +kernel)) hw rfl (fun j hj => by rcases (show j = 0 ∨ j = 1 ∨ j = 2 by omega) with rfl | rfl | rfl <;> rfl) (Nat.le_of_ble_eq_true rfl) (Nat.le_of_ble_eq_true rfl) dX7_separate_16 (fun q H hq hw => ?_)
  refine lv_dup hx hb dX7_separate_19 rfl ?_
  refine lv_iconst (v := (-1)) hx hb dX7_separate_20 (by decide) ?_
  refine lv_iconst (v := 0) hx hb dX7_separate_21 (by decide) ?_
  refine lv_iconst (v := 0) hx hb dX7_separate_22 (by decide) ?_
  refine w_call (va_runI (As := [.int (-1), .int 0, .int 0]) (rest := [.ref q, .ref (al r.toNatClampNeg)]) ⟨hx, hb, hml, hown, hts⟩ (c_Added_init l g (wu h q (.inr (5, [.int 0, .int 0, .int 0]))) q 0 0 0 (-1) 0 0 (Or.inl rfl) (wu_s _ _ _) H.size) (cwI 3 hts gX7_separate_X5_init rfl rfl rfl (hts (.initialized RX5) (by decide +kernel)) (hts (.methodLink RX7 123 yX5_init) (by decide +kernel)) (hts (.instanceMethod yX5_init) (by decide +kernel)) rfl (by decide +kernel) ⟨Nat.le_of_ble_eq_true rfl, Nat.le_of_ble_eq_true rfl⟩) ⟨pr_blind, pr_of hw⟩ rfl rfl hl.1 rfl (lv_room (Nat.le_of_ble_eq_true rfl)) dX7_separate_23 ⟨Nat.le_of_ble_eq_true rfl, Nat.le_of_ble_eq_true rfl⟩) hw (fun v h' H locs hp hw => ?_)
  obtain ⟨rfl, rfl⟩ := hp
  refine W.eq (g2 := F0 m 26 ls [.ref q, .ref (al r.toNatClampNeg)]) rfl ?_
  have hexq : ext h (wu (wu h q (.inr (5, [.int 0, .int 0, .int 0]))) q (.inr (5, [.int (-1), .int 0, .int 0]))) := ext_re (ext_new hq) hq
  have hR1 : MR0 g (wu (wu h q (.inr (5, [.int 0, .int 0, .int 0]))) q (.inr (5, [.int (-1), .int 0, .int 0]))) mo S tl ta ty al aa ab P := MR_ext hR0 hexq (w_z hw)
  have hAL1 := (hR1.2.2.2.2.1.2.2.1 r.toNatClampNeg (by have := (List.getElem?_eq_some_iff.mp ha2).1; omega) trivial).1
  refine w_call (va_runV (As := [.ref q]) (rest := []) ⟨hx, hb, hml, hown, hts⟩ (c_AL_add l g (wu (wu h q (.inr (5, [.int 0, .int 0, .int 0]))) q (.inr (5, [.int (-1), .int 0, .int 0]))) (al r.toNatClampNeg) (aa r.toNatClampNeg) q (ab r.toNatClampNeg) hAL1 ⟨5, _, wu_s _ _ _, by decide, by decide⟩ (by rw [hc.2.1]; omega) H.size) (cwV 1 hts gX7_separate_Jx4a65c_add_9ea2d rfl rfl rfl (by decide +kernel) ⟨Nat.le_of_ble_eq_true rfl, Nat.le_of_ble_eq_true rfl⟩) ⟨pr_blind, w_recv hw (hexq _ _ hal0) rfl, pr_of hw⟩ rfl rfl hl.1 rfl (lv_room (Nat.le_of_ble_eq_true rfl)) dX7_separate_26 ⟨Nat.le_of_ble_eq_true rfl, Nat.le_of_ble_eq_true rfl⟩) hw (fun v k' H locs hp hw => ?_)
  obtain ⟨m', rfl, q1, q2, q3⟩ := hp
  refine W.eq (g2 := F0 m 29 ls [.int 1]) rfl ?_
  have keep : ∀ z ci fs, (wu (wu h q (.inr (5, [.int 0, .int 0, .int 0]))) q (.inr (5, [.int (-1), .int 0, .int 0]))) z = some (.inr (ci, fs)) → ci ≠ 0 → k' z = (wu (wu h q (.inr (5, [.int 0, .int 0, .int 0]))) q (.inr (5, [.int (-1), .int 0, .int 0]))) z := fun z ci fs e1 e2 => add_keep hAL1 q1 q3 e1 e2
  have hc2 : cM k' a (tPush T ((none, 0, false, 0, 0) : AdS)) (al r.toNatClampNeg) (ab r.toNatClampNeg ++ [q]) := ⟨(keep a _ _ (hexq _ _ ha) (by decide)).trans ((hexq _ _ ha).trans (by rw [hm0]; show _ = some (oTy (nI (tK T)) (nI (tTo T)) (nI (tLn T)) (nI (tSz T)) (mAl (tPush T ((none, 0, false, 0, 0) : AdS))) (al r.toNatClampNeg) (if tFi T = true then 1 else 0)); rw [show mAl (tPush T ((none, 0, false, 0, 0) : AdS)) = 0 from if_pos ⟨hk, hfi⟩])), by rw [List.length_append, hc.2.1]; show _ = (tAd T ++ [_]).length; rw [List.length_append]; rfl, fun j y d9 hj hd9 => by
    have hd9 : (tAd T ++ [((none, 0, false, 0, 0) : AdS)])[j]? = some d9 := hd9
    rcases Nat.lt_or_ge j (ab r.toNatClampNeg).length with c9 | c9
    · rw [List.getElem?_append_left c9] at hj
      rw [List.getElem?_append_left (by rw [← hc.2.1]; exact c9)] at hd9
      have e8 := hexq _ _ (hc.2.2 j y d9 hj hd9)
      exact (keep y _ _ e8 (by decide)).trans e8
    · rw [List.getElem?_append_right c9] at hj
      rw [List.getElem?_append_right (by rw [← hc.2.1]; exact c9), ← hc.2.1] at hd9
      have e0 : j - (ab r.toNatClampNeg).length = 0 := by
        have := (List.getElem?_eq_some_iff.mp hj).1
        simp at this
        omega
      rw [e0] at hj hd9
      cases hj
      cases hd9
      exact (keep q _ _ (wu_s _ _ _) (by decide)).trans ((wu_s _ _ _).trans (by rfl))⟩
  have hR2 := MR_list hR1 (w_z hw) ha3 ha2 q1 q2 q3 hc2
  refine lv_pop hx hb dX7_separate_29 rfl ?_
  refine lv_iconst (v := 1) hx hb dX7_separate_30 (by decide) ?_
  have e9 : fSep S r = (1, S.set r.toNatClampNeg (tPush T ((none, 0, false, 0, 0) : AdS))) := by simp [fSep, hto]
  exact r_bool hx hb hr hlocks hw rfl dX7_separate_31 (Nat.le_of_ble_eq_true rfl) (Nat.le_of_ble_eq_true rfl) (⟨by rw [e9], by rw [e9]; exact ⟨_, _, _, _, _, _, _, hR2⟩⟩)
theorem m_separate (l : Launch) (g : GG) (h : Nat → Option va_E) (mo : Nat) (S : List TyS) (N : Nat) (hR : MR g h mo S) (hS : wfS N S) (hN : N ≤ 520) (r : Int32) : Con l yX7_separate wsX7_separate 7 171 2 803 [.ref mo, .int r] g h (fun v h' => v = some (.int (fSep S r).1) ∧ MR g h' mo (fSep S r).2) := by
  cases hto : lkO S r with
  | none =>
    rcases lkO_none hto with z | ⟨T, z1, z2⟩
    · exact m_separate_N1 l g h mo S N hR hS hN r hto z
    · exact m_separate_N2 l g h mo S N hR hS hN r T hto z1 z2
  | some T => exact m_separate_O l g h mo S N hR hS hN r T hto
set_option maxHeartbeats 4000000 in
set_option maxRecDepth 100000 in
theorem m_finish_N1 (l : Launch) (g : GG) (h : Nat → Option va_E) (mo : Nat) (S : List TyS) (N : Nat) (hR : MR g h mo S) (hS : wfS N S) (r : Int32) (hto : lkO S r = none) (ht : lk S r = none) : Con l yX7_finish wsX7_finish 4 100 0 0 [.ref mo, .int r] g h (fun v h' => v = some (.int (fFin S r).1) ∧ MR g h' mo (fFin S r).2) := by
  obtain ⟨tl, ta, ty, al, aa, ab, P, hR0⟩ := hR
  obtain ⟨⟨mem, rea, ali, hm⟩, hs, hd, hz9, hG, hlen, -⟩ := id hR0
  have hL := hG.1
  have hn9 := AL_len hL
  obtain ⟨⟨mck, hk0⟩, -, -⟩ := id hL
  have htn := MR_lkN hR0 ht
  refine m_start (cc := cX7_finish) (maxL := 3) (ret := (some .int)) (by decide) rfl (Nat.le_of_ble_eq_true rfl) ?_
  intro p e s m below meth c A ls hx hb hr hml hts hown hlocks hin hw hl
  have hl : lv_has ls 3 [(0, .ref mo), (1, .int r)] := hl
  have hown : s.vm.findClass RX7 = some m.cls := hown
  refine lv_aload_n hx hb dX7_finish_0 rfl (lv_at hl 0 rfl) ?_
  refine lv_iload_n hx hb dX7_finish_1 rfl (lv_at hl 1 rfl) ?_
  refine w_call (va_runV (As := [.int r]) (rest := []) ⟨hx, hb, hml, hown, hts⟩ (c_open_MN l g h mo tl ta P.1 P.2.1 P.2.2.1 P.2.2.2 mem rea ali ty hm hL r htn s.heap.size) (cwV 1 hts gX7_finish_X7_open rfl rfl rfl (by decide +kernel) ⟨Nat.le_of_ble_eq_true rfl, Nat.le_of_ble_eq_true rfl⟩) ⟨pr_blind, w_recv hw hm rfl, pr_of hw⟩ rfl rfl hl.1 rfl (lv_room (Nat.le_of_ble_eq_true rfl)) dX7_finish_2 ⟨Nat.le_of_ble_eq_true rfl, Nat.le_of_ble_eq_true rfl⟩) hw (fun v h' H locs hp hw => ?_)
  obtain ⟨rfl, rfl⟩ := hp
  refine W.eq (g2 := F0 m 5 ls [.null]) rfl ?_
  refine lv_astore_nN (lv' := [(2, .null), (0, .ref mo), (1, .int r)]) hx hb dX7_finish_5 rfl hl (by decide) rfl (fun ls hl => ?_)
  refine lv_aload_nN hx hb dX7_finish_6 rfl (lv_at hl 0 rfl) ?_
  refine lv_ifnonnullN hx hb dX7_finish_7 ?_
  refine lv_iconst (v := (-1)) hx hb dX7_finish_10 (by decide) ?_
  have e9 : fFin S r = (-1, S) := by simp [fFin, hto]
  exact r_int hx hb hr hlocks hw dX7_finish_11 (Nat.le_of_ble_eq_true rfl) (Nat.le_of_ble_eq_true rfl) (⟨by rw [e9], by rw [e9]; exact ⟨tl, ta, ty, al, aa, ab, P, hR0⟩⟩)
set_option maxHeartbeats 4000000 in
set_option maxRecDepth 100000 in
theorem m_finish_N2 (l : Launch) (g : GG) (h : Nat → Option va_E) (mo : Nat) (S : List TyS) (N : Nat) (hR : MR g h mo S) (hS : wfS N S) (r : Int32) (T : TyS) (hto : lkO S r = none) (ht : lk S r = some T) (hcl : tK T < 3 ∨ tFi T = true) : Con l yX7_finish wsX7_finish 4 100 0 0 [.ref mo, .int r] g h (fun v h' => v = some (.int (fFin S r).1) ∧ MR g h' mo (fFin S r).2) := by
  obtain ⟨tl, ta, ty, al, aa, ab, P, hR0⟩ := hR
  obtain ⟨⟨mem, rea, ali, hm⟩, hs, hd, hz9, hG, hlen, -⟩ := id hR0
  have hL := hG.1
  have hn9 := AL_len hL
  obtain ⟨⟨mck, hk0⟩, -, -⟩ := id hL
  obtain ⟨a, ha1, ha2, ha3, hc⟩ := MR_lk hR0 ht
  have ha := hc.1
  obtain ⟨hw1, hw2, hw3, hw4, hw5, hw6, hw7, hw8⟩ := (hS.2.2 _ _ ha3).1
  refine m_start (cc := cX7_finish) (maxL := 3) (ret := (some .int)) (by decide) rfl (Nat.le_of_ble_eq_true rfl) ?_
  intro p e s m below meth c A ls hx hb hr hml hts hown hlocks hin hw hl
  have hl : lv_has ls 3 [(0, .ref mo), (1, .int r)] := hl
  have hown : s.vm.findClass RX7 = some m.cls := hown
  refine lv_aload_n hx hb dX7_finish_0 rfl (lv_at hl 0 rfl) ?_
  refine lv_iload_n hx hb dX7_finish_1 rfl (lv_at hl 1 rfl) ?_
  refine w_call (va_runV (As := [.int r]) (rest := []) ⟨hx, hb, hml, hown, hts⟩ (c_open_MC l g h mo tl ta P.1 P.2.1 P.2.2.1 P.2.2.2 mem rea ali ty hm hL r a (al r.toNatClampNeg) (tK T) (nI (tTo T)) (nI (tLn T)) (nI (tSz T)) (mAl T) (if tFi T = true then 1 else 0) hw1 ha1 ha (hcl.imp id (fun z => by rw [z]; rfl)) s.heap.size) (cwV 1 hts gX7_finish_X7_open rfl rfl rfl (by decide +kernel) ⟨Nat.le_of_ble_eq_true rfl, Nat.le_of_ble_eq_true rfl⟩) ⟨pr_blind, w_recv hw hm rfl, pr_of hw⟩ rfl rfl hl.1 rfl (lv_room (Nat.le_of_ble_eq_true rfl)) dX7_finish_2 ⟨Nat.le_of_ble_eq_true rfl, Nat.le_of_ble_eq_true rfl⟩) hw (fun v h' H locs hp hw => ?_)
  obtain ⟨rfl, rfl⟩ := hp
  refine W.eq (g2 := F0 m 5 ls [.null]) rfl ?_
  refine lv_astore_nN (lv' := [(2, .null), (0, .ref mo), (1, .int r)]) hx hb dX7_finish_5 rfl hl (by decide) rfl (fun ls hl => ?_)
  refine lv_aload_nN hx hb dX7_finish_6 rfl (lv_at hl 0 rfl) ?_
  refine lv_ifnonnullN hx hb dX7_finish_7 ?_
  refine lv_iconst (v := (-1)) hx hb dX7_finish_10 (by decide) ?_
  have e9 : fFin S r = (-1, S) := by simp [fFin, hto]
  exact r_int hx hb hr hlocks hw dX7_finish_11 (Nat.le_of_ble_eq_true rfl) (Nat.le_of_ble_eq_true rfl) (⟨by rw [e9], by rw [e9]; exact ⟨tl, ta, ty, al, aa, ab, P, hR0⟩⟩)
theorem in_X7_finish_6 : ∀ w ∈ u_ws RX6 TX6 7, w ∈ wsX7_finish := by decide +kernel
theorem in_X7_finish_7 : ∀ w ∈ u_ws RX7 TX7 8, w ∈ wsX7_finish := by decide +kernel
set_option maxHeartbeats 4000000 in
set_option maxRecDepth 100000 in
theorem m_finish_O (l : Launch) (g : GG) (h : Nat → Option va_E) (mo : Nat) (S : List TyS) (N : Nat) (hR : MR g h mo S) (hS : wfS N S) (r : Int32) (T : TyS) (hto : lkO S r = some T) : Con l yX7_finish wsX7_finish 4 100 0 0 [.ref mo, .int r] g h (fun v h' => v = some (.int (fFin S r).1) ∧ MR g h' mo (fFin S r).2) := by
  obtain ⟨ht, hk, hfi⟩ := lkO_some hto
  obtain ⟨tl, ta, ty, al, aa, ab, P, hR0⟩ := hR
  obtain ⟨⟨mem, rea, ali, hm⟩, hs, hd, hz9, hG, hlen, -⟩ := id hR0
  have hL := hG.1
  have hn9 := AL_len hL
  obtain ⟨⟨mck, hk0⟩, -, -⟩ := id hL
  obtain ⟨a, ha1, ha2, ha3, hc⟩ := MR_lk hR0 ht
  have ha := hc.1
  obtain ⟨hw1, hw2, hw3, hw4, hw5, hw6, hw7, hw8⟩ := (hS.2.2 _ _ ha3).1
  obtain ⟨hf1, hf2, hf3, hf4⟩ := hw8 hk
  obtain ⟨hAL, hal1, -⟩ := hG.2.2.1 r.toNatClampNeg (by have := (List.getElem?_eq_some_iff.mp ha2).1; omega) trivial
  obtain ⟨⟨mca, hal0⟩, -, -⟩ := id hAL
  have hm0 : mAl T = 0 := if_pos ⟨hk, hfi⟩
  refine m_start (cc := cX7_finish) (maxL := 3) (ret := (some .int)) (by decide) rfl (Nat.le_of_ble_eq_true rfl) ?_
  intro p e s m below meth c A ls hx hb hr hml hts hown hlocks hin hw hl
  have hl : lv_has ls 3 [(0, .ref mo), (1, .int r)] := hl
  have hown : s.vm.findClass RX7 = some m.cls := hown
  refine lv_aload_n hx hb dX7_finish_0 rfl (lv_at hl 0 rfl) ?_
  refine lv_iload_n hx hb dX7_finish_1 rfl (lv_at hl 1 rfl) ?_
  refine w_call (va_runV (As := [.int r]) (rest := []) ⟨hx, hb, hml, hown, hts⟩ (c_open_MO l g h mo tl ta P.1 P.2.1 P.2.2.1 P.2.2.2 mem rea ali ty hm hL r a (al r.toNatClampNeg) (tK T) (nI (tTo T)) (nI (tLn T)) (nI (tSz T)) (mAl T) (if tFi T = true then 1 else 0) hw1 ha1 ha ⟨hk, by rw [hfi]; rfl⟩ s.heap.size) (cwV 1 hts gX7_finish_X7_open rfl rfl rfl (by decide +kernel) ⟨Nat.le_of_ble_eq_true rfl, Nat.le_of_ble_eq_true rfl⟩) ⟨pr_blind, w_recv hw hm rfl, pr_of hw⟩ rfl rfl hl.1 rfl (lv_room (Nat.le_of_ble_eq_true rfl)) dX7_finish_2 ⟨Nat.le_of_ble_eq_true rfl, Nat.le_of_ble_eq_true rfl⟩) hw (fun v h' H locs hp hw => ?_)
  obtain ⟨rfl, rfl⟩ := hp
  refine W.eq (g2 := F0 m 5 ls [.ref a]) rfl ?_
  refine lv_astore_n (lv' := [(2, .ref a), (0, .ref mo), (1, .int r)]) hx hb dX7_finish_5 rfl hl (by decide) rfl (fun ls hl => ?_)
  refine lv_aload_n hx hb dX7_finish_6 rfl (lv_at hl 0 rfl) ?_
  refine lv_ifnonnull (tgt := 12) hx hb dX7_finish_7 (by decide) ?_
  refine lv_aload_n hx hb dX7_finish_12 rfl (lv_at hl 1 rfl) ?_
  refine lv_aload_n hx hb dX7_finish_13 rfl (lv_at hl 0 rfl) ?_
  obtain ⟨hAL, -, -⟩ := hG.2.2.1 r.toNatClampNeg (by have := (List.getElem?_eq_some_iff.mp ha2).1; omega) trivial
  obtain ⟨hf1, hf2, hf3, hf4⟩ := hw8 hk
  refine w_call (va_runV (As := [.ref a]) (rest := []) ⟨hx, hb, hml, hown, hts⟩ (c_lay l g h mo a tl ta (al r.toNatClampNeg) (aa r.toNatClampNeg) (tK T) P ty (ab r.toNatClampNeg) (tAd T) (nI (tTo T)) (nI (tLn T)) (nI (tSz T)) (mAl T) (if tFi T = true then 1 else 0) ⟨_, _, _, hm⟩ hs hd hL hw1 ha hAL hc.2.1 hc.2.2 (layTy hR0 (wf_szS hS) (hS.2.2 _ _ ha3).2.2) (wf_bd hS ha3).1 (wf_bd hS ha3).2 (Nat.le_trans hf2 (by decide)) hf3 H.size) (cwV 1 hts gX7_finish_X7_lay rfl rfl rfl (by decide +kernel) ⟨Nat.le_of_ble_eq_true rfl, Nat.le_of_ble_eq_true rfl⟩) ⟨pr_blind, w_recv hw hm rfl, pr_of hw⟩ rfl rfl hl.1 rfl (lv_room (Nat.le_of_ble_eq_true rfl)) dX7_finish_14 ⟨Nat.le_of_ble_eq_true rfl, Nat.le_of_ble_eq_true rfl⟩) hw (fun v h' H locs hp hw => ?_)
  obtain ⟨rfl, hLW⟩ := hp
  refine W.eq (g2 := F0 m 17 ls []) rfl ?_
  have hLW : LW g h h' mo tl P (ly T) := hLW
  have hR1 := MR_lay hR0 hLW
  have ha' : h' a = some (oTy (nI (tK T)) (nI (tTo T)) (nI (tLn T)) (nI (tSz T)) (mAl T) (al r.toNatClampNeg) (if tFi T = true then 1 else 0)) := (sf_obj ⟨_, _, _, hm⟩ hs hLW.2.1 ha (by decide)).trans ha
  refine lv_aload_n hx hb dX7_finish_17 rfl (lv_at hl 1 rfl) ?_
  refine w_get (ci := 7) (C := RX7) (T := TX7) (N := 8) (ref := "LayoutDeskModel") hx hb hts in_X7_finish_7 hown hw hLW.1 rfl 5 (by decide) (hts (.fieldLink RX7 88 "LayoutDeskModel" "members" "I") (by decide +kernel)) (fun _ h9 => h9) rfl dX7_finish_18 ?_
  refine lv_if_ne (tgt := 27) hx hb dX7_finish_21 (by decide) (fun c21 => ?_) (fun c21 => ?_)
  · have hne9 : ¬ (ly T).2.2.2 = [] := fun z => c21 (by rw [z]; exact nI_0)
    refine lv_aload_n hx hb dX7_finish_27 rfl (lv_at hl 1 rfl) ?_
    refine w_get (ci := 7) (C := RX7) (T := TX7) (N := 8) (ref := "LayoutDeskModel") hx hb hts in_X7_finish_7 hown hw hLW.1 rfl 6 (by decide) (hts (.fieldLink RX7 91 "LayoutDeskModel" "reach" "I") (by decide +kernel)) (fun _ h9 => h9) rfl dX7_finish_28 ?_
    refine lv_aload_n hx hb dX7_finish_31 rfl (lv_at hl 1 rfl) ?_
    refine w_get (ci := 7) (C := RX7) (T := TX7) (N := 8) (ref := "LayoutDeskModel") hx hb hts in_X7_finish_7 hown hw hLW.1 rfl 7 (by decide) (hts (.fieldLink RX7 94 "LayoutDeskModel" "align" "I") (by decide +kernel)) (fun _ h9 => h9) rfl dX7_finish_32 ?_
    refine w_call (va_runS (As := [.int (nI (ly T).1), .int (nI (ly T).2.1)]) (rest := []) ⟨hx, hb, hml, hown, hts⟩ (c_up l g h' (ly T).1 (ly T).2.1 (by omega) (by omega) H.size) (va_cwS 2 hts gX7_finish_X7_up rfl rfl rfl (by decide +kernel) ⟨Nat.le_of_ble_eq_true rfl, Nat.le_of_ble_eq_true rfl⟩) ⟨pr_blind, pr_of hw⟩ rfl rfl hl.1 rfl (lv_room (Nat.le_of_ble_eq_true rfl)) dX7_finish_35 ⟨Nat.le_of_ble_eq_true rfl, Nat.le_of_ble_eq_true rfl⟩) hw (fun v h' H locs hp hw => ?_)
    obtain ⟨rfl, rfl⟩ := hp
    refine W.eq (g2 := F0 m 38 ls [.int (nI (rup (ly T).1 (ly T).2.1))]) rfl ?_
    refine lv_ldc (v := 524288) hx hb hown (hts (.constant RX7 76 (524288)) (by decide +kernel)) dX7_finish_38 ?_
    refine lv_icmp_le (tgt := 46) hx hb dX7_finish_40 (by decide) (fun c40 => ?_) (fun c40 => ?_)
    · refine lv_aload_n hx hb dX7_finish_46 rfl (lv_at hl 0 rfl) ?_
      refine lv_iconst (v := 1) hx hb dX7_finish_47 (by decide) ?_
      refine w_put (ci := 6) (C := RX6) (T := TX6) (N := 7) (ref := "LayoutDeskModel$Type") (ty := .boolean) (fs' := [.int (nI (tK T)), .int (nI (tTo T)), .int (nI (tLn T)), .int (nI (tSz T)), .int (mAl T), .ref (al r.toNatClampNeg), .int 1]) hx hb hts in_X7_finish_6 tyX6 tyX6_ok nmX6 hown hw ha' rfl 6 (by decide) (hts (.fieldLink RX7 54 "LayoutDeskModel$Type" "finished" "Z") (by decide +kernel)) (fun _ h9 => h9) rfl (by decide +kernel) rfl rfl (Nat.le_of_ble_eq_true rfl) rfl dX7_finish_48 (fun H locs hw => ?_)
      refine lv_aload_n hx hb dX7_finish_51 rfl (lv_at hl 0 rfl) ?_
      refine lv_aload_n hx hb dX7_finish_52 rfl (lv_at hl 1 rfl) ?_
      refine w_get (ci := 7) (C := RX7) (T := TX7) (N := 8) (ref := "LayoutDeskModel") hx hb hts in_X7_finish_7 hown hw ((wu_n (ne_e hLW.1 ha' (ne_c (by decide)))).trans hLW.1) rfl 6 (by decide) (hts (.fieldLink RX7 91 "LayoutDeskModel" "reach" "I") (by decide +kernel)) (fun _ h9 => h9) rfl dX7_finish_53 ?_
      refine lv_aload_n hx hb dX7_finish_56 rfl (lv_at hl 1 rfl) ?_
      refine w_get (ci := 7) (C := RX7) (T := TX7) (N := 8) (ref := "LayoutDeskModel") hx hb hts in_X7_finish_7 hown hw ((wu_n (ne_e hLW.1 ha' (ne_c (by decide)))).trans hLW.1) rfl 7 (by decide) (hts (.fieldLink RX7 94 "LayoutDeskModel" "align" "I") (by decide +kernel)) (fun _ h9 => h9) rfl dX7_finish_57 ?_
      refine w_call (va_runS (As := [.int (nI (ly T).1), .int (nI (ly T).2.1)]) (rest := [.ref a]) ⟨hx, hb, hml, hown, hts⟩ (c_up l g (wu h' a (.inr (6, [.int (nI (tK T)), .int (nI (tTo T)), .int (nI (tLn T)), .int (nI (tSz T)), .int (mAl T), .ref (al r.toNatClampNeg), .int 1]))) (ly T).1 (ly T).2.1 (by omega) (by omega) H.size) (va_cwS 2 hts gX7_finish_X7_up rfl rfl rfl (by decide +kernel) ⟨Nat.le_of_ble_eq_true rfl, Nat.le_of_ble_eq_true rfl⟩) ⟨pr_blind, pr_of hw⟩ rfl rfl hl.1 rfl (lv_room (Nat.le_of_ble_eq_true rfl)) dX7_finish_60 ⟨Nat.le_of_ble_eq_true rfl, Nat.le_of_ble_eq_true rfl⟩) hw (fun v h' H locs hp hw => ?_)
      obtain ⟨rfl, rfl⟩ := hp
      refine W.eq (g2 := F0 m 63 ls [.int (nI (rup (ly T).1 (ly T).2.1)), .ref a]) rfl ?_
      refine w_put (ci := 6) (C := RX6) (T := TX6) (N := 7) (ref := "LayoutDeskModel$Type") (ty := .int) (fs' := [.int (nI (tK T)), .int (nI (tTo T)), .int (nI (tLn T)), .int (nI (rup (ly T).1 (ly T).2.1)), .int (mAl T), .ref (al r.toNatClampNeg), .int 1]) hx hb hts in_X7_finish_6 tyX6 tyX6_ok nmX6 hown hw (wu_s _ _ _) rfl 3 (by decide) (hts (.fieldLink RX7 113 "LayoutDeskModel$Type" "size" "I") (by decide +kernel)) (fun _ h9 => h9) rfl (by decide +kernel) rfl rfl (Nat.le_of_ble_eq_true rfl) rfl dX7_finish_63 (fun H locs hw => ?_)
      refine lv_aload_n hx hb dX7_finish_66 rfl (lv_at hl 0 rfl) ?_
      refine lv_aload_n hx hb dX7_finish_67 rfl (lv_at hl 1 rfl) ?_
      refine w_get (ci := 7) (C := RX7) (T := TX7) (N := 8) (ref := "LayoutDeskModel") hx hb hts in_X7_finish_7 hown hw ((wu_n (ne_e hLW.1 ha' (ne_c (by decide)))).trans ((wu_n (ne_e hLW.1 ha' (ne_c (by decide)))).trans hLW.1)) rfl 7 (by decide) (hts (.fieldLink RX7 94 "LayoutDeskModel" "align" "I") (by decide +kernel)) (fun _ h9 => h9) rfl dX7_finish_68 ?_
      refine w_put (ci := 6) (C := RX6) (T := TX6) (N := 7) (ref := "LayoutDeskModel$Type") (ty := .int) (fs' := [.int (nI (tK T)), .int (nI (tTo T)), .int (nI (tLn T)), .int (nI (rup (ly T).1 (ly T).2.1)), .int (nI (ly T).2.1), .ref (al r.toNatClampNeg), .int 1]) hx hb hts in_X7_finish_6 tyX6 tyX6_ok nmX6 hown hw (wu_s _ _ _) rfl 4 (by decide) (hts (.fieldLink RX7 85 "LayoutDeskModel$Type" "align" "I") (by decide +kernel)) (fun _ h9 => h9) rfl (by decide +kernel) rfl rfl (Nat.le_of_ble_eq_true rfl) rfl dX7_finish_71 (fun H locs hw => ?_)
      refine lv_aload_n hx hb dX7_finish_74 rfl (lv_at hl 0 rfl) ?_
      refine w_get (ci := 6) (C := RX6) (T := TX6) (N := 7) (ref := "LayoutDeskModel$Type") hx hb hts in_X7_finish_6 hown hw (wu_s _ _ _) rfl 3 (by decide) (hts (.fieldLink RX7 113 "LayoutDeskModel$Type" "size" "I") (by decide +kernel)) (fun _ h9 => h9) rfl dX7_finish_75 ?_
      have hle9 : rup (ly T).1 (ly T).2.1 ≤ 524288 := (nI_leI (b := 524288) (by have := rup_le (ly T).1 (ly T).2.1; omega) (by decide)).mp c40
      have e9 : fFin S r = (nI (rup (ly T).1 (ly T).2.1), S.set r.toNatClampNeg (tEnd T (rup (ly T).1 (ly T).2.1))) := by simp [fFin, hto, hne9, show ¬ 524288 < rup (ly T).1 (ly T).2.1 from Nat.not_lt.mpr hle9]
      have hc0 := hR1.2.2.2.2.2.2 r.toNatClampNeg T a ha3 ha2
      have hc9 : cM (wu (wu (wu h' a (.inr (6, [.int (nI (tK T)), .int (nI (tTo T)), .int (nI (tLn T)), .int (nI (tSz T)), .int (mAl T), .ref (al r.toNatClampNeg), .int 1]))) a (.inr (6, [.int (nI (tK T)), .int (nI (tTo T)), .int (nI (tLn T)), .int (nI (rup (ly T).1 (ly T).2.1)), .int (mAl T), .ref (al r.toNatClampNeg), .int 1]))) a (.inr (6, [.int (nI (tK T)), .int (nI (tTo T)), .int (nI (tLn T)), .int (nI (rup (ly T).1 (ly T).2.1)), .int (nI (ly T).2.1), .ref (al r.toNatClampNeg), .int 1]))) a (tEnd T (rup (ly T).1 (ly T).2.1)) (al r.toNatClampNeg) (ab r.toNatClampNeg) := ⟨(wu_s _ _ _).trans (by show _ = some (oTy (nI (tK T)) (nI (tTo T)) (nI (tLn T)) (nI (rup (ly T).1 (ly T).2.1)) (mAl (tEnd T (rup (ly T).1 (ly T).2.1))) (al r.toNatClampNeg) 1); rw [show mAl (tEnd T (rup (ly T).1 (ly T).2.1)) = nI (tAl T) from if_neg (fun z => by cases z.2), hf1]), hc0.2.1, fun j y d hj hd9 => by
        have e8 := hc0.2.2 j y d hj hd9
        have n8 : y ≠ a := ne_e e8 ha' (ne_c (by decide))
        rw [wu_n n8, wu_n n8, wu_n n8]
        exact e8⟩
      exact r_int hx hb hr hlocks hw dX7_finish_78 (Nat.le_of_ble_eq_true rfl) (Nat.le_of_ble_eq_true rfl) (⟨by rw [e9], by rw [e9]; exact ⟨_, _, _, _, _, _, _, MR_set hR1 (w_z hw) ha3 ha2 ha' (wu_s _ _ _) (fun q hq => by rw [wu_n hq, wu_n hq, wu_n hq]) hc9⟩⟩)
    · refine lv_bipush (v := (-3)) hx hb dX7_finish_43 (by decide) ?_
      have e9 : fFin S r = (-3, S) := by simp [fFin, hto, hne9, show 524288 < rup (ly T).1 (ly T).2.1 from Nat.lt_of_not_le (fun z => c40 (nI_le (b := 524288) z (by decide)))]
      exact r_int hx hb hr hlocks hw dX7_finish_45 (Nat.le_of_ble_eq_true rfl) (Nat.le_of_ble_eq_true rfl) (⟨by rw [e9], by rw [e9]; exact ⟨tl, ta, ty, al, aa, ab, P, hR1⟩⟩)
  · have hem9 : (ly T).2.2.2 = [] := List.eq_nil_of_length_eq_zero ((nI_eq (b := 0) (by omega) (by decide)).mp (c21.trans nI_0.symm))
    refine lv_bipush (v := (-2)) hx hb dX7_finish_24 (by decide) ?_
    have e9 : fFin S r = (-2, S) := by simp [fFin, hto, hem9]
    exact r_int hx hb hr hlocks hw dX7_finish_26 (Nat.le_of_ble_eq_true rfl) (Nat.le_of_ble_eq_true rfl) (⟨by rw [e9], by rw [e9]; exact ⟨tl, ta, ty, al, aa, ab, P, hR1⟩⟩)
theorem m_finish (l : Launch) (g : GG) (h : Nat → Option va_E) (mo : Nat) (S : List TyS) (N : Nat) (hR : MR g h mo S) (hS : wfS N S) (r : Int32) : Con l yX7_finish wsX7_finish 4 100 0 0 [.ref mo, .int r] g h (fun v h' => v = some (.int (fFin S r).1) ∧ MR g h' mo (fFin S r).2) := by
  cases hto : lkO S r with
  | none =>
    rcases lkO_none hto with z | ⟨T, z1, z2⟩
    · exact m_finish_N1 l g h mo S N hR hS r hto z
    · exact m_finish_N2 l g h mo S N hR hS r T hto z1 z2
  | some T => exact m_finish_O l g h mo S N hR hS r T hto
