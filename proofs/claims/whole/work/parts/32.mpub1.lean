/-! the model: public methods that read; pointer, array, record -/
theorem in_X7_types_7 : ∀ w ∈ u_ws RX7 TX7 8, w ∈ wsX7_types := by decide +kernel
set_option maxHeartbeats 4000000 in
set_option maxRecDepth 100000 in
theorem m_types (l : Launch) (g : GG) (h : Nat → Option va_E) (mo : Nat) (S : List TyS) (N : Nat) (hR : MR g h mo S) (hS : wfS N S) : Con l yX7_types wsX7_types 1 30 0 0 [.ref mo] g h (fun v h' => v = some (.int (nI S.length)) ∧ MR g h' mo S) := by
  obtain ⟨tl, ta, ty, al, aa, ab, P, hR0⟩ := hR
  obtain ⟨⟨mem, rea, ali, hm⟩, hs, hd, hz9, hG, hlen, -⟩ := id hR0
  have hL := hG.1
  have hn9 := AL_len hL
  obtain ⟨⟨mck, hk0⟩, -, -⟩ := id hL
  refine m_start (cc := cX7_types) (maxL := 1) (ret := (some .int)) (by decide) rfl (Nat.le_of_ble_eq_true rfl) ?_
  intro p e s m below meth c A ls hx hb hr hml hts hown hlocks hin hw hl
  have hl : lv_has ls 1 [(0, .ref mo)] := hl
  have hown : s.vm.findClass RX7 = some m.cls := hown
  refine lv_aload_n hx hb dX7_types_0 rfl (lv_at hl 0 rfl) ?_
  refine w_get (ci := 7) (C := RX7) (T := TX7) (N := 8) (ref := "LayoutDeskModel") hx hb hts in_X7_types_7 hown hw hm rfl 0 (by decide) (hts (.fieldLink RX7 10 "LayoutDeskModel" "types" "Ljava/util/ArrayList;") (by decide +kernel)) (fun _ h9 => h9) rfl dX7_types_1 ?_
  refine w_call (va_runV (As := []) (rest := []) ⟨hx, hb, hml, hown, hts⟩ (c_sizeL l g h tl ta ty hL s.heap.size) (cwV 0 hts gX7_types_Jx4a65c_size_8abf5 rfl rfl rfl (by decide +kernel) ⟨Nat.le_of_ble_eq_true rfl, Nat.le_of_ble_eq_true rfl⟩) ⟨pr_blind, w_recv hw hk0 rfl, pr_of hw⟩ rfl rfl hl.1 rfl (lv_room (Nat.le_of_ble_eq_true rfl)) dX7_types_4 ⟨Nat.le_of_ble_eq_true rfl, Nat.le_of_ble_eq_true rfl⟩) hw (fun v h' H locs hp hw => ?_)
  obtain ⟨rfl, rfl⟩ := hp
  refine W.eq (g2 := F0 m 7 ls [.int (nI ty.length)]) rfl ?_
  exact r_int hx hb hr hlocks hw dX7_types_7 (Nat.le_of_ble_eq_true rfl) (Nat.le_of_ble_eq_true rfl) (⟨by rw [hlen], ⟨tl, ta, ty, al, aa, ab, P, hR0⟩⟩)
set_option maxHeartbeats 4000000 in
set_option maxRecDepth 100000 in
theorem m_size_N (l : Launch) (g : GG) (h : Nat → Option va_E) (mo : Nat) (S : List TyS) (N : Nat) (hR : MR g h mo S) (hS : wfS N S) (t : Int32) (ht : lk S t = none) : Con l yX7_size wsX7_size 3 70 0 0 [.ref mo, .int t] g h (fun v h' => v = some (.int (fSiz S t)) ∧ MR g h' mo S) := by
  obtain ⟨tl, ta, ty, al, aa, ab, P, hR0⟩ := hR
  obtain ⟨⟨mem, rea, ali, hm⟩, hs, hd, hz9, hG, hlen, -⟩ := id hR0
  have hL := hG.1
  have hn9 := AL_len hL
  obtain ⟨⟨mck, hk0⟩, -, -⟩ := id hL
  have htn := MR_lkN hR0 ht
  refine m_start (cc := cX7_size) (maxL := 2) (ret := (some .int)) (by decide) rfl (Nat.le_of_ble_eq_true rfl) ?_
  intro p e s m below meth c A ls hx hb hr hml hts hown hlocks hin hw hl
  have hl : lv_has ls 2 [(0, .ref mo), (1, .int t)] := hl
  have hown : s.vm.findClass RX7 = some m.cls := hown
  refine lv_aload_n hx hb dX7_size_0 rfl (lv_at hl 0 rfl) ?_
  refine lv_iload_n hx hb dX7_size_1 rfl (lv_at hl 1 rfl) ?_
  refine w_call (va_runV (As := [.int t]) (rest := []) ⟨hx, hb, hml, hown, hts⟩ (c_there_N l g h mo tl ta P.1 P.2.1 P.2.2.1 P.2.2.2 mem rea ali ty hm hL t htn s.heap.size) (cwV 1 hts gX7_size_X7_there rfl rfl rfl (by decide +kernel) ⟨Nat.le_of_ble_eq_true rfl, Nat.le_of_ble_eq_true rfl⟩) ⟨pr_blind, w_recv hw hm rfl, pr_of hw⟩ rfl rfl hl.1 rfl (lv_room (Nat.le_of_ble_eq_true rfl)) dX7_size_2 ⟨Nat.le_of_ble_eq_true rfl, Nat.le_of_ble_eq_true rfl⟩) hw (fun v h' H locs hp hw => ?_)
  obtain ⟨rfl, rfl⟩ := hp
  refine W.eq (g2 := F0 m 5 ls [.int 0]) rfl ?_
  refine lv_if_eq (tgt := 25) hx hb dX7_size_5 (by decide) (fun c5 => ?_) (fun c5 => ?_)
  · refine lv_iconst (v := (-1)) hx hb dX7_size_25 (by decide) ?_
    exact r_int hx hb hr hlocks hw dX7_size_26 (Nat.le_of_ble_eq_true rfl) (Nat.le_of_ble_eq_true rfl) (⟨by simp [fSiz, ht], ⟨tl, ta, ty, al, aa, ab, P, hR0⟩⟩)
  · exact absurd rfl c5
set_option maxHeartbeats 4000000 in
set_option maxRecDepth 100000 in
theorem m_size_S (l : Launch) (g : GG) (h : Nat → Option va_E) (mo : Nat) (S : List TyS) (N : Nat) (hR : MR g h mo S) (hS : wfS N S) (t : Int32) (T : TyS) (ht : lk S t = some T) : Con l yX7_size wsX7_size 3 70 0 0 [.ref mo, .int t] g h (fun v h' => v = some (.int (fSiz S t)) ∧ MR g h' mo S) := by
  obtain ⟨tl, ta, ty, al, aa, ab, P, hR0⟩ := hR
  obtain ⟨⟨mem, rea, ali, hm⟩, hs, hd, hz9, hG, hlen, -⟩ := id hR0
  have hL := hG.1
  have hn9 := AL_len hL
  obtain ⟨⟨mck, hk0⟩, -, -⟩ := id hL
  obtain ⟨a, ha1, ha2, ha3, hc⟩ := MR_lk hR0 ht
  have ha := hc.1
  obtain ⟨hw1, hw2, hw3, hw4, hw5, hw6, hw7, hw8⟩ := (hS.2.2 _ _ ha3).1
  refine m_start (cc := cX7_size) (maxL := 2) (ret := (some .int)) (by decide) rfl (Nat.le_of_ble_eq_true rfl) ?_
  intro p e s m below meth c A ls hx hb hr hml hts hown hlocks hin hw hl
  have hl : lv_has ls 2 [(0, .ref mo), (1, .int t)] := hl
  have hown : s.vm.findClass RX7 = some m.cls := hown
  refine lv_aload_n hx hb dX7_size_0 rfl (lv_at hl 0 rfl) ?_
  refine lv_iload_n hx hb dX7_size_1 rfl (lv_at hl 1 rfl) ?_
  refine w_call (va_runV (As := [.int t]) (rest := []) ⟨hx, hb, hml, hown, hts⟩ (c_there_S l g h mo tl ta P.1 P.2.1 P.2.2.1 P.2.2.2 mem rea ali ty hm hL t a ha1 s.heap.size) (cwV 1 hts gX7_size_X7_there rfl rfl rfl (by decide +kernel) ⟨Nat.le_of_ble_eq_true rfl, Nat.le_of_ble_eq_true rfl⟩) ⟨pr_blind, w_recv hw hm rfl, pr_of hw⟩ rfl rfl hl.1 rfl (lv_room (Nat.le_of_ble_eq_true rfl)) dX7_size_2 ⟨Nat.le_of_ble_eq_true rfl, Nat.le_of_ble_eq_true rfl⟩) hw (fun v h' H locs hp hw => ?_)
  obtain ⟨rfl, rfl⟩ := hp
  refine W.eq (g2 := F0 m 5 ls [.int 1]) rfl ?_
  refine lv_if_eq (tgt := 25) hx hb dX7_size_5 (by decide) (fun c5 => ?_) (fun c5 => ?_)
  · exact absurd c5 (by decide)
  · refine lv_aload_n hx hb dX7_size_8 rfl (lv_at hl 0 rfl) ?_
    refine w_get (ci := 7) (C := RX7) (T := TX7) (N := 8) (ref := "LayoutDeskModel") hx hb hts in_X7_size_7 hown hw hm rfl 0 (by decide) (hts (.fieldLink RX7 10 "LayoutDeskModel" "types" "Ljava/util/ArrayList;") (by decide +kernel)) (fun _ h9 => h9) rfl dX7_size_9 ?_
    refine lv_iload_n hx hb dX7_size_12 rfl (lv_at hl 1 rfl) ?_
    refine w_call (va_runV (As := [.int t]) (rest := []) ⟨hx, hb, hml, hown, hts⟩ (c_getL l g h tl ta ty hL t a ha1 H.size) (cwV 1 hts gX7_size_Jx4a65c_get_915e3 rfl rfl rfl (by decide +kernel) ⟨Nat.le_of_ble_eq_true rfl, Nat.le_of_ble_eq_true rfl⟩) ⟨pr_blind, w_recv hw hk0 rfl, pr_of hw⟩ rfl rfl hl.1 rfl (lv_room (Nat.le_of_ble_eq_true rfl)) dX7_size_13 ⟨Nat.le_of_ble_eq_true rfl, Nat.le_of_ble_eq_true rfl⟩) hw (fun v h' H locs hp hw => ?_)
    obtain ⟨rfl, rfl⟩ := hp
    refine W.eq (g2 := F0 m 16 ls [.ref a]) rfl ?_
    refine va_castY (C := RX6) hx hb hown (hts (.classLink RX7 29 "LayoutDeskModel$Type") (by decide +kernel)) (w_nwN hw (by decide +kernel)) (w_recv hw ha rfl) dX7_size_16 ?_
    refine w_get (ci := 6) (C := RX6) (T := TX6) (N := 7) (ref := "LayoutDeskModel$Type") hx hb hts in_X7_size_6 hown hw ha rfl 3 (by decide) (hts (.fieldLink RX7 113 "LayoutDeskModel$Type" "size" "I") (by decide +kernel)) (fun _ h9 => h9) rfl dX7_size_19 ?_
    refine lv_goto (tgt := 26) hx hb dX7_size_22 (by decide) ?_
    exact r_int hx hb hr hlocks hw dX7_size_26 (Nat.le_of_ble_eq_true rfl) (Nat.le_of_ble_eq_true rfl) (⟨by simp [fSiz, ht], ⟨tl, ta, ty, al, aa, ab, P, hR0⟩⟩)
theorem m_size (l : Launch) (g : GG) (h : Nat → Option va_E) (mo : Nat) (S : List TyS) (N : Nat) (hR : MR g h mo S) (hS : wfS N S) (t : Int32) : Con l yX7_size wsX7_size 3 70 0 0 [.ref mo, .int t] g h (fun v h' => v = some (.int (fSiz S t)) ∧ MR g h' mo S) := by
  cases ht : lk S t with
  | none => exact m_size_N l g h mo S N hR hS t ht
  | some T => exact m_size_S l g h mo S N hR hS t T ht
set_option maxHeartbeats 4000000 in
set_option maxRecDepth 100000 in
theorem m_align_N (l : Launch) (g : GG) (h : Nat → Option va_E) (mo : Nat) (S : List TyS) (N : Nat) (hR : MR g h mo S) (hS : wfS N S) (t : Int32) (ht : lk S t = none) : Con l yX7_align wsX7_align 4 100 0 0 [.ref mo, .int t] g h (fun v h' => v = some (.int (fAli S t)) ∧ MR g h' mo S) := by
  obtain ⟨tl, ta, ty, al, aa, ab, P, hR0⟩ := hR
  obtain ⟨⟨mem, rea, ali, hm⟩, hs, hd, hz9, hG, hlen, -⟩ := id hR0
  have hL := hG.1
  have hn9 := AL_len hL
  obtain ⟨⟨mck, hk0⟩, -, -⟩ := id hL
  have htn := MR_lkN hR0 ht
  refine m_start (cc := cX7_align) (maxL := 3) (ret := (some .int)) (by decide) rfl (Nat.le_of_ble_eq_true rfl) ?_
  intro p e s m below meth c A ls hx hb hr hml hts hown hlocks hin hw hl
  have hl : lv_has ls 3 [(0, .ref mo), (1, .int t)] := hl
  have hown : s.vm.findClass RX7 = some m.cls := hown
  refine lv_aload_n hx hb dX7_align_0 rfl (lv_at hl 0 rfl) ?_
  refine lv_iload_n hx hb dX7_align_1 rfl (lv_at hl 1 rfl) ?_
  refine w_call (va_runV (As := [.int t]) (rest := []) ⟨hx, hb, hml, hown, hts⟩ (c_there_N l g h mo tl ta P.1 P.2.1 P.2.2.1 P.2.2.2 mem rea ali ty hm hL t htn s.heap.size) (cwV 1 hts gX7_align_X7_there rfl rfl rfl (by decide +kernel) ⟨Nat.le_of_ble_eq_true rfl, Nat.le_of_ble_eq_true rfl⟩) ⟨pr_blind, w_recv hw hm rfl, pr_of hw⟩ rfl rfl hl.1 rfl (lv_room (Nat.le_of_ble_eq_true rfl)) dX7_align_2 ⟨Nat.le_of_ble_eq_true rfl, Nat.le_of_ble_eq_true rfl⟩) hw (fun v h' H locs hp hw => ?_)
  obtain ⟨rfl, rfl⟩ := hp
  refine W.eq (g2 := F0 m 5 ls [.int 0]) rfl ?_
  refine lv_if_ne (tgt := 10) hx hb dX7_align_5 (by decide) (fun c5 => ?_) (fun c5 => ?_)
  · exact absurd rfl c5
  · refine lv_iconst (v := (-1)) hx hb dX7_align_8 (by decide) ?_
    exact r_int hx hb hr hlocks hw dX7_align_9 (Nat.le_of_ble_eq_true rfl) (Nat.le_of_ble_eq_true rfl) (⟨by simp [fAli, ht], ⟨tl, ta, ty, al, aa, ab, P, hR0⟩⟩)
theorem in_X7_align_6 : ∀ w ∈ u_ws RX6 TX6 7, w ∈ wsX7_align := by decide +kernel
theorem in_X7_align_7 : ∀ w ∈ u_ws RX7 TX7 8, w ∈ wsX7_align := by decide +kernel
set_option maxHeartbeats 4000000 in
set_option maxRecDepth 100000 in
theorem m_align_S (l : Launch) (g : GG) (h : Nat → Option va_E) (mo : Nat) (S : List TyS) (N : Nat) (hR : MR g h mo S) (hS : wfS N S) (t : Int32) (T : TyS) (ht : lk S t = some T) : Con l yX7_align wsX7_align 4 100 0 0 [.ref mo, .int t] g h (fun v h' => v = some (.int (fAli S t)) ∧ MR g h' mo S) := by
  obtain ⟨tl, ta, ty, al, aa, ab, P, hR0⟩ := hR
  obtain ⟨⟨mem, rea, ali, hm⟩, hs, hd, hz9, hG, hlen, -⟩ := id hR0
  have hL := hG.1
  have hn9 := AL_len hL
  obtain ⟨⟨mck, hk0⟩, -, -⟩ := id hL
  obtain ⟨a, ha1, ha2, ha3, hc⟩ := MR_lk hR0 ht
  have ha := hc.1
  obtain ⟨hw1, hw2, hw3, hw4, hw5, hw6, hw7, hw8⟩ := (hS.2.2 _ _ ha3).1
  refine m_start (cc := cX7_align) (maxL := 3) (ret := (some .int)) (by decide) rfl (Nat.le_of_ble_eq_true rfl) ?_
  intro p e s m below meth c A ls hx hb hr hml hts hown hlocks hin hw hl
  have hl : lv_has ls 3 [(0, .ref mo), (1, .int t)] := hl
  have hown : s.vm.findClass RX7 = some m.cls := hown
  refine lv_aload_n hx hb dX7_align_0 rfl (lv_at hl 0 rfl) ?_
  refine lv_iload_n hx hb dX7_align_1 rfl (lv_at hl 1 rfl) ?_
  refine w_call (va_runV (As := [.int t]) (rest := []) ⟨hx, hb, hml, hown, hts⟩ (c_there_S l g h mo tl ta P.1 P.2.1 P.2.2.1 P.2.2.2 mem rea ali ty hm hL t a ha1 s.heap.size) (cwV 1 hts gX7_align_X7_there rfl rfl rfl (by decide +kernel) ⟨Nat.le_of_ble_eq_true rfl, Nat.le_of_ble_eq_true rfl⟩) ⟨pr_blind, w_recv hw hm rfl, pr_of hw⟩ rfl rfl hl.1 rfl (lv_room (Nat.le_of_ble_eq_true rfl)) dX7_align_2 ⟨Nat.le_of_ble_eq_true rfl, Nat.le_of_ble_eq_true rfl⟩) hw (fun v h' H locs hp hw => ?_)
  obtain ⟨rfl, rfl⟩ := hp
  refine W.eq (g2 := F0 m 5 ls [.int 1]) rfl ?_
  refine lv_if_ne (tgt := 10) hx hb dX7_align_5 (by decide) (fun c5 => ?_) (fun c5 => ?_)
  · refine lv_aload_n hx hb dX7_align_10 rfl (lv_at hl 0 rfl) ?_
    refine w_get (ci := 7) (C := RX7) (T := TX7) (N := 8) (ref := "LayoutDeskModel") hx hb hts in_X7_align_7 hown hw hm rfl 0 (by decide) (hts (.fieldLink RX7 10 "LayoutDeskModel" "types" "Ljava/util/ArrayList;") (by decide +kernel)) (fun _ h9 => h9) rfl dX7_align_11 ?_
    refine lv_iload_n hx hb dX7_align_14 rfl (lv_at hl 1 rfl) ?_
    refine w_call (va_runV (As := [.int t]) (rest := []) ⟨hx, hb, hml, hown, hts⟩ (c_getL l g h tl ta ty hL t a ha1 H.size) (cwV 1 hts gX7_align_Jx4a65c_get_915e3 rfl rfl rfl (by decide +kernel) ⟨Nat.le_of_ble_eq_true rfl, Nat.le_of_ble_eq_true rfl⟩) ⟨pr_blind, w_recv hw hk0 rfl, pr_of hw⟩ rfl rfl hl.1 rfl (lv_room (Nat.le_of_ble_eq_true rfl)) dX7_align_15 ⟨Nat.le_of_ble_eq_true rfl, Nat.le_of_ble_eq_true rfl⟩) hw (fun v h' H locs hp hw => ?_)
    obtain ⟨rfl, rfl⟩ := hp
    refine W.eq (g2 := F0 m 18 ls [.ref a]) rfl ?_
    refine va_castY (C := RX6) hx hb hown (hts (.classLink RX7 29 "LayoutDeskModel$Type") (by decide +kernel)) (w_nwN hw (by decide +kernel)) (w_recv hw ha rfl) dX7_align_18 ?_
    refine lv_astore_n (lv' := [(2, .ref a), (0, .ref mo), (1, .int t)]) hx hb dX7_align_21 rfl hl (by decide) rfl (fun ls hl => ?_)
    refine lv_aload_n hx hb dX7_align_22 rfl (lv_at hl 0 rfl) ?_
    refine w_call (va_runV (As := []) (rest := []) ⟨hx, hb, hml, hown, hts⟩ (c_isRec l g h a (al t.toNatClampNeg) (tK T) (nI (tTo T)) (nI (tLn T)) (nI (tSz T)) (mAl T) (if tFi T = true then 1 else 0) hw1 ha H.size) (cwV 0 hts gX7_align_X6_record rfl rfl rfl (by decide +kernel) ⟨Nat.le_of_ble_eq_true rfl, Nat.le_of_ble_eq_true rfl⟩) ⟨pr_blind, w_recv hw ha rfl, pr_of hw⟩ rfl rfl hl.1 rfl (lv_room (Nat.le_of_ble_eq_true rfl)) dX7_align_23 ⟨Nat.le_of_ble_eq_true rfl, Nat.le_of_ble_eq_true rfl⟩) hw (fun v h' H locs hp hw => ?_)
    obtain ⟨rfl, rfl⟩ := hp
    refine W.eq (g2 := F0 m 26 ls [.int (if 3 ≤ tK T then 1 else 0)]) rfl ?_
    refine lv_if_eq (tgt := 36) hx hb dX7_align_26 (by decide) (fun c26 => ?_) (fun c26 => ?_)
    · have hk : ¬ 3 ≤ tK T := fun z => by rw [if_pos z] at c26; exact absurd c26 (by decide)
      refine lv_aload_n hx hb dX7_align_36 rfl (lv_at hl 0 rfl) ?_
      refine w_get (ci := 6) (C := RX6) (T := TX6) (N := 7) (ref := "LayoutDeskModel$Type") hx hb hts in_X7_align_6 hown hw ha rfl 4 (by decide) (hts (.fieldLink RX7 85 "LayoutDeskModel$Type" "align" "I") (by decide +kernel)) (fun _ h9 => h9) rfl dX7_align_37 ?_
      exact r_int hx hb hr hlocks hw dX7_align_40 (Nat.le_of_ble_eq_true rfl) (Nat.le_of_ble_eq_true rfl) (⟨by simp [fAli, ht, show mAl T = nI (tAl T) from if_neg (fun z => hk z.1)], ⟨tl, ta, ty, al, aa, ab, P, hR0⟩⟩)
    · have hk : 3 ≤ tK T := Classical.byContradiction (fun z => by rw [if_neg z] at c26; exact absurd rfl c26)
      refine lv_aload_n hx hb dX7_align_29 rfl (lv_at hl 0 rfl) ?_
      refine w_get (ci := 6) (C := RX6) (T := TX6) (N := 7) (ref := "LayoutDeskModel$Type") hx hb hts in_X7_align_6 hown hw ha rfl 6 (by decide) (hts (.fieldLink RX7 54 "LayoutDeskModel$Type" "finished" "Z") (by decide +kernel)) (fun _ h9 => h9) rfl dX7_align_30 ?_
      refine lv_if_eq (tgt := 41) hx hb dX7_align_33 (by decide) (fun c33 => ?_) (fun c33 => ?_)
      · refine lv_aload_n hx hb dX7_align_41 rfl (lv_at hl 1 rfl) ?_
        refine lv_aload_n hx hb dX7_align_42 rfl (lv_at hl 0 rfl) ?_
        obtain ⟨hAL, -, -⟩ := hG.2.2.1 t.toNatClampNeg (by have := (List.getElem?_eq_some_iff.mp ha2).1; omega) trivial
        obtain ⟨hf1, hf2, hf3, hf4⟩ := hw8 hk
        refine w_call (va_runV (As := [.ref a]) (rest := []) ⟨hx, hb, hml, hown, hts⟩ (c_lay l g h mo a tl ta (al t.toNatClampNeg) (aa t.toNatClampNeg) (tK T) P ty (ab t.toNatClampNeg) (tAd T) (nI (tTo T)) (nI (tLn T)) (nI (tSz T)) (mAl T) (if tFi T = true then 1 else 0) ⟨_, _, _, hm⟩ hs hd hL hw1 ha hAL hc.2.1 hc.2.2 (layTy hR0 (wf_szS hS) (hS.2.2 _ _ ha3).2.2) (wf_bd hS ha3).1 (wf_bd hS ha3).2 (Nat.le_trans hf2 (by decide)) hf3 H.size) (cwV 1 hts gX7_align_X7_lay rfl rfl rfl (by decide +kernel) ⟨Nat.le_of_ble_eq_true rfl, Nat.le_of_ble_eq_true rfl⟩) ⟨pr_blind, w_recv hw hm rfl, pr_of hw⟩ rfl rfl hl.1 rfl (lv_room (Nat.le_of_ble_eq_true rfl)) dX7_align_43 ⟨Nat.le_of_ble_eq_true rfl, Nat.le_of_ble_eq_true rfl⟩) hw (fun v h' H locs hp hw => ?_)
        obtain ⟨rfl, hLW⟩ := hp
        refine W.eq (g2 := F0 m 46 ls []) rfl ?_
        have hLW : LW g h h' mo tl P (ly T) := hLW
        have hR1 := MR_lay hR0 hLW
        have ha' : h' a = some (oTy (nI (tK T)) (nI (tTo T)) (nI (tLn T)) (nI (tSz T)) (mAl T) (al t.toNatClampNeg) (if tFi T = true then 1 else 0)) := (sf_obj ⟨_, _, _, hm⟩ hs hLW.2.1 ha (by decide)).trans ha
        refine lv_aload_n hx hb dX7_align_46 rfl (lv_at hl 1 rfl) ?_
        refine w_get (ci := 7) (C := RX7) (T := TX7) (N := 8) (ref := "LayoutDeskModel") hx hb hts in_X7_align_7 hown hw hLW.1 rfl 7 (by decide) (hts (.fieldLink RX7 94 "LayoutDeskModel" "align" "I") (by decide +kernel)) (fun _ h9 => h9) rfl dX7_align_47 ?_
        exact r_int hx hb hr hlocks hw dX7_align_50 (Nat.le_of_ble_eq_true rfl) (Nat.le_of_ble_eq_true rfl) (⟨by simp [fAli, ht, hf1], ⟨tl, ta, ty, al, aa, ab, P, hR1⟩⟩)
      · refine lv_aload_n hx hb dX7_align_36 rfl (lv_at hl 0 rfl) ?_
        refine w_get (ci := 6) (C := RX6) (T := TX6) (N := 7) (ref := "LayoutDeskModel$Type") hx hb hts in_X7_align_6 hown hw ha rfl 4 (by decide) (hts (.fieldLink RX7 85 "LayoutDeskModel$Type" "align" "I") (by decide +kernel)) (fun _ h9 => h9) rfl dX7_align_37 ?_
        exact r_int hx hb hr hlocks hw dX7_align_40 (Nat.le_of_ble_eq_true rfl) (Nat.le_of_ble_eq_true rfl) (⟨by simp [fAli, ht, show mAl T = nI (tAl T) from if_neg (fun z => by rw [z.2] at c33; exact c33 rfl)], ⟨tl, ta, ty, al, aa, ab, P, hR0⟩⟩)
  · exact absurd c5 (by decide)
theorem m_align (l : Launch) (g : GG) (h : Nat → Option va_E) (mo : Nat) (S : List TyS) (N : Nat) (hR : MR g h mo S) (hS : wfS N S) (t : Int32) : Con l yX7_align wsX7_align 4 100 0 0 [.ref mo, .int t] g h (fun v h' => v = some (.int (fAli S t)) ∧ MR g h' mo S) := by
  cases ht : lk S t with
  | none => exact m_align_N l g h mo S N hR hS t ht
  | some T => exact m_align_S l g h mo S N hR hS t T ht
set_option maxHeartbeats 4000000 in
set_option maxRecDepth 100000 in
theorem m_members_N (l : Launch) (g : GG) (h : Nat → Option va_E) (mo : Nat) (S : List TyS) (N : Nat) (hR : MR g h mo S) (hS : wfS N S) (r : Int32) (ht : lk S r = none) : Con l yX7_members wsX7_members 4 100 0 0 [.ref mo, .int r] g h (fun v h' => v = some (.int (fMbs S r)) ∧ MR g h' mo S) := by
  obtain ⟨tl, ta, ty, al, aa, ab, P, hR0⟩ := hR
  obtain ⟨⟨mem, rea, ali, hm⟩, hs, hd, hz9, hG, hlen, -⟩ := id hR0
  have hL := hG.1
  have hn9 := AL_len hL
  obtain ⟨⟨mck, hk0⟩, -, -⟩ := id hL
  have htn := MR_lkN hR0 ht
  refine m_start (cc := cX7_members) (maxL := 2) (ret := (some .int)) (by decide) rfl (Nat.le_of_ble_eq_true rfl) ?_
  intro p e s m below meth c A ls hx hb hr hml hts hown hlocks hin hw hl
  have hl : lv_has ls 2 [(0, .ref mo), (1, .int r)] := hl
  have hown : s.vm.findClass RX7 = some m.cls := hown
  refine lv_aload_n hx hb dX7_members_0 rfl (lv_at hl 0 rfl) ?_
  refine lv_iload_n hx hb dX7_members_1 rfl (lv_at hl 1 rfl) ?_
  refine w_call (va_runV (As := [.int r]) (rest := []) ⟨hx, hb, hml, hown, hts⟩ (c_there_N l g h mo tl ta P.1 P.2.1 P.2.2.1 P.2.2.2 mem rea ali ty hm hL r htn s.heap.size) (cwV 1 hts gX7_members_X7_there rfl rfl rfl (by decide +kernel) ⟨Nat.le_of_ble_eq_true rfl, Nat.le_of_ble_eq_true rfl⟩) ⟨pr_blind, w_recv hw hm rfl, pr_of hw⟩ rfl rfl hl.1 rfl (lv_room (Nat.le_of_ble_eq_true rfl)) dX7_members_2 ⟨Nat.le_of_ble_eq_true rfl, Nat.le_of_ble_eq_true rfl⟩) hw (fun v h' H locs hp hw => ?_)
  obtain ⟨rfl, rfl⟩ := hp
  refine W.eq (g2 := F0 m 5 ls [.int 0]) rfl ?_
  refine lv_if_eq (tgt := 25) hx hb dX7_members_5 (by decide) (fun c5 => ?_) (fun c5 => ?_)
  · refine lv_iconst (v := (-1)) hx hb dX7_members_25 (by decide) ?_
    exact r_int hx hb hr hlocks hw dX7_members_26 (Nat.le_of_ble_eq_true rfl) (Nat.le_of_ble_eq_true rfl) (⟨by simp [fMbs, ht], ⟨tl, ta, ty, al, aa, ab, P, hR0⟩⟩)
  · exact absurd rfl c5
theorem in_X7_members_7 : ∀ w ∈ u_ws RX7 TX7 8, w ∈ wsX7_members := by decide +kernel
set_option maxHeartbeats 4000000 in
set_option maxRecDepth 100000 in
theorem m_members_S (l : Launch) (g : GG) (h : Nat → Option va_E) (mo : Nat) (S : List TyS) (N : Nat) (hR : MR g h mo S) (hS : wfS N S) (r : Int32) (T : TyS) (ht : lk S r = some T) : Con l yX7_members wsX7_members 4 100 0 0 [.ref mo, .int r] g h (fun v h' => v = some (.int (fMbs S r)) ∧ MR g h' mo S) := by
  obtain ⟨tl, ta, ty, al, aa, ab, P, hR0⟩ := hR
  obtain ⟨⟨mem, rea, ali, hm⟩, hs, hd, hz9, hG, hlen, -⟩ := id hR0
  have hL := hG.1
  have hn9 := AL_len hL
  obtain ⟨⟨mck, hk0⟩, -, -⟩ := id hL
  obtain ⟨a, ha1, ha2, ha3, hc⟩ := MR_lk hR0 ht
  have ha := hc.1
  obtain ⟨hw1, hw2, hw3, hw4, hw5, hw6, hw7, hw8⟩ := (hS.2.2 _ _ ha3).1
  refine m_start (cc := cX7_members) (maxL := 2) (ret := (some .int)) (by decide) rfl (Nat.le_of_ble_eq_true rfl) ?_
  intro p e s m below meth c A ls hx hb hr hml hts hown hlocks hin hw hl
  have hl : lv_has ls 2 [(0, .ref mo), (1, .int r)] := hl
  have hown : s.vm.findClass RX7 = some m.cls := hown
  refine lv_aload_n hx hb dX7_members_0 rfl (lv_at hl 0 rfl) ?_
  refine lv_iload_n hx hb dX7_members_1 rfl (lv_at hl 1 rfl) ?_
  refine w_call (va_runV (As := [.int r]) (rest := []) ⟨hx, hb, hml, hown, hts⟩ (c_there_S l g h mo tl ta P.1 P.2.1 P.2.2.1 P.2.2.2 mem rea ali ty hm hL r a ha1 s.heap.size) (cwV 1 hts gX7_members_X7_there rfl rfl rfl (by decide +kernel) ⟨Nat.le_of_ble_eq_true rfl, Nat.le_of_ble_eq_true rfl⟩) ⟨pr_blind, w_recv hw hm rfl, pr_of hw⟩ rfl rfl hl.1 rfl (lv_room (Nat.le_of_ble_eq_true rfl)) dX7_members_2 ⟨Nat.le_of_ble_eq_true rfl, Nat.le_of_ble_eq_true rfl⟩) hw (fun v h' H locs hp hw => ?_)
  obtain ⟨rfl, rfl⟩ := hp
  refine W.eq (g2 := F0 m 5 ls [.int 1]) rfl ?_
  refine lv_if_eq (tgt := 25) hx hb dX7_members_5 (by decide) (fun c5 => ?_) (fun c5 => ?_)
  · exact absurd c5 (by decide)
  · refine lv_aload_n hx hb dX7_members_8 rfl (lv_at hl 0 rfl) ?_
    refine w_get (ci := 7) (C := RX7) (T := TX7) (N := 8) (ref := "LayoutDeskModel") hx hb hts in_X7_members_7 hown hw hm rfl 0 (by decide) (hts (.fieldLink RX7 10 "LayoutDeskModel" "types" "Ljava/util/ArrayList;") (by decide +kernel)) (fun _ h9 => h9) rfl dX7_members_9 ?_
    refine lv_iload_n hx hb dX7_members_12 rfl (lv_at hl 1 rfl) ?_
    refine w_call (va_runV (As := [.int r]) (rest := []) ⟨hx, hb, hml, hown, hts⟩ (c_getL l g h tl ta ty hL r a ha1 H.size) (cwV 1 hts gX7_members_Jx4a65c_get_915e3 rfl rfl rfl (by decide +kernel) ⟨Nat.le_of_ble_eq_true rfl, Nat.le_of_ble_eq_true rfl⟩) ⟨pr_blind, w_recv hw hk0 rfl, pr_of hw⟩ rfl rfl hl.1 rfl (lv_room (Nat.le_of_ble_eq_true rfl)) dX7_members_13 ⟨Nat.le_of_ble_eq_true rfl, Nat.le_of_ble_eq_true rfl⟩) hw (fun v h' H locs hp hw => ?_)
    obtain ⟨rfl, rfl⟩ := hp
    refine W.eq (g2 := F0 m 16 ls [.ref a]) rfl ?_
    refine va_castY (C := RX6) hx hb hown (hts (.classLink RX7 29 "LayoutDeskModel$Type") (by decide +kernel)) (w_nwN hw (by decide +kernel)) (w_recv hw ha rfl) dX7_members_16 ?_
    refine w_call (va_runV (As := []) (rest := []) ⟨hx, hb, hml, hown, hts⟩ (c_isRec l g h a (al r.toNatClampNeg) (tK T) (nI (tTo T)) (nI (tLn T)) (nI (tSz T)) (mAl T) (if tFi T = true then 1 else 0) hw1 ha H.size) (cwV 0 hts gX7_members_X6_record rfl rfl rfl (by decide +kernel) ⟨Nat.le_of_ble_eq_true rfl, Nat.le_of_ble_eq_true rfl⟩) ⟨pr_blind, w_recv hw ha rfl, pr_of hw⟩ rfl rfl hl.1 rfl (lv_room (Nat.le_of_ble_eq_true rfl)) dX7_members_19 ⟨Nat.le_of_ble_eq_true rfl, Nat.le_of_ble_eq_true rfl⟩) hw (fun v h' H locs hp hw => ?_)
    obtain ⟨rfl, rfl⟩ := hp
    refine W.eq (g2 := F0 m 22 ls [.int (if 3 ≤ tK T then 1 else 0)]) rfl ?_
    refine lv_if_ne (tgt := 27) hx hb dX7_members_22 (by decide) (fun c22 => ?_) (fun c22 => ?_)
    · have hk : 3 ≤ tK T := Classical.byContradiction (fun z => by rw [if_neg z] at c22; exact absurd rfl c22)
      refine lv_aload_n hx hb dX7_members_27 rfl (lv_at hl 0 rfl) ?_
      refine lv_aload_n hx hb dX7_members_28 rfl (lv_at hl 0 rfl) ?_
      refine w_get (ci := 7) (C := RX7) (T := TX7) (N := 8) (ref := "LayoutDeskModel") hx hb hts in_X7_members_7 hown hw hm rfl 0 (by decide) (hts (.fieldLink RX7 10 "LayoutDeskModel" "types" "Ljava/util/ArrayList;") (by decide +kernel)) (fun _ h9 => h9) rfl dX7_members_29 ?_
      refine lv_iload_n hx hb dX7_members_32 rfl (lv_at hl 1 rfl) ?_
      refine w_call (va_runV (As := [.int r]) (rest := [.ref mo]) ⟨hx, hb, hml, hown, hts⟩ (c_getL l g h tl ta ty hL r a ha1 H.size) (cwV 1 hts gX7_members_Jx4a65c_get_915e3 rfl rfl rfl (by decide +kernel) ⟨Nat.le_of_ble_eq_true rfl, Nat.le_of_ble_eq_true rfl⟩) ⟨pr_blind, w_recv hw hk0 rfl, pr_of hw⟩ rfl rfl hl.1 rfl (lv_room (Nat.le_of_ble_eq_true rfl)) dX7_members_33 ⟨Nat.le_of_ble_eq_true rfl, Nat.le_of_ble_eq_true rfl⟩) hw (fun v h' H locs hp hw => ?_)
      obtain ⟨rfl, rfl⟩ := hp
      refine W.eq (g2 := F0 m 36 ls [.ref a, .ref mo]) rfl ?_
      refine va_castY (C := RX6) hx hb hown (hts (.classLink RX7 29 "LayoutDeskModel$Type") (by decide +kernel)) (w_nwN hw (by decide +kernel)) (w_recv hw ha rfl) dX7_members_36 ?_
      obtain ⟨hAL, -, -⟩ := hG.2.2.1 r.toNatClampNeg (by have := (List.getElem?_eq_some_iff.mp ha2).1; omega) trivial
      obtain ⟨hf1, hf2, hf3, hf4⟩ := hw8 hk
      refine w_call (va_runV (As := [.ref a]) (rest := []) ⟨hx, hb, hml, hown, hts⟩ (c_lay l g h mo a tl ta (al r.toNatClampNeg) (aa r.toNatClampNeg) (tK T) P ty (ab r.toNatClampNeg) (tAd T) (nI (tTo T)) (nI (tLn T)) (nI (tSz T)) (mAl T) (if tFi T = true then 1 else 0) ⟨_, _, _, hm⟩ hs hd hL hw1 ha hAL hc.2.1 hc.2.2 (layTy hR0 (wf_szS hS) (hS.2.2 _ _ ha3).2.2) (wf_bd hS ha3).1 (wf_bd hS ha3).2 (Nat.le_trans hf2 (by decide)) hf3 H.size) (cwV 1 hts gX7_members_X7_lay rfl rfl rfl (by decide +kernel) ⟨Nat.le_of_ble_eq_true rfl, Nat.le_of_ble_eq_true rfl⟩) ⟨pr_blind, w_recv hw hm rfl, pr_of hw⟩ rfl rfl hl.1 rfl (lv_room (Nat.le_of_ble_eq_true rfl)) dX7_members_39 ⟨Nat.le_of_ble_eq_true rfl, Nat.le_of_ble_eq_true rfl⟩) hw (fun v h' H locs hp hw => ?_)
      obtain ⟨rfl, hLW⟩ := hp
      refine W.eq (g2 := F0 m 42 ls []) rfl ?_
      have hLW : LW g h h' mo tl P (ly T) := hLW
      have hR1 := MR_lay hR0 hLW
      have ha' : h' a = some (oTy (nI (tK T)) (nI (tTo T)) (nI (tLn T)) (nI (tSz T)) (mAl T) (al r.toNatClampNeg) (if tFi T = true then 1 else 0)) := (sf_obj ⟨_, _, _, hm⟩ hs hLW.2.1 ha (by decide)).trans ha
      refine lv_aload_n hx hb dX7_members_42 rfl (lv_at hl 0 rfl) ?_
      refine w_get (ci := 7) (C := RX7) (T := TX7) (N := 8) (ref := "LayoutDeskModel") hx hb hts in_X7_members_7 hown hw hLW.1 rfl 5 (by decide) (hts (.fieldLink RX7 88 "LayoutDeskModel" "members" "I") (by decide +kernel)) (fun _ h9 => h9) rfl dX7_members_43 ?_
      exact r_int hx hb hr hlocks hw dX7_members_46 (Nat.le_of_ble_eq_true rfl) (Nat.le_of_ble_eq_true rfl) (⟨by simp [fMbs, ht, hk], ⟨tl, ta, ty, al, aa, ab, P, hR1⟩⟩)
    · have hk : ¬ 3 ≤ tK T := fun z => by rw [if_pos z] at c22; exact absurd c22 (by decide)
      refine lv_iconst (v := (-1)) hx hb dX7_members_25 (by decide) ?_
      exact r_int hx hb hr hlocks hw dX7_members_26 (Nat.le_of_ble_eq_true rfl) (Nat.le_of_ble_eq_true rfl) (⟨by simp [fMbs, ht, hk], ⟨tl, ta, ty, al, aa, ab, P, hR0⟩⟩)
theorem m_members (l : Launch) (g : GG) (h : Nat → Option va_E) (mo : Nat) (S : List TyS) (N : Nat) (hR : MR g h mo S) (hS : wfS N S) (r : Int32) : Con l yX7_members wsX7_members 4 100 0 0 [.ref mo, .int r] g h (fun v h' => v = some (.int (fMbs S r)) ∧ MR g h' mo S) := by
  cases ht : lk S r with
  | none => exact m_members_N l g h mo S N hR hS r ht
  | some T => exact m_members_S l g h mo S N hR hS r T ht
set_option maxHeartbeats 4000000 in
set_option maxRecDepth 100000 in
theorem m_mbs_R (l : Launch) (g : GG) (h : Nat → Option va_E) (mo : Nat) (S : List TyS) (N : Nat) (hR : MR g h mo S) (hS : wfS N S) (r : Int32) (T : TyS) (ht : lk S r = some T) (hk : 3 ≤ tK T) : Con l yX7_members wsX7_members 4 100 0 0 [.ref mo, .int r] g h (fun v h' => v = some (.int (nI (ly T).2.2.2.length)) ∧ MR g h' mo S ∧ ∃ (tl : Nat) (P : P4), LW g h h' mo tl P (ly T)) := by
  obtain ⟨tl, ta, ty, al, aa, ab, P, hR0⟩ := hR
  obtain ⟨⟨mem, rea, ali, hm⟩, hs, hd, hz9, hG, hlen, -⟩ := id hR0
  have hL := hG.1
  have hn9 := AL_len hL
  obtain ⟨⟨mck, hk0⟩, -, -⟩ := id hL
  obtain ⟨a, ha1, ha2, ha3, hc⟩ := MR_lk hR0 ht
  have ha := hc.1
  obtain ⟨hw1, hw2, hw3, hw4, hw5, hw6, hw7, hw8⟩ := (hS.2.2 _ _ ha3).1
  refine m_start (cc := cX7_members) (maxL := 2) (ret := (some .int)) (by decide) rfl (Nat.le_of_ble_eq_true rfl) ?_
  intro p e s m below meth c A ls hx hb hr hml hts hown hlocks hin hw hl
  have hl : lv_has ls 2 [(0, .ref mo), (1, .int r)] := hl
  have hown : s.vm.findClass RX7 = some m.cls := hown
  refine lv_aload_n hx hb dX7_members_0 rfl (lv_at hl 0 rfl) ?_
  refine lv_iload_n hx hb dX7_members_1 rfl (lv_at hl 1 rfl) ?_
  refine w_call (va_runV (As := [.int r]) (rest := []) ⟨hx, hb, hml, hown, hts⟩ (c_there_S l g h mo tl ta P.1 P.2.1 P.2.2.1 P.2.2.2 mem rea ali ty hm hL r a ha1 s.heap.size) (cwV 1 hts gX7_members_X7_there rfl rfl rfl (by decide +kernel) ⟨Nat.le_of_ble_eq_true rfl, Nat.le_of_ble_eq_true rfl⟩) ⟨pr_blind, w_recv hw hm rfl, pr_of hw⟩ rfl rfl hl.1 rfl (lv_room (Nat.le_of_ble_eq_true rfl)) dX7_members_2 ⟨Nat.le_of_ble_eq_true rfl, Nat.le_of_ble_eq_true rfl⟩) hw (fun v h' H locs hp hw => ?_)
  obtain ⟨rfl, rfl⟩ := hp
  refine W.eq (g2 := F0 m 5 ls [.int 1]) rfl ?_
  refine lv_if_eq (tgt := 25) hx hb dX7_members_5 (by decide) (fun c5 => ?_) (fun c5 => ?_)
  · exact absurd c5 (by decide)
  · refine lv_aload_n hx hb dX7_members_8 rfl (lv_at hl 0 rfl) ?_
    refine w_get (ci := 7) (C := RX7) (T := TX7) (N := 8) (ref := "LayoutDeskModel") hx hb hts in_X7_members_7 hown hw hm rfl 0 (by decide) (hts (.fieldLink RX7 10 "LayoutDeskModel" "types" "Ljava/util/ArrayList;") (by decide +kernel)) (fun _ h9 => h9) rfl dX7_members_9 ?_
    refine lv_iload_n hx hb dX7_members_12 rfl (lv_at hl 1 rfl) ?_
    refine w_call (va_runV (As := [.int r]) (rest := []) ⟨hx, hb, hml, hown, hts⟩ (c_getL l g h tl ta ty hL r a ha1 H.size) (cwV 1 hts gX7_members_Jx4a65c_get_915e3 rfl rfl rfl (by decide +kernel) ⟨Nat.le_of_ble_eq_true rfl, Nat.le_of_ble_eq_true rfl⟩) ⟨pr_blind, w_recv hw hk0 rfl, pr_of hw⟩ rfl rfl hl.1 rfl (lv_room (Nat.le_of_ble_eq_true rfl)) dX7_members_13 ⟨Nat.le_of_ble_eq_true rfl, Nat.le_of_ble_eq_true rfl⟩) hw (fun v h' H locs hp hw => ?_)
    obtain ⟨rfl, rfl⟩ := hp
    refine W.eq (g2 := F0 m 16 ls [.ref a]) rfl ?_
    refine va_castY (C := RX6) hx hb hown (hts (.classLink RX7 29 "LayoutDeskModel$Type") (by decide +kernel)) (w_nwN hw (by decide +kernel)) (w_recv hw ha rfl) dX7_members_16 ?_
    refine w_call (va_runV (As := []) (rest := []) ⟨hx, hb, hml, hown, hts⟩ (c_isRec l g h a (al r.toNatClampNeg) (tK T) (nI (tTo T)) (nI (tLn T)) (nI (tSz T)) (mAl T) (if tFi T = true then 1 else 0) hw1 ha H.size) (cwV 0 hts gX7_members_X6_record rfl rfl rfl (by decide +kernel) ⟨Nat.le_of_ble_eq_true rfl, Nat.le_of_ble_eq_true rfl⟩) ⟨pr_blind, w_recv hw ha rfl, pr_of hw⟩ rfl rfl hl.1 rfl (lv_room (Nat.le_of_ble_eq_true rfl)) dX7_members_19 ⟨Nat.le_of_ble_eq_true rfl, Nat.le_of_ble_eq_true rfl⟩) hw (fun v h' H locs hp hw => ?_)
    obtain ⟨rfl, rfl⟩ := hp
    refine W.eq (g2 := F0 m 22 ls [.int (if 3 ≤ tK T then 1 else 0)]) rfl ?_
    refine lv_if_ne (tgt := 27) hx hb dX7_members_22 (by decide) (fun c22 => ?_) (fun c22 => ?_)
    · refine lv_aload_n hx hb dX7_members_27 rfl (lv_at hl 0 rfl) ?_
      refine lv_aload_n hx hb dX7_members_28 rfl (lv_at hl 0 rfl) ?_
      refine w_get (ci := 7) (C := RX7) (T := TX7) (N := 8) (ref := "LayoutDeskModel") hx hb hts in_X7_members_7 hown hw hm rfl 0 (by decide) (hts (.fieldLink RX7 10 "LayoutDeskModel" "types" "Ljava/util/ArrayList;") (by decide +kernel)) (fun _ h9 => h9) rfl dX7_members_29 ?_
      refine lv_iload_n hx hb dX7_members_32 rfl (lv_at hl 1 rfl) ?_
      refine w_call (va_runV (As := [.int r]) (rest := [.ref mo]) ⟨hx, hb, hml, hown, hts⟩ (c_getL l g h tl ta ty hL r a ha1 H.size) (cwV 1 hts gX7_members_Jx4a65c_get_915e3 rfl rfl rfl (by decide +kernel) ⟨Nat.le_of_ble_eq_true rfl, Nat.le_of_ble_eq_true rfl⟩) ⟨pr_blind, w_recv hw hk0 rfl, pr_of hw⟩ rfl rfl hl.1 rfl (lv_room (Nat.le_of_ble_eq_true rfl)) dX7_members_33 ⟨Nat.le_of_ble_eq_true rfl, Nat.le_of_ble_eq_true rfl⟩) hw (fun v h' H locs hp hw => ?_)
      obtain ⟨rfl, rfl⟩ := hp
      refine W.eq (g2 := F0 m 36 ls [.ref a, .ref mo]) rfl ?_
      refine va_castY (C := RX6) hx hb hown (hts (.classLink RX7 29 "LayoutDeskModel$Type") (by decide +kernel)) (w_nwN hw (by decide +kernel)) (w_recv hw ha rfl) dX7_members_36 ?_
      obtain ⟨hAL, -, -⟩ := hG.2.2.1 r.toNatClampNeg (by have := (List.getElem?_eq_some_iff.mp ha2).1; omega) trivial
      obtain ⟨hf1, hf2, hf3, hf4⟩ := hw8 hk
      refine w_call (va_runV (As := [.ref a]) (rest := []) ⟨hx, hb, hml, hown, hts⟩ (c_lay l g h mo a tl ta (al r.toNatClampNeg) (aa r.toNatClampNeg) (tK T) P ty (ab r.toNatClampNeg) (tAd T) (nI (tTo T)) (nI (tLn T)) (nI (tSz T)) (mAl T) (if tFi T = true then 1 else 0) ⟨_, _, _, hm⟩ hs hd hL hw1 ha hAL hc.2.1 hc.2.2 (layTy hR0 (wf_szS hS) (hS.2.2 _ _ ha3).2.2) (wf_bd hS ha3).1 (wf_bd hS ha3).2 (Nat.le_trans hf2 (by decide)) hf3 H.size) (cwV 1 hts gX7_members_X7_lay rfl rfl rfl (by decide +kernel) ⟨Nat.le_of_ble_eq_true rfl, Nat.le_of_ble_eq_true rfl⟩) ⟨pr_blind, w_recv hw hm rfl, pr_of hw⟩ rfl rfl hl.1 rfl (lv_room (Nat.le_of_ble_eq_true rfl)) dX7_members_39 ⟨Nat.le_of_ble_eq_true rfl, Nat.le_of_ble_eq_true rfl⟩) hw (fun v h' H locs hp hw => ?_)
      obtain ⟨rfl, hLW⟩ := hp
      refine W.eq (g2 := F0 m 42 ls []) rfl ?_
      have hLW : LW g h h' mo tl P (ly T) := hLW
      have hR1 := MR_lay hR0 hLW
      have ha' : h' a = some (oTy (nI (tK T)) (nI (tTo T)) (nI (tLn T)) (nI (tSz T)) (mAl T) (al r.toNatClampNeg) (if tFi T = true then 1 else 0)) := (sf_obj ⟨_, _, _, hm⟩ hs hLW.2.1 ha (by decide)).trans ha
      refine lv_aload_n hx hb dX7_members_42 rfl (lv_at hl 0 rfl) ?_
      refine w_get (ci := 7) (C := RX7) (T := TX7) (N := 8) (ref := "LayoutDeskModel") hx hb hts in_X7_members_7 hown hw hLW.1 rfl 5 (by decide) (hts (.fieldLink RX7 88 "LayoutDeskModel" "members" "I") (by decide +kernel)) (fun _ h9 => h9) rfl dX7_members_43 ?_
      exact r_int hx hb hr hlocks hw dX7_members_46 (Nat.le_of_ble_eq_true rfl) (Nat.le_of_ble_eq_true rfl) (⟨rfl, ⟨tl, ta, ty, al, aa, ab, P, hR1⟩, tl, P, hLW⟩)
    · rw [if_pos hk] at c22
      exact absurd c22 (by decide)
set_option maxHeartbeats 4000000 in
set_option maxRecDepth 100000 in
theorem m_member_X (l : Launch) (g : GG) (h : Nat → Option va_E) (mo : Nat) (S : List TyS) (N : Nat) (hR : MR g h mo S) (hS : wfS N S) (r k wh : Int32) (hmv : fMbs S r = -1) (hmr : fMbr S r k wh = -1) : Con l yX7_member wsX7_member 5 130 0 0 [.ref mo, .int r, .int k, .int wh] g h (fun v h' => v = some (.int (fMbr S r k wh)) ∧ MR g h' mo S) := by
  obtain ⟨tl, ta, ty, al, aa, ab, P, hR0⟩ := hR
  obtain ⟨⟨mem, rea, ali, hm⟩, hs, hd, hz9, hG, hlen, -⟩ := id hR0
  have hL := hG.1
  have hn9 := AL_len hL
  obtain ⟨⟨mck, hk0⟩, -, -⟩ := id hL
  refine m_start (cc := cX7_member) (maxL := 4) (ret := (some .int)) (by decide) rfl (Nat.le_of_ble_eq_true rfl) ?_
  intro p e s m below meth c A ls hx hb hr hml hts hown hlocks hin hw hl
  have hl : lv_has ls 4 [(0, .ref mo), (1, .int r), (2, .int k), (3, .int wh)] := hl
  have hown : s.vm.findClass RX7 = some m.cls := hown
  refine lv_aload_n hx hb dX7_member_0 rfl (lv_at hl 0 rfl) ?_
  refine lv_iload_n hx hb dX7_member_1 rfl (lv_at hl 1 rfl) ?_
  refine w_call (va_runV (As := [.int r]) (rest := []) ⟨hx, hb, hml, hown, hts⟩ (m_members l g h mo S N ⟨tl, ta, ty, al, aa, ab, P, hR0⟩ hS r s.heap.size) (cwV 1 hts gX7_member_X7_members rfl rfl rfl (by decide +kernel) ⟨Nat.le_of_ble_eq_true rfl, Nat.le_of_ble_eq_true rfl⟩) ⟨pr_blind, w_recv hw hm rfl, pr_of hw⟩ rfl rfl hl.1 rfl (lv_room (Nat.le_of_ble_eq_true rfl)) dX7_member_2 ⟨Nat.le_of_ble_eq_true rfl, Nat.le_of_ble_eq_true rfl⟩) hw (fun v h' H locs hp hw => ?_)
  obtain ⟨rfl, hR9⟩ := hp
  refine W.eq (g2 := F0 m 5 ls [.int (-1)]) (by rw [hmv]; rfl) ?_
  refine lv_iload_n hx hb dX7_member_5 rfl (lv_at hl 2 rfl) ?_
  refine lv_icmp_le (tgt := 22) hx hb dX7_member_6 (by decide) (fun c6 => ?_) (fun c6 => ?_)
  · refine lv_iconst (v := (-1)) hx hb dX7_member_22 (by decide) ?_
    exact r_int hx hb hr hlocks hw dX7_member_23 (Nat.le_of_ble_eq_true rfl) (Nat.le_of_ble_eq_true rfl) (⟨by rw [hmr], hR9⟩)
  · refine lv_iload_n hx hb dX7_member_9 rfl (lv_at hl 2 rfl) ?_
    refine lv_if_lt (tgt := 22) hx hb dX7_member_10 (by decide) (fun c10 => ?_) (fun c10 => ?_)
    · refine lv_iconst (v := (-1)) hx hb dX7_member_22 (by decide) ?_
      exact r_int hx hb hr hlocks hw dX7_member_23 (Nat.le_of_ble_eq_true rfl) (Nat.le_of_ble_eq_true rfl) (⟨by rw [hmr], hR9⟩)
    · exact absurd (Int32.lt_trans (Int32.not_le.mp c6) (by decide)) c10
theorem in_X7_member_7 : ∀ w ∈ u_ws RX7 TX7 8, w ∈ wsX7_member := by decide +kernel
set_option maxHeartbeats 4000000 in
set_option maxRecDepth 100000 in
theorem m_member_R (l : Launch) (g : GG) (h : Nat → Option va_E) (mo : Nat) (S : List TyS) (N : Nat) (hR : MR g h mo S) (hS : wfS N S) (r k wh : Int32) (T : TyS) (ht : lk S r = some T) (hk : 3 ≤ tK T) : Con l yX7_member wsX7_member 5 130 0 0 [.ref mo, .int r, .int k, .int wh] g h (fun v h' => v = some (.int (fMbr S r k wh)) ∧ MR g h' mo S) := by
  obtain ⟨tl, ta, ty, al, aa, ab, P, hR0⟩ := hR
  obtain ⟨⟨mem, rea, ali, hm⟩, hs, hd, hz9, hG, hlen, -⟩ := id hR0
  have hL := hG.1
  have hn9 := AL_len hL
  obtain ⟨⟨mck, hk0⟩, -, -⟩ := id hL
  have hl1 := (((hS.2.2 _ _ (lk_ofS ht).2).1.2.2.2.2.2.2.2) hk).2.2.1
  refine m_start (cc := cX7_member) (maxL := 4) (ret := (some .int)) (by decide) rfl (Nat.le_of_ble_eq_true rfl) ?_
  intro p e s m below meth c A ls hx hb hr hml hts hown hlocks hin hw hl
  have hl : lv_has ls 4 [(0, .ref mo), (1, .int r), (2, .int k), (3, .int wh)] := hl
  have hown : s.vm.findClass RX7 = some m.cls := hown
  refine lv_aload_n hx hb dX7_member_0 rfl (lv_at hl 0 rfl) ?_
  refine lv_iload_n hx hb dX7_member_1 rfl (lv_at hl 1 rfl) ?_
  refine w_call (va_runV (As := [.int r]) (rest := []) ⟨hx, hb, hml, hown, hts⟩ (m_mbs_R l g h mo S N ⟨tl, ta, ty, al, aa, ab, P, hR0⟩ hS r T ht hk s.heap.size) (cwV 1 hts gX7_member_X7_members rfl rfl rfl (by decide +kernel) ⟨Nat.le_of_ble_eq_true rfl, Nat.le_of_ble_eq_true rfl⟩) ⟨pr_blind, w_recv hw hm rfl, pr_of hw⟩ rfl rfl hl.1 rfl (lv_room (Nat.le_of_ble_eq_true rfl)) dX7_member_2 ⟨Nat.le_of_ble_eq_true rfl, Nat.le_of_ble_eq_true rfl⟩) hw (fun v h' H locs hp hw => ?_)
  obtain ⟨rfl, hR9, tl9, P9, hLW⟩ := hp
  refine W.eq (g2 := F0 m 5 ls [.int (nI (ly T).2.2.2.length)]) rfl ?_
  refine lv_iload_n hx hb dX7_member_5 rfl (lv_at hl 2 rfl) ?_
  refine lv_icmp_le (tgt := 22) hx hb dX7_member_6 (by decide) (fun c6 => ?_) (fun c6 => ?_)
  · refine lv_iconst (v := (-1)) hx hb dX7_member_22 (by decide) ?_
    exact r_int hx hb hr hlocks hw dX7_member_23 (Nat.le_of_ble_eq_true rfl) (Nat.le_of_ble_eq_true rfl) (⟨by simp [fMbr, ht, hk, lk_geq c6 (by omega)], hR9⟩)
  · refine lv_iload_n hx hb dX7_member_9 rfl (lv_at hl 2 rfl) ?_
    refine lv_if_lt (tgt := 22) hx hb dX7_member_10 (by decide) (fun c10 => ?_) (fun c10 => ?_)
    · refine lv_iconst (v := (-1)) hx hb dX7_member_22 (by decide) ?_
      exact r_int hx hb hr hlocks hw dX7_member_23 (Nat.le_of_ble_eq_true rfl) (Nat.le_of_ble_eq_true rfl) (⟨by simp [fMbr, ht, hk, lk_neg c10], hR9⟩)
    · refine lv_iload_n hx hb dX7_member_13 rfl (lv_at hl 3 rfl) ?_
      refine lv_if_lt (tgt := 22) hx hb dX7_member_14 (by decide) (fun c14 => ?_) (fun c14 => ?_)
      · refine lv_iconst (v := (-1)) hx hb dX7_member_22 (by decide) ?_
        exact r_int hx hb hr hlocks hw dX7_member_23 (Nat.le_of_ble_eq_true rfl) (Nat.le_of_ble_eq_true rfl) (⟨by rw [fMbr_out (T := T) ht hk (by first | exact Or.inl c14 | exact Or.inr (Int32.not_le.mp c19))], hR9⟩)
      · refine lv_iload_n hx hb dX7_member_17 rfl (lv_at hl 3 rfl) ?_
        refine lv_iconst (v := 3) hx hb dX7_member_18 (by decide) ?_
        refine lv_icmp_le (tgt := 24) hx hb dX7_member_19 (by decide) (fun c19 => ?_) (fun c19 => ?_)
        · obtain ⟨mm, hmm⟩ := lk_some (ty := (ly T).2.2.2) c10 (Int32.not_le.mp c6) (by omega)
          obtain ⟨q1, q2, q3⟩ := lk_lt hmm (by omega)
          obtain ⟨-, -, -, f0, f1, f2, f3, g0, g1, g2, g3, hcon⟩ := id hLW
          have hv9 := hcon k.toNatClampNeg mm (lk_ofS hmm).2
          have hin9 : vp_in k 100 := by rw [q2]; exact vp_in_nI (by omega) (by omega)
          refine lv_iload_n hx hb dX7_member_24 rfl (lv_at hl 3 rfl) ?_
          refine lv_if_ne (tgt := 37) hx hb dX7_member_25 (by decide) (fun c25 => ?_) (fun c25 => ?_)
          · refine lv_iload_n hx hb dX7_member_37 rfl (lv_at hl 3 rfl) ?_
            refine lv_iconst (v := 1) hx hb dX7_member_38 (by decide) ?_
            refine lv_icmp_ne (tgt := 51) hx hb dX7_member_39 (by decide) (fun c39 => ?_) (fun c39 => ?_)
            · refine lv_iload_n hx hb dX7_member_51 rfl (lv_at hl 3 rfl) ?_
              refine lv_iconst (v := 2) hx hb dX7_member_52 (by decide) ?_
              refine lv_icmp_ne (tgt := 65) hx hb dX7_member_53 (by decide) (fun c53 => ?_) (fun c53 => ?_)
              · refine lv_aload_n hx hb dX7_member_65 rfl (lv_at hl 0 rfl) ?_
                refine w_get (ci := 7) (C := RX7) (T := TX7) (N := 8) (ref := "LayoutDeskModel") hx hb hts in_X7_member_7 hown hw hLW.1 rfl 4 (by decide) (hts (.fieldLink RX7 26 "LayoutDeskModel" "widths" "[I") (by decide +kernel)) (fun _ h9 => h9) rfl dX7_member_66 ?_
                refine lv_iload_n hx hb dX7_member_69 rfl (lv_at hl 2 rfl) ?_
                refine w_iald hx hb hw g3 hin9 dX7_member_70 ?_
                exact r_int hx hb hr hlocks hw dX7_member_71 (Nat.le_of_ble_eq_true rfl) (Nat.le_of_ble_eq_true rfl) (⟨by simp [fMbr, ht, hk, hmm, c25, c39, c53, show wh = 3 from sw_3 c14 c19 c25 c39 c53, hv9.2.2.2], hR9⟩)
              · refine lv_aload_n hx hb dX7_member_56 rfl (lv_at hl 0 rfl) ?_
                refine w_get (ci := 7) (C := RX7) (T := TX7) (N := 8) (ref := "LayoutDeskModel") hx hb hts in_X7_member_7 hown hw hLW.1 rfl 3 (by decide) (hts (.fieldLink RX7 23 "LayoutDeskModel" "lows" "[I") (by decide +kernel)) (fun _ h9 => h9) rfl dX7_member_57 ?_
                refine lv_iload_n hx hb dX7_member_60 rfl (lv_at hl 2 rfl) ?_
                refine w_iald hx hb hw g2 hin9 dX7_member_61 ?_
                refine lv_goto (tgt := 71) hx hb dX7_member_62 (by decide) ?_
                exact r_int hx hb hr hlocks hw dX7_member_71 (Nat.le_of_ble_eq_true rfl) (Nat.le_of_ble_eq_true rfl) (⟨by simp [fMbr, ht, hk, hmm, c25, c39, c53, hv9.2.2.1], hR9⟩)
            · refine lv_aload_n hx hb dX7_member_42 rfl (lv_at hl 0 rfl) ?_
              refine w_get (ci := 7) (C := RX7) (T := TX7) (N := 8) (ref := "LayoutDeskModel") hx hb hts in_X7_member_7 hown hw hLW.1 rfl 2 (by decide) (hts (.fieldLink RX7 20 "LayoutDeskModel" "kinds" "[I") (by decide +kernel)) (fun _ h9 => h9) rfl dX7_member_43 ?_
              refine lv_iload_n hx hb dX7_member_46 rfl (lv_at hl 2 rfl) ?_
              refine w_iald hx hb hw g1 hin9 dX7_member_47 ?_
              refine lv_goto (tgt := 71) hx hb dX7_member_48 (by decide) ?_
              exact r_int hx hb hr hlocks hw dX7_member_71 (Nat.le_of_ble_eq_true rfl) (Nat.le_of_ble_eq_true rfl) (⟨by simp [fMbr, ht, hk, hmm, c25, c39, hv9.2.1], hR9⟩)
          · refine lv_aload_n hx hb dX7_member_28 rfl (lv_at hl 0 rfl) ?_
            refine w_get (ci := 7) (C := RX7) (T := TX7) (N := 8) (ref := "LayoutDeskModel") hx hb hts in_X7_member_7 hown hw hLW.1 rfl 1 (by decide) (hts (.fieldLink RX7 16 "LayoutDeskModel" "places" "[I") (by decide +kernel)) (fun _ h9 => h9) rfl dX7_member_29 ?_
            refine lv_iload_n hx hb dX7_member_32 rfl (lv_at hl 2 rfl) ?_
            refine w_iald hx hb hw g0 hin9 dX7_member_33 ?_
            refine lv_goto (tgt := 71) hx hb dX7_member_34 (by decide) ?_
            exact r_int hx hb hr hlocks hw dX7_member_71 (Nat.le_of_ble_eq_true rfl) (Nat.le_of_ble_eq_true rfl) (⟨by simp [fMbr, ht, hk, hmm, c25, hv9.1], hR9⟩)
        · refine lv_iconst (v := (-1)) hx hb dX7_member_22 (by decide) ?_
          exact r_int hx hb hr hlocks hw dX7_member_23 (Nat.le_of_ble_eq_true rfl) (Nat.le_of_ble_eq_true rfl) (⟨by rw [fMbr_out (T := T) ht hk (by first | exact Or.inl c14 | exact Or.inr (Int32.not_le.mp c19))], hR9⟩)
theorem m_member (l : Launch) (g : GG) (h : Nat → Option va_E) (mo : Nat) (S : List TyS) (N : Nat) (hR : MR g h mo S) (hS : wfS N S) (r k wh : Int32) : Con l yX7_member wsX7_member 5 130 0 0 [.ref mo, .int r, .int k, .int wh] g h (fun v h' => v = some (.int (fMbr S r k wh)) ∧ MR g h' mo S) := by
  cases ht : lk S r with
  | none => exact m_member_X l g h mo S N hR hS r k wh (by simp [fMbs, ht]) (by simp [fMbr, ht])
  | some T =>
    rcases Nat.lt_or_ge (tK T) 3 with hk | hk
    · exact m_member_X l g h mo S N hR hS r k wh (by simp [fMbs, ht, show ¬ 3 ≤ tK T by omega]) (by simp [fMbr, ht, show ¬ 3 ≤ tK T by omega])
    · exact m_member_R l g h mo S N hR hS r k wh T ht hk
