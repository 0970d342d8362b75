/-! the model: field, bits -/
set_option maxHeartbeats 4000000 in
set_option maxRecDepth 100000 in
theorem m_field_N1 (l : Launch) (g : GG) (h : Nat → Option va_E) (mo : Nat) (S : List TyS) (N : Nat) (hR : MR g h mo S) (hS : wfS N S) (hN : N ≤ 520) (r t : Int32) (hto : lkO S r = none) (ht : lk S r = none) : Con l yX7_field wsX7_field 8 200 2 803 [.ref mo, .int r, .int t] g h (fun v h' => v = some (.int (fFld S r t).1) ∧ MR g h' mo (fFld S r t).2) := by
  obtain ⟨tl, ta, ty, al, aa, ab, P, hR0⟩ := hR
  obtain ⟨⟨mem, rea, ali, hm⟩, hs, hd, hz9, hG, hlen, -⟩ := id hR0
  have hL := hG.1
  have hn9 := AL_len hL
  obtain ⟨⟨mck, hk0⟩, -, -⟩ := id hL
  have htn := MR_lkN hR0 ht
  refine m_start (cc := cX7_field) (maxL := 4) (ret := (some .int)) (by decide) rfl (Nat.le_of_ble_eq_true rfl) ?_
  intro p e s m below meth c A ls hx hb hr hml hts hown hlocks hin hw hl
  have hl : lv_has ls 4 [(0, .ref mo), (1, .int r), (2, .int t)] := hl
  have hown : s.vm.findClass RX7 = some m.cls := hown
  refine lv_aload_n hx hb dX7_field_0 rfl (lv_at hl 0 rfl) ?_
  refine lv_iload_n hx hb dX7_field_1 rfl (lv_at hl 1 rfl) ?_
  refine w_call (va_runV (As := [.int r]) (rest := []) ⟨hx, hb, hml, hown, hts⟩ (c_open_MN l g h mo tl ta P.1 P.2.1 P.2.2.1 P.2.2.2 mem rea ali ty hm hL r htn s.heap.size) (cwV 1 hts gX7_field_X7_open rfl rfl rfl (by decide +kernel) ⟨Nat.le_of_ble_eq_true rfl, Nat.le_of_ble_eq_true rfl⟩) ⟨pr_blind, w_recv hw hm rfl, pr_of hw⟩ rfl rfl hl.1 rfl (lv_room (Nat.le_of_ble_eq_true rfl)) dX7_field_2 ⟨Nat.le_of_ble_eq_true rfl, Nat.le_of_ble_eq_true rfl⟩) hw (fun v h' H locs hp hw => ?_)
  obtain ⟨rfl, rfl⟩ := hp
  refine W.eq (g2 := F0 m 5 ls [.null]) rfl ?_
  refine lv_astore_nN (lv' := [(3, .null), (0, .ref mo), (1, .int r), (2, .int t)]) hx hb dX7_field_5 rfl hl (by decide) rfl (fun ls hl => ?_)
  refine lv_aload_nN hx hb dX7_field_6 rfl (lv_at hl 0 rfl) ?_
  refine lv_ifnullN (tgt := 18) hx hb dX7_field_7 (by decide) ?_
  refine lv_iconst (v := (-1)) hx hb dX7_field_18 (by decide) ?_
  have e9 : fFld S r t = (-1, S) := by simp [fFld, hto]
  exact r_int hx hb hr hlocks hw dX7_field_19 (Nat.le_of_ble_eq_true rfl) (Nat.le_of_ble_eq_true rfl) (⟨by rw [e9], by rw [e9]; exact ⟨tl, ta, ty, al, aa, ab, P, hR0⟩⟩)
set_option maxHeartbeats 4000000 in
set_option maxRecDepth 100000 in
theorem m_field_N2 (l : Launch) (g : GG) (h : Nat → Option va_E) (mo : Nat) (S : List TyS) (N : Nat) (hR : MR g h mo S) (hS : wfS N S) (hN : N ≤ 520) (r t : Int32) (T : TyS) (hto : lkO S r = none) (ht : lk S r = some T) (hcl : tK T < 3 ∨ tFi T = true) : Con l yX7_field wsX7_field 8 200 2 803 [.ref mo, .int r, .int t] g h (fun v h' => v = some (.int (fFld S r t).1) ∧ MR g h' mo (fFld S r t).2) := by
  obtain ⟨tl, ta, ty, al, aa, ab, P, hR0⟩ := hR
  obtain ⟨⟨mem, rea, ali, hm⟩, hs, hd, hz9, hG, hlen, -⟩ := id hR0
  have hL := hG.1
  have hn9 := AL_len hL
  obtain ⟨⟨mck, hk0⟩, -, -⟩ := id hL
  obtain ⟨a, ha1, ha2, ha3, hc⟩ := MR_lk hR0 ht
  have ha := hc.1
  obtain ⟨hw1, hw2, hw3, hw4, hw5, hw6, hw7, hw8⟩ := (hS.2.2 _ _ ha3).1
  refine m_start (cc := cX7_field) (maxL := 4) (ret := (some .int)) (by decide) rfl (Nat.le_of_ble_eq_true rfl) ?_
  intro p e s m below meth c A ls hx hb hr hml hts hown hlocks hin hw hl
  have hl : lv_has ls 4 [(0, .ref mo), (1, .int r), (2, .int t)] := hl
  have hown : s.vm.findClass RX7 = some m.cls := hown
  refine lv_aload_n hx hb dX7_field_0 rfl (lv_at hl 0 rfl) ?_
  refine lv_iload_n hx hb dX7_field_1 rfl (lv_at hl 1 rfl) ?_
  refine w_call (va_runV (As := [.int r]) (rest := []) ⟨hx, hb, hml, hown, hts⟩ (c_open_MC l g h mo tl ta P.1 P.2.1 P.2.2.1 P.2.2.2 mem rea ali ty hm hL r a (al r.toNatClampNeg) (tK T) (nI (tTo T)) (nI (tLn T)) (nI (tSz T)) (mAl T) (if tFi T = true then 1 else 0) hw1 ha1 ha (hcl.imp id (fun z => by rw [z]; rfl)) s.heap.size) (cwV 1 hts gX7_field_X7_open rfl rfl rfl (by decide +kernel) ⟨Nat.le_of_ble_eq_true rfl, Nat.le_of_ble_eq_true rfl⟩) ⟨pr_blind, w_recv hw hm rfl, pr_of hw⟩ rfl rfl hl.1 rfl (lv_room (Nat.le_of_ble_eq_true rfl)) dX7_field_2 ⟨Nat.le_of_ble_eq_true rfl, Nat.le_of_ble_eq_true rfl⟩) hw (fun v h' H locs hp hw => ?_)
  obtain ⟨rfl, rfl⟩ := hp
  refine W.eq (g2 := F0 m 5 ls [.null]) rfl ?_
  refine lv_astore_nN (lv' := [(3, .null), (0, .ref mo), (1, .int r), (2, .int t)]) hx hb dX7_field_5 rfl hl (by decide) rfl (fun ls hl => ?_)
  refine lv_aload_nN hx hb dX7_field_6 rfl (lv_at hl 0 rfl) ?_
  refine lv_ifnullN (tgt := 18) hx hb dX7_field_7 (by decide) ?_
  refine lv_iconst (v := (-1)) hx hb dX7_field_18 (by decide) ?_
  have e9 : fFld S r t = (-1, S) := by simp [fFld, hto]
  exact r_int hx hb hr hlocks hw dX7_field_19 (Nat.le_of_ble_eq_true rfl) (Nat.le_of_ble_eq_true rfl) (⟨by rw [e9], by rw [e9]; exact ⟨tl, ta, ty, al, aa, ab, P, hR0⟩⟩)
set_option maxHeartbeats 4000000 in
set_option maxRecDepth 100000 in
theorem m_field_ON (l : Launch) (g : GG) (h : Nat → Option va_E) (mo : Nat) (S : List TyS) (N : Nat) (hR : MR g h mo S) (hS : wfS N S) (hN : N ≤ 520) (r t : Int32) (T : TyS) (hto : lkO S r = some T) (ht2 : lk S t = none) : Con l yX7_field wsX7_field 8 200 2 803 [.ref mo, .int r, .int t] g h (fun v h' => v = some (.int (fFld S r t).1) ∧ MR g h' mo (fFld S r t).2) := by
  obtain ⟨ht, hk, hfi⟩ := lkO_some hto
  obtain ⟨tl, ta, ty, al, aa, ab, P, hR0⟩ := hR
  obtain ⟨⟨mem, rea, ali, hm⟩, hs, hd, hz9, hG, hlen, -⟩ := id hR0
  have hL := hG.1
  have hn9 := AL_len hL
  obtain ⟨⟨mck, hk0⟩, -, -⟩ := id hL
  obtain ⟨a, ha1, ha2, ha3, hc⟩ := MR_lk hR0 ht
  have ha := hc.1
  obtain ⟨hw1, hw2, hw3, hw4, hw5, hw6, hw7, hw8⟩ := (hS.2.2 _ _ ha3).1
  obtain ⟨hf1, hf2, hf3, hf4⟩ := hw8 hk
  obtain ⟨hAL, hal1, -⟩ := hG.2.2.1 r.toNatClampNeg (by have := (List.getElem?_eq_some_iff.mp ha2).1; omega) trivial
  obtain ⟨⟨mca, hal0⟩, -, -⟩ := id hAL
  have hm0 : mAl T = 0 := if_pos ⟨hk, hfi⟩
  have htn := MR_lkN hR0 ht2
  refine m_start (cc := cX7_field) (maxL := 4) (ret := (some .int)) (by decide) rfl (Nat.le_of_ble_eq_true rfl) ?_
  intro p e s m below meth c A ls hx hb hr hml hts hown hlocks hin hw hl
  have hl : lv_has ls 4 [(0, .ref mo), (1, .int r), (2, .int t)] := hl
  have hown : s.vm.findClass RX7 = some m.cls := hown
  refine lv_aload_n hx hb dX7_field_0 rfl (lv_at hl 0 rfl) ?_
  refine lv_iload_n hx hb dX7_field_1 rfl (lv_at hl 1 rfl) ?_
  refine w_call (va_runV (As := [.int r]) (rest := []) ⟨hx, hb, hml, hown, hts⟩ (c_open_MO l g h mo tl ta P.1 P.2.1 P.2.2.1 P.2.2.2 mem rea ali ty hm hL r a (al r.toNatClampNeg) (tK T) (nI (tTo T)) (nI (tLn T)) (nI (tSz T)) (mAl T) (if tFi T = true then 1 else 0) hw1 ha1 ha ⟨hk, by rw [hfi]; rfl⟩ s.heap.size) (cwV 1 hts gX7_field_X7_open rfl rfl rfl (by decide +kernel) ⟨Nat.le_of_ble_eq_true rfl, Nat.le_of_ble_eq_true rfl⟩) ⟨pr_blind, w_recv hw hm rfl, pr_of hw⟩ rfl rfl hl.1 rfl (lv_room (Nat.le_of_ble_eq_true rfl)) dX7_field_2 ⟨Nat.le_of_ble_eq_true rfl, Nat.le_of_ble_eq_true rfl⟩) hw (fun v h' H locs hp hw => ?_)
  obtain ⟨rfl, rfl⟩ := hp
  refine W.eq (g2 := F0 m 5 ls [.ref a]) rfl ?_
  refine lv_astore_n (lv' := [(3, .ref a), (0, .ref mo), (1, .int r), (2, .int t)]) hx hb dX7_field_5 rfl hl (by decide) rfl (fun ls hl => ?_)
  refine lv_aload_n hx hb dX7_field_6 rfl (lv_at hl 0 rfl) ?_
  refine lv_ifnull hx hb dX7_field_7 ?_
  refine lv_aload_n hx hb dX7_field_10 rfl (lv_at hl 1 rfl) ?_
  refine lv_iload_n hx hb dX7_field_11 rfl (lv_at hl 3 rfl) ?_
  refine w_call (va_runV (As := [.int t]) (rest := []) ⟨hx, hb, hml, hown, hts⟩ (c_there_N l g h mo tl ta P.1 P.2.1 P.2.2.1 P.2.2.2 mem rea ali ty hm hL t htn H.size) (cwV 1 hts gX7_field_X7_there rfl rfl rfl (by decide +kernel) ⟨Nat.le_of_ble_eq_true rfl, Nat.le_of_ble_eq_true rfl⟩) ⟨pr_blind, w_recv hw hm rfl, pr_of hw⟩ rfl rfl hl.1 rfl (lv_room (Nat.le_of_ble_eq_true rfl)) dX7_field_12 ⟨Nat.le_of_ble_eq_true rfl, Nat.le_of_ble_eq_true rfl⟩) hw (fun v h' H locs hp hw => ?_)
  obtain ⟨rfl, rfl⟩ := hp
  refine W.eq (g2 := F0 m 15 ls [.int 0]) rfl ?_
  refine lv_if_ne (tgt := 20) hx hb dX7_field_15 (by decide) (fun c15 => ?_) (fun c15 => ?_)
  · exact absurd rfl c15
  · refine lv_iconst (v := (-1)) hx hb dX7_field_18 (by decide) ?_
    have e9 : fFld S r t = (-1, S) := by simp [fFld, hto, ht2]
    exact r_int hx hb hr hlocks hw dX7_field_19 (Nat.le_of_ble_eq_true rfl) (Nat.le_of_ble_eq_true rfl) (⟨by rw [e9], by rw [e9]; exact ⟨tl, ta, ty, al, aa, ab, P, hR0⟩⟩)
theorem in_X7_field_7 : ∀ w ∈ u_ws RX7 TX7 8, w ∈ wsX7_field := by decide +kernel
set_option maxHeartbeats 4000000 in
set_option maxRecDepth 100000 in
theorem m_field_OS (l : Launch) (g : GG) (h : Nat → Option va_E) (mo : Nat) (S : List TyS) (N : Nat) (hR : MR g h mo S) (hS : wfS N S) (hN : N ≤ 520) (r t : Int32) (T T2 : TyS) (hto : lkO S r = some T) (ht2 : lk S t = some T2) : Con l yX7_field wsX7_field 8 200 2 803 [.ref mo, .int r, .int t] g h (fun v h' => v = some (.int (fFld S r t).1) ∧ MR g h' mo (fFld S r t).2) := by
  obtain ⟨ht, hk, hfi⟩ := lkO_some hto
  obtain ⟨tl, ta, ty, al, aa, ab, P, hR0⟩ := hR
  obtain ⟨⟨mem, rea, ali, hm⟩, hs, hd, hz9, hG, hlen, -⟩ := id hR0
  have hL := hG.1
  have hn9 := AL_len hL
  obtain ⟨⟨mck, hk0⟩, -, -⟩ := id hL
  obtain ⟨a, ha1, ha2, ha3, hc⟩ := MR_lk hR0 ht
  have ha := hc.1
  obtain ⟨hw1, hw2, hw3, hw4, hw5, hw6, hw7, hw8⟩ := (hS.2.2 _ _ ha3).1
  obtain ⟨hf1, hf2, hf3, hf4⟩ := hw8 hk
  obtain ⟨hAL, hal1, -⟩ := hG.2.2.1 r.toNatClampNeg (by have := (List.getElem?_eq_some_iff.mp ha2).1; omega) trivial
  obtain ⟨⟨mca, hal0⟩, -, -⟩ := id hAL
  have hm0 : mAl T = 0 := if_pos ⟨hk, hfi⟩
  obtain ⟨b2, j1, j2, j3, jc⟩ := MR_lk hR0 ht2
  obtain ⟨v1, v2, v3, v4, v5, v6, v7, v8⟩ := (hS.2.2 _ _ j3).1
  have hszi := (hS.2.2 _ _ j3).2.1
  have et : t = nI t.toNatClampNeg := (lk_lt ht2 (by have := hS.2.1; omega)).2.1
  have ht0 : (0 < t) ↔ 0 < t.toNatClampNeg := by { have := (lk_lt ht2 (by have := hS.2.1; omega)).2.2; have := hS.2.1; conv => { lhs; rw [et] }; exact nI_ltI (a := 0) (by decide) (by omega) }
  refine m_start (cc := cX7_field) (maxL := 4) (ret := (some .int)) (by decide) rfl (Nat.le_of_ble_eq_true rfl) ?_
  intro p e s m below meth c A ls hx hb hr hml hts hown hlocks hin hw hl
  have hl : lv_has ls 4 [(0, .ref mo), (1, .int r), (2, .int t)] := hl
  have hown : s.vm.findClass RX7 = some m.cls := hown
  refine lv_aload_n hx hb dX7_field_0 rfl (lv_at hl 0 rfl) ?_
  refine lv_iload_n hx hb dX7_field_1 rfl (lv_at hl 1 rfl) ?_
  refine w_call (va_runV (As := [.int r]) (rest := []) ⟨hx, hb, hml, hown, hts⟩ (c_open_MO l g h mo tl ta P.1 P.2.1 P.2.2.1 P.2.2.2 mem rea ali ty hm hL r a (al r.toNatClampNeg) (tK T) (nI (tTo T)) (nI (tLn T)) (nI (tSz T)) (mAl T) (if tFi T = true then 1 else 0) hw1 ha1 ha ⟨hk, by rw [hfi]; rfl⟩ s.heap.size) (cwV 1 hts gX7_field_X7_open rfl rfl rfl (by decide +kernel) ⟨Nat.le_of_ble_eq_true rfl, Nat.le_of_ble_eq_true rfl⟩) ⟨pr_blind, w_recv hw hm rfl, pr_of hw⟩ rfl rfl hl.1 rfl (lv_room (Nat.le_of_ble_eq_true rfl)) dX7_field_2 ⟨Nat.le_of_ble_eq_true rfl, Nat.le_of_ble_eq_true rfl⟩) hw (fun v h' H locs hp hw => ?_)
  obtain ⟨rfl, rfl⟩ := hp
  refine W.eq (g2 := F0 m 5 ls [.ref a]) rfl ?_
  refine lv_astore_n (lv' := [(3, .ref a), (0, .ref mo), (1, .int r), (2, .int t)]) hx hb dX7_field_5 rfl hl (by decide) rfl (fun ls hl => ?_)
  refine lv_aload_n hx hb dX7_field_6 rfl (lv_at hl 0 rfl) ?_
  refine lv_ifnull hx hb dX7_field_7 ?_
  refine lv_aload_n hx hb dX7_field_10 rfl (lv_at hl 1 rfl) ?_
  refine lv_iload_n hx hb dX7_field_11 rfl (lv_at hl 3 rfl) ?_
  refine w_call (va_runV (As := [.int t]) (rest := []) ⟨hx, hb, hml, hown, hts⟩ (c_there_S l g h mo tl ta P.1 P.2.1 P.2.2.1 P.2.2.2 mem rea ali ty hm hL t b2 j1 H.size) (cwV 1 hts gX7_field_X7_there rfl rfl rfl (by decide +kernel) ⟨Nat.le_of_ble_eq_true rfl, Nat.le_of_ble_eq_true rfl⟩) ⟨pr_blind, w_recv hw hm rfl, pr_of hw⟩ rfl rfl hl.1 rfl (lv_room (Nat.le_of_ble_eq_true rfl)) dX7_field_12 ⟨Nat.le_of_ble_eq_true rfl, Nat.le_of_ble_eq_true rfl⟩) hw (fun v h' H locs hp hw => ?_)
  obtain ⟨rfl, rfl⟩ := hp
  refine W.eq (g2 := F0 m 15 ls [.int 1]) rfl ?_
  refine lv_if_ne (tgt := 20) hx hb dX7_field_15 (by decide) (fun c15 => ?_) (fun c15 => ?_)
  · refine lv_aload_n hx hb dX7_field_20 rfl (lv_at hl 1 rfl) ?_
    refine lv_iload_n hx hb dX7_field_21 rfl (lv_at hl 3 rfl) ?_
    refine w_call (va_runV (As := [.int t]) (rest := []) ⟨hx, hb, hml, hown, hts⟩ (c_sized l g h mo tl ta P.1 P.2.1 P.2.2.1 P.2.2.2 mem rea ali ty hm hL t b2 (al t.toNatClampNeg) (tK T2) (nI (tTo T2)) (nI (tLn T2)) (nI (tSz T2)) (mAl T2) (if tFi T2 = true then 1 else 0) v1 j1 jc.1 (by split; exact Or.inr rfl; exact Or.inl rfl) H.size) (cwV 1 hts gX7_field_X7_sized rfl rfl rfl (by decide +kernel) ⟨Nat.le_of_ble_eq_true rfl, Nat.le_of_ble_eq_true rfl⟩) ⟨pr_blind, w_recv hw hm rfl, pr_of hw⟩ rfl rfl hl.1 rfl (lv_room (Nat.le_of_ble_eq_true rfl)) dX7_field_22 ⟨Nat.le_of_ble_eq_true rfl, Nat.le_of_ble_eq_true rfl⟩) hw (fun v h' H locs hp hw => ?_)
    obtain ⟨rfl, rfl⟩ := hp
    refine W.eq (g2 := F0 m 25 ls [.int (if 0 < t ∧ (tK T2 < 3 ∨ (if tFi T2 = true then (1 : Int32) else 0) = 1) then 1 else 0)]) rfl ?_
    refine lv_if_ne (tgt := 31) hx hb dX7_field_25 (by decide) (fun c25 => ?_) (fun c25 => ?_)
    · have hsz9 : ¬ tSz T2 = 0 := by
        by_cases z : 0 < t ∧ (tK T2 < 3 ∨ (if tFi T2 = true then (1 : Int32) else 0) = 1)
        · exact hszi.mpr ⟨ht0.mp z.1, z.2.imp id ((show ((if tFi T2 = true then (1 : Int32) else 0) = 1) ↔ tFi T2 = true by cases tFi T2 <;> decide).mp)⟩
        · rw [if_neg z] at c25
          exact absurd rfl c25
      refine lv_aload_n hx hb dX7_field_31 rfl (lv_at hl 1 rfl) ?_
      refine lv_aload_n hx hb dX7_field_32 rfl (lv_at hl 0 rfl) ?_
      obtain ⟨hAL, -, -⟩ := hG.2.2.1 r.toNatClampNeg (by have := (List.getElem?_eq_some_iff.mp ha2).1; omega) trivial
      obtain ⟨hf1, hf2, hf3, hf4⟩ := hw8 hk
      refine w_call (va_runV (As := [.ref a]) (rest := []) ⟨hx, hb, hml, hown, hts⟩ (c_lay l g h mo a tl ta (al r.toNatClampNeg) (aa r.toNatClampNeg) (tK T) P ty (ab r.toNatClampNeg) (tAd T) (nI (tTo T)) (nI (tLn T)) (nI (tSz T)) (mAl T) (if tFi T = true then 1 else 0) ⟨_, _, _, hm⟩ hs hd hL hw1 ha hAL hc.2.1 hc.2.2 (layTy hR0 (wf_szS hS) (hS.2.2 _ _ ha3).2.2) (wf_bd hS ha3).1 (wf_bd hS ha3).2 (Nat.le_trans hf2 (by decide)) hf3 H.size) (cwV 1 hts gX7_field_X7_lay rfl rfl rfl (by decide +kernel) ⟨Nat.le_of_ble_eq_true rfl, Nat.le_of_ble_eq_true rfl⟩) ⟨pr_blind, w_recv hw hm rfl, pr_of hw⟩ rfl rfl hl.1 rfl (lv_room (Nat.le_of_ble_eq_true rfl)) dX7_field_33 ⟨Nat.le_of_ble_eq_true rfl, Nat.le_of_ble_eq_true rfl⟩) hw (fun v h' H locs hp hw => ?_)
      obtain ⟨rfl, hLW⟩ := hp
      refine W.eq (g2 := F0 m 36 ls []) rfl ?_
      have hLW : LW g h h' mo tl P (ly T) := hLW
      have hR1 := MR_lay hR0 hLW
      have ha' : h' a = some (oTy (nI (tK T)) (nI (tTo T)) (nI (tLn T)) (nI (tSz T)) (mAl T) (al r.toNatClampNeg) (if tFi T = true then 1 else 0)) := (sf_obj ⟨_, _, _, hm⟩ hs hLW.2.1 ha (by decide)).trans ha
      refine lv_aload_n hx hb dX7_field_36 rfl (lv_at hl 1 rfl) ?_
      refine w_get (ci := 7) (C := RX7) (T := TX7) (N := 8) (ref := "LayoutDeskModel") hx hb hts in_X7_field_7 hown hw hLW.1 rfl 5 (by decide) (hts (.fieldLink RX7 88 "LayoutDeskModel" "members" "I") (by decide +kernel)) (fun _ h9 => h9) rfl dX7_field_37 ?_
      refine lv_bipush (v := 100) hx hb dX7_field_40 (by decide) ?_
      refine lv_icmp_ne (tgt := 50) hx hb dX7_field_42 (by decide) (fun c42 => ?_) (fun c42 => ?_)
      · have hna9 : ¬ 100 ≤ (ly T).2.2.2.length := fun z => c42 (by rw [show (ly T).2.2.2.length = 100 by omega]; rfl)
        refine lv_aload_n hx hb dX7_field_50 rfl (lv_at hl 1 rfl) ?_
        refine lv_aload_n hx hb dX7_field_51 rfl (lv_at hl 0 rfl) ?_
        refine lv_iload_n hx hb dX7_field_52 rfl (lv_at hl 3 rfl) ?_
        refine lv_iconst (v := 0) hx hb dX7_field_53 (by decide) ?_
        refine lv_iconst (v := 1) hx hb dX7_field_54 (by decide) ?_
        have et9 : t = adT (some t.toNatClampNeg, 0, true, tSz T2, tAl T2) := et
        have ew9 : (0 : Int32) = nI ((some t.toNatClampNeg, 0, true, tSz T2, tAl T2) : AdS).2.1 := nI_0.symm
        have en9 : ((1 : Int32) = 1 ∧ ((some t.toNatClampNeg, 0, true, tSz T2, tAl T2) : AdS).2.2.1 = true) ∨ ((1 : Int32) = 0 ∧ ((some t.toNatClampNeg, 0, true, tSz T2, tAl T2) : AdS).2.2.1 = false) := Or.inl ⟨rfl, rfl⟩
        have hd9 : adOK S (some t.toNatClampNeg, 0, true, tSz T2, tAl T2) := adOK_fld hS j3 hsz9
        have hb9 := ly_fldB (T := T) (t := t.toNatClampNeg) hf2 v4 v5
        have hb8 : (ly (tPush T (some t.toNatClampNeg, 0, true, tSz T2, tAl T2))).2.2.2.length ≤ 100 := by rw [hb9.2]; omega
        refine w_call (va_runV (As := [.ref a, .int t, .int 0, .int 1]) (rest := []) ⟨hx, hb, hml, hown, hts⟩ (c_tried l g h' mo a S N tl ta ty al aa ab P hR1 hS hN r.toNatClampNeg T ha3 ha2 hk hfi (some t.toNatClampNeg, 0, true, tSz T2, tAl T2) t 0 1 et9 ew9 en9 hd9 hb9.1 hb8 hb9.2 H.size) (cwV 4 hts gX7_field_X7_tried rfl rfl rfl (by decide +kernel) ⟨Nat.le_of_ble_eq_true rfl, Nat.le_of_ble_eq_true rfl⟩) ⟨pr_blind, w_recv hw hLW.1 rfl, pr_of hw⟩ rfl rfl hl.1 rfl (lv_room (Nat.le_of_ble_eq_true rfl)) dX7_field_55 ⟨Nat.le_of_ble_eq_true rfl, Nat.le_of_ble_eq_true rfl⟩) hw (fun v k' H locs hp hw => ?_)
        obtain ⟨c9, rfl, hR9⟩ | ⟨c9, rfl, hR9⟩ := hp
        · rw [ly_push] at c9
          refine W.eq (g2 := F0 m 58 ls [.int (-4)]) rfl ?_
          have e9 : fFld S r t = (-4, S) := by simp [fFld, hto, ht2, hsz9, hna9, c9]
          exact r_int hx hb hr hlocks hw dX7_field_58 (Nat.le_of_ble_eq_true rfl) (Nat.le_of_ble_eq_true rfl) (⟨by rw [e9], by rw [e9]; exact hR9⟩)
        · rw [ly_push] at c9
          refine W.eq (g2 := F0 m 58 ls [.int (if (1 : Int32) = 1 then nI (ly T).2.2.2.length else 100)]) rfl ?_
          have e9 : fFld S r t = (nI (ly T).2.2.2.length, S.set r.toNatClampNeg (tPush T (some t.toNatClampNeg, 0, true, tSz T2, tAl T2))) := by simp [fFld, hto, ht2, hsz9, hna9, Nat.not_lt.mpr c9]
          exact r_int hx hb hr hlocks hw dX7_field_58 (Nat.le_of_ble_eq_true rfl) (Nat.le_of_ble_eq_true rfl) (⟨by rw [e9, if_pos rfl], by rw [e9]; exact hR9⟩)
      · have hfu9 : 100 ≤ (ly T).2.2.2.length := by have := (nI_eq (b := 100) (by omega) (by decide)).mp c42; omega
        refine lv_bipush (v := (-3)) hx hb dX7_field_45 (by decide) ?_
        refine lv_goto (tgt := 58) hx hb dX7_field_47 (by decide) ?_
        have e9 : fFld S r t = (-3, S) := by simp [fFld, hto, ht2, hsz9, hfu9]
        exact r_int hx hb hr hlocks hw dX7_field_58 (Nat.le_of_ble_eq_true rfl) (Nat.le_of_ble_eq_true rfl) (⟨by rw [e9], by rw [e9]; exact ⟨tl, ta, ty, al, aa, ab, P, hR1⟩⟩)
    · have hsz8 : tSz T2 = 0 := Classical.byContradiction (fun z => by rw [if_pos ⟨ht0.mpr (hszi.mp z).1, (hszi.mp z).2.imp id ((show ((if tFi T2 = true then (1 : Int32) else 0) = 1) ↔ tFi T2 = true by cases tFi T2 <;> decide).mpr)⟩] at c25; exact absurd c25 (by decide))
      refine lv_bipush (v := (-2)) hx hb dX7_field_28 (by decide) ?_
      have e9 : fFld S r t = (-2, S) := by simp [fFld, hto, ht2, hsz8]
      exact r_int hx hb hr hlocks hw dX7_field_30 (Nat.le_of_ble_eq_true rfl) (Nat.le_of_ble_eq_true rfl) (⟨by rw [e9], by rw [e9]; exact ⟨tl, ta, ty, al, aa, ab, P, hR0⟩⟩)
  · exact absurd c15 (by decide)
theorem m_field (l : Launch) (g : GG) (h : Nat → Option va_E) (mo : Nat) (S : List TyS) (N : Nat) (hR : MR g h mo S) (hS : wfS N S) (hN : N ≤ 520) (r t : Int32) : Con l yX7_field wsX7_field 8 200 2 803 [.ref mo, .int r, .int t] g h (fun v h' => v = some (.int (fFld S r t).1) ∧ MR g h' mo (fFld S r t).2) := by
  cases hto : lkO S r with
  | none =>
    rcases lkO_none hto with z | ⟨T, z1, z2⟩
    · exact m_field_N1 l g h mo S N hR hS hN r t hto z
    · exact m_field_N2 l g h mo S N hR hS hN r t T hto z1 z2
  | some T =>
    cases ht2 : lk S t with
    | none => exact m_field_ON l g h mo S N hR hS hN r t T hto ht2
    | some T2 => exact m_field_OS l g h mo S N hR hS hN r t T T2 hto ht2
set_option maxHeartbeats 4000000 in
set_option maxRecDepth 100000 in
theorem m_bits_N1 (l : Launch) (g : GG) (h : Nat → Option va_E) (mo : Nat) (S : List TyS) (N : Nat) (hR : MR g h mo S) (hS : wfS N S) (hN : N ≤ 520) (r t w n : Int32) (hto : lkO S r = none) (ht : lk S r = none) : Con l yX7_bits wsX7_bits 8 200 2 803 [.ref mo, .int r, .int t, .int w, .int n] g h (fun v h' => v = some (.int (fBit S r t w n).1) ∧ MR g h' mo (fBit S r t w n).2) := by
  obtain ⟨tl, ta, ty, al, aa, ab, P, hR0⟩ := hR
  obtain ⟨⟨mem, rea, ali, hm⟩, hs, hd, hz9, hG, hlen, -⟩ := id hR0
  have hL := hG.1
  have hn9 := AL_len hL
  obtain ⟨⟨mck, hk0⟩, -, -⟩ := id hL
  have htn := MR_lkN hR0 ht
  refine m_start (cc := cX7_bits) (maxL := 6) (ret := (some .int)) (by decide) rfl (Nat.le_of_ble_eq_true rfl) ?_
  intro p e s m below meth c A ls hx hb hr hml hts hown hlocks hin hw hl
  have hl : lv_has ls 6 [(0, .ref mo), (1, .int r), (2, .int t), (3, .int w), (4, .int n)] := hl
  have hown : s.vm.findClass RX7 = some m.cls := hown
  refine lv_aload_n hx hb dX7_bits_0 rfl (lv_at hl 0 rfl) ?_
  refine lv_iload_n hx hb dX7_bits_1 rfl (lv_at hl 1 rfl) ?_
  refine w_call (va_runV (As := [.int r]) (rest := []) ⟨hx, hb, hml, hown, hts⟩ (c_open_MN l g h mo tl ta P.1 P.2.1 P.2.2.1 P.2.2.2 mem rea ali ty hm hL r htn s.heap.size) (cwV 1 hts gX7_bits_X7_open rfl rfl rfl (by decide +kernel) ⟨Nat.le_of_ble_eq_true rfl, Nat.le_of_ble_eq_true rfl⟩) ⟨pr_blind, w_recv hw hm rfl, pr_of hw⟩ rfl rfl hl.1 rfl (lv_room (Nat.le_of_ble_eq_true rfl)) dX7_bits_2 ⟨Nat.le_of_ble_eq_true rfl, Nat.le_of_ble_eq_true rfl⟩) hw (fun v h' H locs hp hw => ?_)
  obtain ⟨rfl, rfl⟩ := hp
  refine W.eq (g2 := F0 m 5 ls [.null]) rfl ?_
  refine lv_astoreN (lv' := [(5, .null), (0, .ref mo), (1, .int r), (2, .int t), (3, .int w), (4, .int n)]) hx hb dX7_bits_5 hl (by decide) rfl (fun ls hl => ?_)
  refine lv_aloadN hx hb dX7_bits_7 (lv_at hl 0 rfl) ?_
  refine lv_ifnonnullN hx hb dX7_bits_9 ?_
  refine lv_iconst (v := (-1)) hx hb dX7_bits_12 (by decide) ?_
  have e9 : fBit S r t w n = (-1, S) := by simp [fBit, hto]
  exact r_int hx hb hr hlocks hw dX7_bits_13 (Nat.le_of_ble_eq_true rfl) (Nat.le_of_ble_eq_true rfl) (⟨by rw [e9], by rw [e9]; exact ⟨tl, ta, ty, al, aa, ab, P, hR0⟩⟩)
set_option maxHeartbeats 4000000 in
set_option maxRecDepth 100000 in
theorem m_bits_N2 (l : Launch) (g : GG) (h : Nat → Option va_E) (mo : Nat) (S : List TyS) (N : Nat) (hR : MR g h mo S) (hS : wfS N S) (hN : N ≤ 520) (r t w n : Int32) (T : TyS) (hto : lkO S r = none) (ht : lk S r = some T) (hcl : tK T < 3 ∨ tFi T = true) : Con l yX7_bits wsX7_bits 8 200 2 803 [.ref mo, .int r, .int t, .int w, .int n] g h (fun v h' => v = some (.int (fBit S r t w n).1) ∧ MR g h' mo (fBit S r t w n).2) := by
  obtain ⟨tl, ta, ty, al, aa, ab, P, hR0⟩ := hR
  obtain ⟨⟨mem, rea, ali, hm⟩, hs, hd, hz9, hG, hlen, -⟩ := id hR0
  have hL := hG.1
  have hn9 := AL_len hL
  obtain ⟨⟨mck, hk0⟩, -, -⟩ := id hL
  obtain ⟨a, ha1, ha2, ha3, hc⟩ := MR_lk hR0 ht
  have ha := hc.1
  obtain ⟨hw1, hw2, hw3, hw4, hw5, hw6, hw7, hw8⟩ := (hS.2.2 _ _ ha3).1
  refine m_start (cc := cX7_bits) (maxL := 6) (ret := (some .int)) (by decide) rfl (Nat.le_of_ble_eq_true rfl) ?_
  intro p e s m below meth c A ls hx hb hr hml hts hown hlocks hin hw hl
  have hl : lv_has ls 6 [(0, .ref mo), (1, .int r), (2, .int t), (3, .int w), (4, .int n)] := hl
  have hown : s.vm.findClass RX7 = some m.cls := hown
  refine lv_aload_n hx hb dX7_bits_0 rfl (lv_at hl 0 rfl) ?_
  refine lv_iload_n hx hb dX7_bits_1 rfl (lv_at hl 1 rfl) ?_
  refine w_call (va_runV (As := [.int r]) (rest := []) ⟨hx, hb, hml, hown, hts⟩ (c_open_MC l g h mo tl ta P.1 P.2.1 P.2.2.1 P.2.2.2 mem rea ali ty hm hL r a (al r.toNatClampNeg) (tK T) (nI (tTo T)) (nI (tLn T)) (nI (tSz T)) (mAl T) (if tFi T = true then 1 else 0) hw1 ha1 ha (hcl.imp id (fun z => by rw [z]; rfl)) s.heap.size) (cwV 1 hts gX7_bits_X7_open rfl rfl rfl (by decide +kernel) ⟨Nat.le_of_ble_eq_true rfl, Nat.le_of_ble_eq_true rfl⟩) ⟨pr_blind, w_recv hw hm rfl, pr_of hw⟩ rfl rfl hl.1 rfl (lv_room (Nat.le_of_ble_eq_true rfl)) dX7_bits_2 ⟨Nat.le_of_ble_eq_true rfl, Nat.le_of_ble_eq_true rfl⟩) hw (fun v h' H locs hp hw => ?_)
  obtain ⟨rfl, rfl⟩ := hp
  refine W.eq (g2 := F0 m 5 ls [.null]) rfl ?_
  refine lv_astoreN (lv' := [(5, .null), (0, .ref mo), (1, .int r), (2, .int t), (3, .int w), (4, .int n)]) hx hb dX7_bits_5 hl (by decide) rfl (fun ls hl => ?_)
  refine lv_aloadN hx hb dX7_bits_7 (lv_at hl 0 rfl) ?_
  refine lv_ifnonnullN hx hb dX7_bits_9 ?_
  refine lv_iconst (v := (-1)) hx hb dX7_bits_12 (by decide) ?_
  have e9 : fBit S r t w n = (-1, S) := by simp [fBit, hto]
  exact r_int hx hb hr hlocks hw dX7_bits_13 (Nat.le_of_ble_eq_true rfl) (Nat.le_of_ble_eq_true rfl) (⟨by rw [e9], by rw [e9]; exact ⟨tl, ta, ty, al, aa, ab, P, hR0⟩⟩)
theorem in_X7_bits_7 : ∀ w ∈ u_ws RX7 TX7 8, w ∈ wsX7_bits := by decide +kernel
set_option maxHeartbeats 4000000 in
set_option maxRecDepth 100000 in
theorem m_bits_O (l : Launch) (g : GG) (h : Nat → Option va_E) (mo : Nat) (S : List TyS) (N : Nat) (hR : MR g h mo S) (hS : wfS N S) (hN : N ≤ 520) (r t w n : Int32) (T : TyS) (hto : lkO S r = some T) : Con l yX7_bits wsX7_bits 8 200 2 803 [.ref mo, .int r, .int t, .int w, .int n] g h (fun v h' => v = some (.int (fBit S r t w n).1) ∧ MR g h' mo (fBit S r t w n).2) := by
  obtain ⟨ht, hk, hfi⟩ := lkO_some hto
  obtain ⟨tl, ta, ty, al, aa, ab, P, hR0⟩ := hR
  obtain ⟨⟨mem, rea, ali, hm⟩, hs, hd, hz9, hG, hlen, -⟩ := id hR0
  have hL := hG.1
  have hn9 := AL_len hL
  obtain ⟨⟨mck, hk0⟩, -, -⟩ := id hL
  obtain ⟨a, ha1, ha2, ha3, hc⟩ := MR_lk hR0 ht
  have ha := hc.1
  obtain ⟨hw1, hw2, hw3, hw4, hw5, hw6, hw7, hw8⟩ := (hS.2.2 _ _ ha3).1
  obtain ⟨hf1, hf2, hf3, hf4⟩ := hw8 hk
  obtain ⟨hAL, hal1, -⟩ := hG.2.2.1 r.toNatClampNeg (by have := (List.getElem?_eq_some_iff.mp ha2).1; omega) trivial
  obtain ⟨⟨mca, hal0⟩, -, -⟩ := id hAL
  have hm0 : mAl T = 0 := if_pos ⟨hk, hfi⟩
  refine m_start (cc := cX7_bits) (maxL := 6) (ret := (some .int)) (by decide) rfl (Nat.le_of_ble_eq_true rfl) ?_
  intro p e s m below meth c A ls hx hb hr hml hts hown hlocks hin hw hl
  have hl : lv_has ls 6 [(0, .ref mo), (1, .int r), (2, .int t), (3, .int w), (4, .int n)] := hl
  have hown : s.vm.findClass RX7 = some m.cls := hown
  refine lv_aload_n hx hb dX7_bits_0 rfl (lv_at hl 0 rfl) ?_
  refine lv_iload_n hx hb dX7_bits_1 rfl (lv_at hl 1 rfl) ?_
  refine w_call (va_runV (As := [.int r]) (rest := []) ⟨hx, hb, hml, hown, hts⟩ (c_open_MO l g h mo tl ta P.1 P.2.1 P.2.2.1 P.2.2.2 mem rea ali ty hm hL r a (al r.toNatClampNeg) (tK T) (nI (tTo T)) (nI (tLn T)) (nI (tSz T)) (mAl T) (if tFi T = true then 1 else 0) hw1 ha1 ha ⟨hk, by rw [hfi]; rfl⟩ s.heap.size) (cwV 1 hts gX7_bits_X7_open rfl rfl rfl (by decide +kernel) ⟨Nat.le_of_ble_eq_true rfl, Nat.le_of_ble_eq_true rfl⟩) ⟨pr_blind, w_recv hw hm rfl, pr_of hw⟩ rfl rfl hl.1 rfl (lv_room (Nat.le_of_ble_eq_true rfl)) dX7_bits_2 ⟨Nat.le_of_ble_eq_true rfl, Nat.le_of_ble_eq_true rfl⟩) hw (fun v h' H locs hp hw => ?_)
  obtain ⟨rfl, rfl⟩ := hp
  refine W.eq (g2 := F0 m 5 ls [.ref a]) rfl ?_
  refine lv_astore (lv' := [(5, .ref a), (0, .ref mo), (1, .int r), (2, .int t), (3, .int w), (4, .int n)]) hx hb dX7_bits_5 hl (by decide) rfl (fun ls hl => ?_)
  refine lv_aload hx hb dX7_bits_7 (lv_at hl 0 rfl) ?_
  refine lv_ifnonnull (tgt := 14) hx hb dX7_bits_9 (by decide) ?_
  refine lv_iload_n hx hb dX7_bits_14 rfl (lv_at hl 3 rfl) ?_
  refine lv_iconst (v := 5) hx hb dX7_bits_15 (by decide) ?_
  refine lv_icmp_eq (tgt := 25) hx hb dX7_bits_16 (by decide) (fun c16 => ?_) (fun c16 => ?_)
  · refine lv_iload_n hx hb dX7_bits_25 rfl (lv_at hl 4 rfl) ?_
    refine lv_iconst (v := 1) hx hb dX7_bits_26 (by decide) ?_
    refine lv_icmp_lt (tgt := 36) hx hb dX7_bits_27 (by decide) (fun c27 => ?_) (fun c27 => ?_)
    · refine lv_bipush (v := (-2)) hx hb dX7_bits_36 (by decide) ?_
      have e9 : fBit S r t w n = (-2, S) := by
        simp only [fBit, hto]
        rw [if_pos (Or.inr (Or.inl c27))]
      exact r_int hx hb hr hlocks hw dX7_bits_38 (Nat.le_of_ble_eq_true rfl) (Nat.le_of_ble_eq_true rfl) (⟨by rw [e9], by rw [e9]; exact ⟨tl, ta, ty, al, aa, ab, P, hR0⟩⟩)
    · refine lv_iload_n hx hb dX7_bits_30 rfl (lv_at hl 4 rfl) ?_
      refine lv_bipush (v := 32) hx hb dX7_bits_31 (by decide) ?_
      refine lv_icmp_le (tgt := 39) hx hb dX7_bits_33 (by decide) (fun c33 => ?_) (fun c33 => ?_)
      · have ht56 : t = 5 ∨ t = 6 := Or.inl c16
        obtain ⟨et, ht3, ht5⟩ := bit_t ht56
        obtain ⟨ew, hw91, hw92⟩ := bit_w c27 c33
        have hc2 : ¬ (¬ (t = 5 ∨ t = 6) ∨ w < 1 ∨ 32 < w) := by
          rintro (z | z | z)
          · exact z ht56
          · exact c27 z
          · exact Int32.not_lt.mpr c33 z
        refine lv_aload_n hx hb dX7_bits_39 rfl (lv_at hl 1 rfl) ?_
        refine lv_aload hx hb dX7_bits_40 (lv_at hl 0 rfl) ?_
        obtain ⟨hAL, -, -⟩ := hG.2.2.1 r.toNatClampNeg (by have := (List.getElem?_eq_some_iff.mp ha2).1; omega) trivial
        obtain ⟨hf1, hf2, hf3, hf4⟩ := hw8 hk
        refine w_call (va_runV (As := [.ref a]) (rest := []) ⟨hx, hb, hml, hown, hts⟩ (c_lay l g h mo a tl ta (al r.toNatClampNeg) (aa r.toNatClampNeg) (tK T) P ty (ab r.toNatClampNeg) (tAd T) (nI (tTo T)) (nI (tLn T)) (nI (tSz T)) (mAl T) (if tFi T = true then 1 else 0) ⟨_, _, _, hm⟩ hs hd hL hw1 ha hAL hc.2.1 hc.2.2 (layTy hR0 (wf_szS hS) (hS.2.2 _ _ ha3).2.2) (wf_bd hS ha3).1 (wf_bd hS ha3).2 (Nat.le_trans hf2 (by decide)) hf3 H.size) (cwV 1 hts gX7_bits_X7_lay rfl rfl rfl (by decide +kernel) ⟨Nat.le_of_ble_eq_true rfl, Nat.le_of_ble_eq_true rfl⟩) ⟨pr_blind, w_recv hw hm rfl, pr_of hw⟩ rfl rfl hl.1 rfl (lv_room (Nat.le_of_ble_eq_true rfl)) dX7_bits_42 ⟨Nat.le_of_ble_eq_true rfl, Nat.le_of_ble_eq_true rfl⟩) hw (fun v h' H locs hp hw => ?_)
        obtain ⟨rfl, hLW⟩ := hp
        refine W.eq (g2 := F0 m 45 ls []) rfl ?_
        have hLW : LW g h h' mo tl P (ly T) := hLW
        have hR1 := MR_lay hR0 hLW
        have ha' : h' a = some (oTy (nI (tK T)) (nI (tTo T)) (nI (tLn T)) (nI (tSz T)) (mAl T) (al r.toNatClampNeg) (if tFi T = true then 1 else 0)) := (sf_obj ⟨_, _, _, hm⟩ hs hLW.2.1 ha (by decide)).trans ha
        refine lv_iload hx hb dX7_bits_45 (lv_at hl 5 rfl) ?_
        refine lv_if_eq (tgt := 64) hx hb dX7_bits_47 (by decide) (fun c47 => ?_) (fun c47 => ?_)
        · have hc3 : ¬ (n ≠ 0 ∧ 100 ≤ (ly T).2.2.2.length) := fun z => z.1 c47
          have hdn : decide (n ≠ 0) = false := decide_eq_false (fun z => z c47)
          refine lv_aload_n hx hb dX7_bits_64 rfl (lv_at hl 1 rfl) ?_
          refine lv_aload hx hb dX7_bits_65 (lv_at hl 0 rfl) ?_
          refine lv_iload_n hx hb dX7_bits_67 rfl (lv_at hl 3 rfl) ?_
          refine lv_iload_n hx hb dX7_bits_68 rfl (lv_at hl 4 rfl) ?_
          refine lv_iload hx hb dX7_bits_69 (lv_at hl 5 rfl) ?_
          refine lv_if_eq (tgt := 78) hx hb dX7_bits_71 (by decide) (fun c71 => ?_) (fun c71 => ?_)
          · refine lv_iconst (v := 0) hx hb dX7_bits_78 (by decide) ?_
            have et9 : t = adT (some t.toNatClampNeg, w.toNatClampNeg, decide (n ≠ 0), 0, 0) := et
            have ew9 : w = nI ((some t.toNatClampNeg, w.toNatClampNeg, decide (n ≠ 0), 0, 0) : AdS).2.1 := ew
            have en9 : ((0 : Int32) = 1 ∧ ((some t.toNatClampNeg, w.toNatClampNeg, decide (n ≠ 0), 0, 0) : AdS).2.2.1 = true) ∨ ((0 : Int32) = 0 ∧ ((some t.toNatClampNeg, w.toNatClampNeg, decide (n ≠ 0), 0, 0) : AdS).2.2.1 = false) := Or.inr ⟨rfl, hdn⟩
            have hd9 : adOK S (some t.toNatClampNeg, w.toNatClampNeg, decide (n ≠ 0), 0, 0) := adOK_bit ht3 hw91 hw92
            have hb9 := ly_bitB (T := T) (t := t.toNatClampNeg) (w := w.toNatClampNeg) (b := decide (n ≠ 0)) hf2 (fun p k z => (hf4 p k z).2.2.1) (by omega)
            have hb8 : (ly (tPush T (some t.toNatClampNeg, w.toNatClampNeg, decide (n ≠ 0), 0, 0))).2.2.2.length ≤ 100 := by
              rw [hb9.2, if_neg (by rw [hdn]; decide)]
              omega
            refine w_call (va_runV (As := [.ref a, .int t, .int w, .int 0]) (rest := []) ⟨hx, hb, hml, hown, hts⟩ (c_tried l g h' mo a S N tl ta ty al aa ab P hR1 hS hN r.toNatClampNeg T ha3 ha2 hk hfi (some t.toNatClampNeg, w.toNatClampNeg, decide (n ≠ 0), 0, 0) t w 0 et9 ew9 en9 hd9 hb9.1 hb8 hb9.2 H.size) (cwV 4 hts gX7_bits_X7_tried rfl rfl rfl (by decide +kernel) ⟨Nat.le_of_ble_eq_true rfl, Nat.le_of_ble_eq_true rfl⟩) ⟨pr_blind, w_recv hw hLW.1 rfl, pr_of hw⟩ rfl rfl hl.1 rfl (lv_room (Nat.le_of_ble_eq_true rfl)) dX7_bits_79 ⟨Nat.le_of_ble_eq_true rfl, Nat.le_of_ble_eq_true rfl⟩) hw (fun v k' H locs hp hw => ?_)
            obtain ⟨c9, rfl, hR9⟩ | ⟨c9, rfl, hR9⟩ := hp
            · rw [ly_push] at c9
              refine W.eq (g2 := F0 m 82 ls [.int (-4)]) rfl ?_
              have e9 : fBit S r t w n = (-4, S) := by
                simp only [fBit, hto]
                rw [if_neg hc2, if_neg hc3, if_pos c9]
              exact r_int hx hb hr hlocks hw dX7_bits_82 (Nat.le_of_ble_eq_true rfl) (Nat.le_of_ble_eq_true rfl) (⟨by rw [e9], by rw [e9]; exact hR9⟩)
            · rw [ly_push] at c9
              refine W.eq (g2 := F0 m 82 ls [.int (if (0 : Int32) = 1 then nI (ly T).2.2.2.length else 100)]) rfl ?_
              have e9 : fBit S r t w n = (100, S.set r.toNatClampNeg (tPush T (some t.toNatClampNeg, w.toNatClampNeg, decide (n ≠ 0), 0, 0))) := by
                simp only [fBit, hto]
                rw [if_neg hc2, if_neg hc3, if_neg (Nat.not_lt.mpr c9), if_neg (fun z => z c47)]
              exact r_int hx hb hr hlocks hw dX7_bits_82 (Nat.le_of_ble_eq_true rfl) (Nat.le_of_ble_eq_true rfl) (⟨by rw [e9, if_neg (by decide)], by rw [e9]; exact hR9⟩)
          · exact absurd c47 c71
        · have hdn : decide (n ≠ 0) = true := decide_eq_true c47
          refine lv_aload_n hx hb dX7_bits_50 rfl (lv_at hl 1 rfl) ?_
          refine w_get (ci := 7) (C := RX7) (T := TX7) (N := 8) (ref := "LayoutDeskModel") hx hb hts in_X7_bits_7 hown hw hLW.1 rfl 5 (by decide) (hts (.fieldLink RX7 88 "LayoutDeskModel" "members" "I") (by decide +kernel)) (fun _ h9 => h9) rfl dX7_bits_51 ?_
          refine lv_bipush (v := 100) hx hb dX7_bits_54 (by decide) ?_
          refine lv_icmp_ne (tgt := 64) hx hb dX7_bits_56 (by decide) (fun c56 => ?_) (fun c56 => ?_)
          · have hna9 : ¬ 100 ≤ (ly T).2.2.2.length := fun z => c56 (by rw [show (ly T).2.2.2.length = 100 by omega]; rfl)
            have hc3 : ¬ (n ≠ 0 ∧ 100 ≤ (ly T).2.2.2.length) := fun z => hna9 z.2
            refine lv_aload_n hx hb dX7_bits_64 rfl (lv_at hl 1 rfl) ?_
            refine lv_aload hx hb dX7_bits_65 (lv_at hl 0 rfl) ?_
            refine lv_iload_n hx hb dX7_bits_67 rfl (lv_at hl 3 rfl) ?_
            refine lv_iload_n hx hb dX7_bits_68 rfl (lv_at hl 4 rfl) ?_
            refine lv_iload hx hb dX7_bits_69 (lv_at hl 5 rfl) ?_
            refine lv_if_eq (tgt := 78) hx hb dX7_bits_71 (by decide) (fun c71 => ?_) (fun c71 => ?_)
            · exact absurd c71 c47
            · refine lv_iconst (v := 1) hx hb dX7_bits_74 (by decide) ?_
              refine lv_goto (tgt := 79) hx hb dX7_bits_75 (by decide) ?_
              have et9 : t = adT (some t.toNatClampNeg, w.toNatClampNeg, decide (n ≠ 0), 0, 0) := et
              have ew9 : w = nI ((some t.toNatClampNeg, w.toNatClampNeg, decide (n ≠ 0), 0, 0) : AdS).2.1 := ew
              have en9 : ((1 : Int32) = 1 ∧ ((some t.toNatClampNeg, w.toNatClampNeg, decide (n ≠ 0), 0, 0) : AdS).2.2.1 = true) ∨ ((1 : Int32) = 0 ∧ ((some t.toNatClampNeg, w.toNatClampNeg, decide (n ≠ 0), 0, 0) : AdS).2.2.1 = false) := Or.inl ⟨rfl, hdn⟩
              have hd9 : adOK S (some t.toNatClampNeg, w.toNatClampNeg, decide (n ≠ 0), 0, 0) := adOK_bit ht3 hw91 hw92
              have hb9 := ly_bitB (T := T) (t := t.toNatClampNeg) (w := w.toNatClampNeg) (b := decide (n ≠ 0)) hf2 (fun p k z => (hf4 p k z).2.2.1) (by omega)
              have hb8 : (ly (tPush T (some t.toNatClampNeg, w.toNatClampNeg, decide (n ≠ 0), 0, 0))).2.2.2.length ≤ 100 := by
                rw [hb9.2, if_pos hdn]
                omega
              refine w_call (va_runV (As := [.ref a, .int t, .int w, .int 1]) (rest := []) ⟨hx, hb, hml, hown, hts⟩ (c_tried l g h' mo a S N tl ta ty al aa ab P hR1 hS hN r.toNatClampNeg T ha3 ha2 hk hfi (some t.toNatClampNeg, w.toNatClampNeg, decide (n ≠ 0), 0, 0) t w 1 et9 ew9 en9 hd9 hb9.1 hb8 hb9.2 H.size) (cwV 4 hts gX7_bits_X7_tried rfl rfl rfl (by decide +kernel) ⟨Nat.le_of_ble_eq_true rfl, Nat.le_of_ble_eq_true rfl⟩) ⟨pr_blind, w_recv hw hLW.1 rfl, pr_of hw⟩ rfl rfl hl.1 rfl (lv_room (Nat.le_of_ble_eq_true rfl)) dX7_bits_79 ⟨Nat.le_of_ble_eq_true rfl, Nat.le_of_ble_eq_true rfl⟩) hw (fun v k' H locs hp hw => ?_)
              obtain ⟨c9, rfl, hR9⟩ | ⟨c9, rfl, hR9⟩ := hp
              · rw [ly_push] at c9
                refine W.eq (g2 := F0 m 82 ls [.int (-4)]) rfl ?_
                have e9 : fBit S r t w n = (-4, S) := by
                  simp only [fBit, hto]
                  rw [if_neg hc2, if_neg hc3, if_pos c9]
                exact r_int hx hb hr hlocks hw dX7_bits_82 (Nat.le_of_ble_eq_true rfl) (Nat.le_of_ble_eq_true rfl) (⟨by rw [e9], by rw [e9]; exact hR9⟩)
              · rw [ly_push] at c9
                refine W.eq (g2 := F0 m 82 ls [.int (if (1 : Int32) = 1 then nI (ly T).2.2.2.length else 100)]) rfl ?_
                have e9 : fBit S r t w n = (nI (ly T).2.2.2.length, S.set r.toNatClampNeg (tPush T (some t.toNatClampNeg, w.toNatClampNeg, decide (n ≠ 0), 0, 0))) := by
                  simp only [fBit, hto]
                  rw [if_neg hc2, if_neg hc3, if_neg (Nat.not_lt.mpr c9), if_pos c47]
                exact r_int hx hb hr hlocks hw dX7_bits_82 (Nat.le_of_ble_eq_true rfl) (Nat.le_of_ble_eq_true rfl) (⟨by rw [e9, if_pos rfl], by rw [e9]; exact hR9⟩)
          · have hfu9 : 100 ≤ (ly T).2.2.2.length := by have := (nI_eq (b := 100) (by omega) (by decide)).mp c56; omega
            refine lv_bipush (v := (-3)) hx hb dX7_bits_59 (by decide) ?_
            refine lv_goto (tgt := 82) hx hb dX7_bits_61 (by decide) ?_
            have e9 : fBit S r t w n = (-3, S) := by
              simp only [fBit, hto]
              rw [if_neg hc2, if_pos ⟨c47, hfu9⟩]
            exact r_int hx hb hr hlocks hw dX7_bits_82 (Nat.le_of_ble_eq_true rfl) (Nat.le_of_ble_eq_true rfl) (⟨by rw [e9], by rw [e9]; exact ⟨tl, ta, ty, al, aa, ab, P, hR1⟩⟩)
      · refine lv_bipush (v := (-2)) hx hb dX7_bits_36 (by decide) ?_
        have e9 : fBit S r t w n = (-2, S) := by
          simp only [fBit, hto]
          rw [if_pos (Or.inr (Or.inr (Int32.not_le.mp c33)))]
        exact r_int hx hb hr hlocks hw dX7_bits_38 (Nat.le_of_ble_eq_true rfl) (Nat.le_of_ble_eq_true rfl) (⟨by rw [e9], by rw [e9]; exact ⟨tl, ta, ty, al, aa, ab, P, hR0⟩⟩)
  · refine lv_iload_n hx hb dX7_bits_19 rfl (lv_at hl 3 rfl) ?_
    refine lv_bipush (v := 6) hx hb dX7_bits_20 (by decide) ?_
    refine lv_icmp_ne (tgt := 36) hx hb dX7_bits_22 (by decide) (fun c22 => ?_) (fun c22 => ?_)
    · refine lv_bipush (v := (-2)) hx hb dX7_bits_36 (by decide) ?_
      have e9 : fBit S r t w n = (-2, S) := by
        simp only [fBit, hto]
        rw [if_pos (Or.inl (fun z => z.elim c16 c22))]
      exact r_int hx hb hr hlocks hw dX7_bits_38 (Nat.le_of_ble_eq_true rfl) (Nat.le_of_ble_eq_true rfl) (⟨by rw [e9], by rw [e9]; exact ⟨tl, ta, ty, al, aa, ab, P, hR0⟩⟩)
    · refine lv_iload_n hx hb dX7_bits_25 rfl (lv_at hl 4 rfl) ?_
      refine lv_iconst (v := 1) hx hb dX7_bits_26 (by decide) ?_
      refine lv_icmp_lt (tgt := 36) hx hb dX7_bits_27 (by decide) (fun c27 => ?_) (fun c27 => ?_)
      · refine lv_bipush (v := (-2)) hx hb dX7_bits_36 (by decide) ?_
        have e9 : fBit S r t w n = (-2, S) := by
          simp only [fBit, hto]
          rw [if_pos (Or.inr (Or.inl c27))]
        exact r_int hx hb hr hlocks hw dX7_bits_38 (Nat.le_of_ble_eq_true rfl) (Nat.le_of_ble_eq_true rfl) (⟨by rw [e9], by rw [e9]; exact ⟨tl, ta, ty, al, aa, ab, P, hR0⟩⟩)
      · refine lv_iload_n hx hb dX7_bits_30 rfl (lv_at hl 4 rfl) ?_
        refine lv_bipush (v := 32) hx hb dX7_bits_31 (by decide) ?_
        refine lv_icmp_le (tgt := 39) hx hb dX7_bits_33 (by decide) (fun c33 => ?_) (fun c33 => ?_)
        · have ht56 : t = 5 ∨ t = 6 := Or.inr c22
          obtain ⟨et, ht3, ht5⟩ := bit_t ht56
          obtain ⟨ew, hw91, hw92⟩ := bit_w c27 c33
          have hc2 : ¬ (¬ (t = 5 ∨ t = 6) ∨ w < 1 ∨ 32 < w) := by
            rintro (z | z | z)
            · exact z ht56
            · exact c27 z
            · exact Int32.not_lt.mpr c33 z
          refine lv_aload_n hx hb dX7_bits_39 rfl (lv_at hl 1 rfl) ?_
          refine lv_aload hx hb dX7_bits_40 (lv_at hl 0 rfl) ?_
          obtain ⟨hAL, -, -⟩ := hG.2.2.1 r.toNatClampNeg (by have := (List.getElem?_eq_some_iff.mp ha2).1; omega) trivial
          obtain ⟨hf1, hf2, hf3, hf4⟩ := hw8 hk
          refine w_call (va_runV (As := [.ref a]) (rest := []) ⟨hx, hb, hml, hown, hts⟩ (c_lay l g h mo a tl ta (al r.toNatClampNeg) (aa r.toNatClampNeg) (tK T) P ty (ab r.toNatClampNeg) (tAd T) (nI (tTo T)) (nI (tLn T)) (nI (tSz T)) (mAl T) (if tFi T = true then 1 else 0) ⟨_, _, _, hm⟩ hs hd hL hw1 ha hAL hc.2.1 hc.2.2 (layTy hR0 (wf_szS hS) (hS.2.2 _ _ ha3).2.2) (wf_bd hS ha3).1 (wf_bd hS ha3).2 (Nat.le_trans hf2 (by decide)) hf3 H.size) (cwV 1 hts gX7_bits_X7_lay rfl rfl rfl (by decide +kernel) ⟨Nat.le_of_ble_eq_true rfl, Nat.le_of_ble_eq_true rfl⟩) ⟨pr_blind, w_recv hw hm rfl, pr_of hw⟩ rfl rfl hl.1 rfl (lv_room (Nat.le_of_ble_eq_true rfl)) dX7_bits_42 ⟨Nat.le_of_ble_eq_true rfl, Nat.le_of_ble_eq_true rfl⟩) hw (fun v h' H locs hp hw => ?_)
          obtain ⟨rfl, hLW⟩ := hp
          refine W.eq (g2 := F0 m 45 ls []) rfl ?_
          have hLW : LW g h h' mo tl P (ly T) := hLW
          have hR1 := MR_lay hR0 hLW
          have ha' : h' a = some (oTy (nI (tK T)) (nI (tTo T)) (nI (tLn T)) (nI (tSz T)) (mAl T) (al r.toNatClampNeg) (if tFi T = true then 1 else 0)) := (sf_obj ⟨_, _, _, hm⟩ hs hLW.2.1 ha (by decide)).trans ha
          refine lv_iload hx hb dX7_bits_45 (lv_at hl 5 rfl) ?_
          refine lv_if_eq (tgt := 64) hx hb dX7_bits_47 (by decide) (fun c47 => ?_) (fun c47 => ?_)
          · have hc3 : ¬ (n ≠ 0 ∧ 100 ≤ (ly T).2.2.2.length) := fun z => z.1 c47
            have hdn : decide (n ≠ 0) = false := decide_eq_false (fun z => z c47)
            refine lv_aload_n hx hb dX7_bits_64 rfl (lv_at hl 1 rfl) ?_
            refine lv_aload hx hb dX7_bits_65 (lv_at hl 0 rfl) ?_
            refine lv_iload_n hx hb dX7_bits_67 rfl (lv_at hl 3 rfl) ?_
            refine lv_iload_n hx hb dX7_bits_68 rfl (lv_at hl 4 rfl) ?_
            refine lv_iload hx hb dX7_bits_69 (lv_at hl 5 rfl) ?_
            refine lv_if_eq (tgt := 78) hx hb dX7_bits_71 (by decide) (fun c71 => ?_) (fun c71 => ?_)
            · refine lv_iconst (v := 0) hx hb dX7_bits_78 (by decide) ?_
              have et9 : t = adT (some t.toNatClampNeg, w.toNatClampNeg, decide (n ≠ 0), 0, 0) := et
              have ew9 : w = nI ((some t.toNatClampNeg, w.toNatClampNeg, decide (n ≠ 0), 0, 0) : AdS).2.1 := ew
              have en9 : ((0 : Int32) = 1 ∧ ((some t.toNatClampNeg, w.toNatClampNeg, decide (n ≠ 0), 0, 0) : AdS).2.2.1 = true) ∨ ((0 : Int32) = 0 ∧ ((some t.toNatClampNeg, w.toNatClampNeg, decide (n ≠ 0), 0, 0) : AdS).2.2.1 = false) := Or.inr ⟨rfl, hdn⟩
              have hd9 : adOK S (some t.toNatClampNeg, w.toNatClampNeg, decide (n ≠ 0), 0, 0) := adOK_bit ht3 hw91 hw92
              have hb9 := ly_bitB (T := T) (t := t.toNatClampNeg) (w := w.toNatClampNeg) (b := decide (n ≠ 0)) hf2 (fun p k z => (hf4 p k z).2.2.1) (by omega)
              have hb8 : (ly (tPush T (some t.toNatClampNeg, w.toNatClampNeg, decide (n ≠ 0), 0, 0))).2.2.2.length ≤ 100 := by
                rw [hb9.2, if_neg (by rw [hdn]; decide)]
                omega
              refine w_call (va_runV (As := [.ref a, .int t, .int w, .int 0]) (rest := []) ⟨hx, hb, hml, hown, hts⟩ (c_tried l g h' mo a S N tl ta ty al aa ab P hR1 hS hN r.toNatClampNeg T ha3 ha2 hk hfi (some t.toNatClampNeg, w.toNatClampNeg, decide (n ≠ 0), 0, 0) t w 0 et9 ew9 en9 hd9 hb9.1 hb8 hb9.2 H.size) (cwV 4 hts gX7_bits_X7_tried rfl rfl rfl (by decide +kernel) ⟨Nat.le_of_ble_eq_true rfl, Nat.le_of_ble_eq_true rfl⟩) ⟨pr_blind, w_recv hw hLW.1 rfl, pr_of hw⟩ rfl rfl hl.1 rfl (lv_room (Nat.le_of_ble_eq_true rfl)) dX7_bits_79 ⟨Nat.le_of_ble_eq_true rfl, Nat.le_of_ble_eq_true rfl⟩) hw (fun v k' H locs hp hw => ?_)
              obtain ⟨c9, rfl, hR9⟩ | ⟨c9, rfl, hR9⟩ := hp
              · rw [ly_push] at c9
                refine W.eq (g2 := F0 m 82 ls [.int (-4)]) rfl ?_
                have e9 : fBit S r t w n = (-4, S) := by
                  simp only [fBit, hto]
                  rw [if_neg hc2, if_neg hc3, if_pos c9]
                exact r_int hx hb hr hlocks hw dX7_bits_82 (Nat.le_of_ble_eq_true rfl) (Nat.le_of_ble_eq_true rfl) (⟨by rw [e9], by rw [e9]; exact hR9⟩)
              · rw [ly_push] at c9
                refine W.eq (g2 := F0 m 82 ls [.int (if (0 : Int32) = 1 then nI (ly T).2.2.2.length else 100)]) rfl ?_
                have e9 : fBit S r t w n = (100, S.set r.toNatClampNeg (tPush T (some t.toNatClampNeg, w.toNatClampNeg, decide (n ≠ 0), 0, 0))) := by
                  simp only [fBit, hto]
                  rw [if_neg hc2, if_neg hc3, if_neg (Nat.not_lt.mpr c9), if_neg (fun z => z c47)]
                exact r_int hx hb hr hlocks hw dX7_bits_82 (Nat.le_of_ble_eq_true rfl) (Nat.le_of_ble_eq_true rfl) (⟨by rw [e9, if_neg (by decide)], by rw [e9]; exact hR9⟩)
            · exact absurd c47 c71
          · have hdn : decide (n ≠ 0) = true := decide_eq_true c47
            refine lv_aload_n hx hb dX7_bits_50 rfl (lv_at hl 1 rfl) ?_
            refine w_get (ci := 7) (C := RX7) (T := TX7) (N := 8) (ref := "LayoutDeskModel") hx hb hts in_X7_bits_7 hown hw hLW.1 rfl 5 (by decide) (hts (.fieldLink RX7 88 "LayoutDeskModel" "members" "I") (by decide +kernel)) (fun _ h9 => h9) rfl dX7_bits_51 ?_
            refine lv_bipush (v := 100) hx hb dX7_bits_54 (by decide) ?_
            refine lv_icmp_ne (tgt := 64) hx hb dX7_bits_56 (by decide) (fun c56 => ?_) (fun c56 => ?_)
            · have hna9 : ¬ 100 ≤ (ly T).2.2.2.length := fun z => c56 (by rw [show (ly T).2.2.2.length = 100 by omega]; rfl)
              have hc3 : ¬ (n ≠ 0 ∧ 100 ≤ (ly T).2.2.2.length) := fun z => hna9 z.2
              refine lv_aload_n hx hb dX7_bits_64 rfl (lv_at hl 1 rfl) ?_
              refine lv_aload hx hb dX7_bits_65 (lv_at hl 0 rfl) ?_
              refine lv_iload_n hx hb dX7_bits_67 rfl (lv_at hl 3 rfl) ?_
              refine lv_iload_n hx hb dX7_bits_68 rfl (lv_at hl 4 rfl) ?_
              refine lv_iload hx hb dX7_bits_69 (lv_at hl 5 rfl) ?_
              refine lv_if_eq (tgt := 78) hx hb dX7_bits_71 (by decide) (fun c71 => ?_) (fun c71 => ?_)
              · exact absurd c71 c47
              · refine lv_iconst (v := 1) hx hb dX7_bits_74 (by decide) ?_
                refine lv_goto (tgt := 79) hx hb dX7_bits_75 (by decide) ?_
                have et9 : t = adT (some t.toNatClampNeg, w.toNatClampNeg, decide (n ≠ 0), 0, 0) := et
                have ew9 : w = nI ((some t.toNatClampNeg, w.toNatClampNeg, decide (n ≠ 0), 0, 0) : AdS).2.1 := ew
                have en9 : ((1 : Int32) = 1 ∧ ((some t.toNatClampNeg, w.toNatClampNeg, decide (n ≠ 0), 0, 0) : AdS).2.2.1 = true) ∨ ((1 : Int32) = 0 ∧ ((some t.toNatClampNeg, w.toNatClampNeg, decide (n ≠ 0), 0, 0) : AdS).2.2.1 = false) := Or.inl ⟨rfl, hdn⟩
                have hd9 : adOK S (some t.toNatClampNeg, w.toNatClampNeg, decide (n ≠ 0), 0, 0) := adOK_bit ht3 hw91 hw92
                have hb9 := ly_bitB (T := T) (t := t.toNatClampNeg) (w := w.toNatClampNeg) (b := decide (n ≠ 0)) hf2 (fun p k z => (hf4 p k z).2.2.1) (by omega)
                have hb8 : (ly (tPush T (some t.toNatClampNeg, w.toNatClampNeg, decide (n ≠ 0), 0, 0))).2.2.2.length ≤ 100 := by
                  rw [hb9.2, if_pos hdn]
                  omega
                refine w_call (va_runV (As := [.ref a, .int t, .int w, .int 1]) (rest := []) ⟨hx, hb, hml, hown, hts⟩ (c_tried l g h' mo a S N tl ta ty al aa ab P hR1 hS hN r.toNatClampNeg T ha3 ha2 hk hfi (some t.toNatClampNeg, w.toNatClampNeg, decide (n ≠ 0), 0, 0) t w 1 et9 ew9 en9 hd9 hb9.1 hb8 hb9.2 H.size) (cwV 4 hts gX7_bits_X7_tried rfl rfl rfl (by decide +kernel) ⟨Nat.le_of_ble_eq_true rfl, Nat.le_of_ble_eq_true rfl⟩) ⟨pr_blind, w_recv hw hLW.1 rfl, pr_of hw⟩ rfl rfl hl.1 rfl (lv_room (Nat.le_of_ble_eq_true rfl)) dX7_bits_79 ⟨Nat.le_of_ble_eq_true rfl, Nat.le_of_ble_eq_true rfl⟩) hw (fun v k' H locs hp hw => ?_)
                obtain ⟨c9, rfl, hR9⟩ | ⟨c9, rfl, hR9⟩ := hp
                · rw [ly_push] at c9
                  refine W.eq (g2 := F0 m 82 ls [.int (-4)]) rfl ?_
                  have e9 : fBit S r t w n = (-4, S) := by
                    simp only [fBit, hto]
                    rw [if_neg hc2, if_neg hc3, if_pos c9]
                  exact r_int hx hb hr hlocks hw dX7_bits_82 (Nat.le_of_ble_eq_true rfl) (Nat.le_of_ble_eq_true rfl) (⟨by rw [e9], by rw [e9]; exact hR9⟩)
                · rw [ly_push] at c9
                  refine W.eq (g2 := F0 m 82 ls [.int (if (1 : Int32) = 1 then nI (ly T).2.2.2.length else 100)]) rfl ?_
                  have e9 : fBit S r t w n = (nI (ly T).2.2.2.length, S.set r.toNatClampNeg (tPush T (some t.toNatClampNeg, w.toNatClampNeg, decide (n ≠ 0), 0, 0))) := by
                    simp only [fBit, hto]
                    rw [if_neg hc2, if_neg hc3, if_neg (Nat.not_lt.mpr c9), if_pos c47]
                  exact r_int hx hb hr hlocks hw dX7_bits_82 (Nat.le_of_ble_eq_true rfl) (Nat.le_of_ble_eq_true rfl) (⟨by rw [e9, if_pos rfl], by rw [e9]; exact hR9⟩)
            · have hfu9 : 100 ≤ (ly T).2.2.2.length := by have := (nI_eq (b := 100) (by omega) (by decide)).mp c56; omega
              refine lv_bipush (v := (-3)) hx hb dX7_bits_59 (by decide) ?_
              refine lv_goto (tgt := 82) hx hb dX7_bits_61 (by decide) ?_
              have e9 : fBit S r t w n = (-3, S) := by
                simp only [fBit, hto]
                rw [if_neg hc2, if_pos ⟨c47, hfu9⟩]
              exact r_int hx hb hr hlocks hw dX7_bits_82 (Nat.le_of_ble_eq_true rfl) (Nat.le_of_ble_eq_true rfl) (⟨by rw [e9], by rw [e9]; exact ⟨tl, ta, ty, al, aa, ab, P, hR1⟩⟩)
        · refine lv_bipush (v := (-2)) hx hb dX7_bits_36 (by decide) ?_
          have e9 : fBit S r t w n = (-2, S) := by
            simp only [fBit, hto]
            rw [if_pos (Or.inr (Or.inr (Int32.not_le.mp c33)))]
          exact r_int hx hb hr hlocks hw dX7_bits_38 (Nat.le_of_ble_eq_true rfl) (Nat.le_of_ble_eq_true rfl) (⟨by rw [e9], by rw [e9]; exact ⟨tl, ta, ty, al, aa, ab, P, hR0⟩⟩)
theorem m_bits (l : Launch) (g : GG) (h : Nat → Option va_E) (mo : Nat) (S : List TyS) (N : Nat) (hR : MR g h mo S) (hS : wfS N S) (hN : N ≤ 520) (r t w n : Int32) : Con l yX7_bits wsX7_bits 8 200 2 803 [.ref mo, .int r, .int t, .int w, .int n] g h (fun v h' => v = some (.int (fBit S r t w n).1) ∧ MR g h' mo (fBit S r t w n).2) := by
  cases hto : lkO S r with
  | none =>
    rcases lkO_none hto with z | ⟨T, z1, z2⟩
    · exact m_bits_N1 l g h mo S N hR hS hN r t w n hto z
    · exact m_bits_N2 l g h mo S N hR hS hN r t w n T hto z1 z2
  | some T => exact m_bits_O l g h mo S N hR hS hN r t w n T hto
