/-! the desk: field -/
set_option maxHeartbeats 4000000 in
set_option maxRecDepth 100000 in
theorem d_field_N1 (l : Launch) (g : GG) (h : Nat → Option va_E) (x : Nat) (S : List TyS) (N : Nat) (hR : DR g h x S) (hS : wfS N S) (r t : Int32) (hto : lkO S r = none) (htt : lk S t = none) : Con l yX4_field wsX4_field 8 192 2 804 [.ref x, .int r, .int t] g h (fun v h' => v = some (.int (fFld S r t).1) ∧ DR g h' x (fFld S r t).2) := by
  obtain ⟨kl, ka, ty, ml, ma, mb, hR0⟩ := hR
  obtain ⟨hd, hz9, hG, hlen, -⟩ := id hR0
  have hL := hG.1
  have hn9 := AL_len hL
  obtain ⟨⟨mck, hk0⟩, -, -⟩ := id hL
  have hno := DR_noOpen hR0 hto
  refine m_start (cc := cX4_field) (maxL := 6) (ret := (some .int)) (by decide) rfl (Nat.le_of_ble_eq_true rfl) ?_
  intro p e s m below meth c A ls hx hb hr hml hts hown hlocks hin hw hl
  have hl : lv_has ls 6 [(0, .ref x), (1, .int r), (2, .int t)] := hl
  have hown : s.vm.findClass RX4 = some m.cls := hown
  refine lv_aload_n hx hb dX4_field_0 rfl (lv_at hl 0 rfl) ?_
  refine lv_iload_n hx hb dX4_field_1 rfl (lv_at hl 1 rfl) ?_
  refine w_call (va_runV (As := [.int r]) (rest := []) ⟨hx, hb, hml, hown, hts⟩ (c_open_N l g h x kl ka ty hd hL r hno s.heap.size) (cwV 1 hts gX4_field_X4_openRecordAt rfl rfl rfl (by decide +kernel) ⟨Nat.le_of_ble_eq_true rfl, Nat.le_of_ble_eq_true rfl⟩) ⟨pr_blind, w_recv hw hd rfl, pr_of hw⟩ rfl rfl hl.1 rfl (lv_room (Nat.le_of_ble_eq_true rfl)) dX4_field_2 ⟨Nat.le_of_ble_eq_true rfl, Nat.le_of_ble_eq_true rfl⟩) hw (fun v h' H locs hp hw => ?_)
  obtain ⟨rfl, rfl⟩ := hp
  refine W.eq (g2 := F0 m 5 ls [.null]) rfl ?_
  refine lv_astore_nN (lv' := [(3, .null), (0, .ref x), (1, .int r), (2, .int t)]) hx hb dX4_field_5 rfl hl (by decide) rfl (fun ls hl => ?_)
  refine lv_aload_n hx hb dX4_field_6 rfl (lv_at hl 1 rfl) ?_
  refine lv_iload_n hx hb dX4_field_7 rfl (lv_at hl 3 rfl) ?_
  refine w_call (va_runV (As := [.int t]) (rest := []) ⟨hx, hb, hml, hown, hts⟩ (c_typeAt_N l g h x kl ka ty hd hL t (DR_lkN hR0 htt) H.size) (cwV 1 hts gX4_field_X4_typeAt rfl rfl rfl (by decide +kernel) ⟨Nat.le_of_ble_eq_true rfl, Nat.le_of_ble_eq_true rfl⟩) ⟨pr_blind, w_recv hw hd rfl, pr_of hw⟩ rfl rfl hl.1 rfl (lv_room (Nat.le_of_ble_eq_true rfl)) dX4_field_8 ⟨Nat.le_of_ble_eq_true rfl, Nat.le_of_ble_eq_true rfl⟩) hw (fun v h' H locs hp hw => ?_)
  obtain ⟨rfl, rfl⟩ := hp
  refine W.eq (g2 := F0 m 11 ls [.null]) rfl ?_
  refine lv_astoreN (lv' := [(4, .null), (3, .null), (0, .ref x), (1, .int r), (2, .int t)]) hx hb dX4_field_11 hl (by decide) rfl (fun ls hl => ?_)
  refine lv_aload_nN hx hb dX4_field_13 rfl (lv_at hl 1 rfl) ?_
  refine lv_ifnullN (tgt := 22) hx hb dX4_field_14 (by decide) ?_
  refine lv_iconst (v := (-1)) hx hb dX4_field_22 (by decide) ?_
  have e9 : fFld S r t = (-1, S) := by simp [fFld, hto]
  exact r_int hx hb hr hlocks hw dX4_field_23 (Nat.le_of_ble_eq_true rfl) (Nat.le_of_ble_eq_true rfl) (⟨by rw [e9], by rw [e9]; exact ⟨kl, ka, ty, ml, ma, mb, hR0⟩⟩)
set_option maxHeartbeats 4000000 in
set_option maxRecDepth 100000 in
theorem d_field_N2 (l : Launch) (g : GG) (h : Nat → Option va_E) (x : Nat) (S : List TyS) (N : Nat) (hR : DR g h x S) (hS : wfS N S) (r t : Int32) (T2 : TyS) (hto : lkO S r = none) (htt : lk S t = some T2) : Con l yX4_field wsX4_field 8 192 2 804 [.ref x, .int r, .int t] g h (fun v h' => v = some (.int (fFld S r t).1) ∧ DR g h' x (fFld S r t).2) := by
  obtain ⟨kl, ka, ty, ml, ma, mb, hR0⟩ := hR
  obtain ⟨hd, hz9, hG, hlen, -⟩ := id hR0
  have hL := hG.1
  have hn9 := AL_len hL
  obtain ⟨⟨mck, hk0⟩, -, -⟩ := id hL
  have hno := DR_noOpen hR0 hto
  obtain ⟨b, hb1, hb2, hb3, hcb⟩ := DR_lk hR0 htt
  refine m_start (cc := cX4_field) (maxL := 6) (ret := (some .int)) (by decide) rfl (Nat.le_of_ble_eq_true rfl) ?_
  intro p e s m below meth c A ls hx hb hr hml hts hown hlocks hin hw hl
  have hl : lv_has ls 6 [(0, .ref x), (1, .int r), (2, .int t)] := hl
  have hown : s.vm.findClass RX4 = some m.cls := hown
  refine lv_aload_n hx hb dX4_field_0 rfl (lv_at hl 0 rfl) ?_
  refine lv_iload_n hx hb dX4_field_1 rfl (lv_at hl 1 rfl) ?_
  refine w_call (va_runV (As := [.int r]) (rest := []) ⟨hx, hb, hml, hown, hts⟩ (c_open_N l g h x kl ka ty hd hL r hno s.heap.size) (cwV 1 hts gX4_field_X4_openRecordAt rfl rfl rfl (by decide +kernel) ⟨Nat.le_of_ble_eq_true rfl, Nat.le_of_ble_eq_true rfl⟩) ⟨pr_blind, w_recv hw hd rfl, pr_of hw⟩ rfl rfl hl.1 rfl (lv_room (Nat.le_of_ble_eq_true rfl)) dX4_field_2 ⟨Nat.le_of_ble_eq_true rfl, Nat.le_of_ble_eq_true rfl⟩) hw (fun v h' H locs hp hw => ?_)
  obtain ⟨rfl, rfl⟩ := hp
  refine W.eq (g2 := F0 m 5 ls [.null]) rfl ?_
  refine lv_astore_nN (lv' := [(3, .null), (0, .ref x), (1, .int r), (2, .int t)]) hx hb dX4_field_5 rfl hl (by decide) rfl (fun ls hl => ?_)
  refine lv_aload_n hx hb dX4_field_6 rfl (lv_at hl 1 rfl) ?_
  refine lv_iload_n hx hb dX4_field_7 rfl (lv_at hl 3 rfl) ?_
  refine w_call (va_runV (As := [.int t]) (rest := []) ⟨hx, hb, hml, hown, hts⟩ (c_typeAt_S l g h x kl ka ty hd hL t b hb1 (cX_ty hcb) H.size) (cwV 1 hts gX4_field_X4_typeAt rfl rfl rfl (by decide +kernel) ⟨Nat.le_of_ble_eq_true rfl, Nat.le_of_ble_eq_true rfl⟩) ⟨pr_blind, w_recv hw hd rfl, pr_of hw⟩ rfl rfl hl.1 rfl (lv_room (Nat.le_of_ble_eq_true rfl)) dX4_field_8 ⟨Nat.le_of_ble_eq_true rfl, Nat.le_of_ble_eq_true rfl⟩) hw (fun v h' H locs hp hw => ?_)
  obtain ⟨rfl, rfl⟩ := hp
  refine W.eq (g2 := F0 m 11 ls [.ref b]) rfl ?_
  refine lv_astore (lv' := [(4, .ref b), (3, .null), (0, .ref x), (1, .int r), (2, .int t)]) hx hb dX4_field_11 hl (by decide) rfl (fun ls hl => ?_)
  refine lv_aload_nN hx hb dX4_field_13 rfl (lv_at hl 1 rfl) ?_
  refine lv_ifnullN (tgt := 22) hx hb dX4_field_14 (by decide) ?_
  refine lv_iconst (v := (-1)) hx hb dX4_field_22 (by decide) ?_
  have e9 : fFld S r t = (-1, S) := by simp [fFld, hto]
  exact r_int hx hb hr hlocks hw dX4_field_23 (Nat.le_of_ble_eq_true rfl) (Nat.le_of_ble_eq_true rfl) (⟨by rw [e9], by rw [e9]; exact ⟨kl, ka, ty, ml, ma, mb, hR0⟩⟩)
set_option maxHeartbeats 4000000 in
set_option maxRecDepth 100000 in
theorem d_field_N3 (l : Launch) (g : GG) (h : Nat → Option va_E) (x : Nat) (S : List TyS) (N : Nat) (hR : DR g h x S) (hS : wfS N S) (r t : Int32) (T : TyS) (hto : lkO S r = some T) (htt : lk S t = none) : Con l yX4_field wsX4_field 8 192 2 804 [.ref x, .int r, .int t] g h (fun v h' => v = some (.int (fFld S r t).1) ∧ DR g h' x (fFld S r t).2) := by
  obtain ⟨ht, hk, hfi⟩ := lkO_some hto
  obtain ⟨kl, ka, ty, ml, ma, mb, hR0⟩ := hR
  obtain ⟨hd, hz9, hG, hlen, -⟩ := id hR0
  have hL := hG.1
  have hn9 := AL_len hL
  obtain ⟨⟨mck, hk0⟩, -, -⟩ := id hL
  obtain ⟨a, ha1, ha2, ha3, hc⟩ := DR_lk hR0 ht
  obtain ⟨⟨up, fb, ha, huo⟩, hml9, hmm⟩ : (∃ up fb : Int32, h a = some (oCo (nI (tSz T)) (nI (tAl T)) (if tK T = 4 then 1 else 0) (ml r.toNatClampNeg) (if tFi T = true then 0 else 1) (nI (ly T).1) up fb) ∧ uOK (tK T == 4) (ly T).2.2.1 up fb) ∧ (mb r.toNatClampNeg).length = (ly T).2.2.2.length ∧ ∀ (j y : Nat) (m : Nat × Nat × Nat × Nat), (mb r.toNatClampNeg)[j]? = some y → (ly T).2.2.2[j]? = some m → h y = some (oMb (nI m.1) (nI m.2.1) (nI m.2.2.1) (nI m.2.2.2)) := by
    rcases hc with ⟨z1, -⟩ | ⟨z1, z2⟩
    · exact absurd hk (by omega)
    · exact z2
  have hT : isTy h a := Or.inl ⟨_, _, _, _, _, _, _, _, ha⟩
  obtain ⟨hM, hmk, -⟩ := hG.2.2.1 r.toNatClampNeg (by have := (List.getElem?_eq_some_iff.mp ha2).1; omega) ⟨T, ha3, hk⟩
  obtain ⟨⟨mcm, hm0⟩, -, -⟩ := id hM
  obtain ⟨hw1, hw2, hw3, hw4, hw5, hw6, hw7, hw8⟩ := (hS.2.2 _ _ ha3).1
  obtain ⟨hf1, hf2, hf3, hf4⟩ := hw8 hk
  refine m_start (cc := cX4_field) (maxL := 6) (ret := (some .int)) (by decide) rfl (Nat.le_of_ble_eq_true rfl) ?_
  intro p e s m below meth c A ls hx hb hr hml hts hown hlocks hin hw hl
  have hl : lv_has ls 6 [(0, .ref x), (1, .int r), (2, .int t)] := hl
  have hown : s.vm.findClass RX4 = some m.cls := hown
  refine lv_aload_n hx hb dX4_field_0 rfl (lv_at hl 0 rfl) ?_
  refine lv_iload_n hx hb dX4_field_1 rfl (lv_at hl 1 rfl) ?_
  refine w_call (va_runV (As := [.int r]) (rest := []) ⟨hx, hb, hml, hown, hts⟩ (c_open_S l g h x kl ka ty hd hL r a (ml r.toNatClampNeg) (nI (tSz T)) (nI (tAl T)) (if tK T = 4 then 1 else 0) (if tFi T = true then 0 else 1) (nI (ly T).1) up fb ha1 ha (by rw [hfi]; rfl) s.heap.size) (cwV 1 hts gX4_field_X4_openRecordAt rfl rfl rfl (by decide +kernel) ⟨Nat.le_of_ble_eq_true rfl, Nat.le_of_ble_eq_true rfl⟩) ⟨pr_blind, w_recv hw hd rfl, pr_of hw⟩ rfl rfl hl.1 rfl (lv_room (Nat.le_of_ble_eq_true rfl)) dX4_field_2 ⟨Nat.le_of_ble_eq_true rfl, Nat.le_of_ble_eq_true rfl⟩) hw (fun v h' H locs hp hw => ?_)
  obtain ⟨rfl, rfl⟩ := hp
  refine W.eq (g2 := F0 m 5 ls [.ref a]) rfl ?_
  refine lv_astore_n (lv' := [(3, .ref a), (0, .ref x), (1, .int r), (2, .int t)]) hx hb dX4_field_5 rfl hl (by decide) rfl (fun ls hl => ?_)
  refine lv_aload_n hx hb dX4_field_6 rfl (lv_at hl 1 rfl) ?_
  refine lv_iload_n hx hb dX4_field_7 rfl (lv_at hl 3 rfl) ?_
  refine w_call (va_runV (As := [.int t]) (rest := []) ⟨hx, hb, hml, hown, hts⟩ (c_typeAt_N l g h x kl ka ty hd hL t (DR_lkN hR0 htt) H.size) (cwV 1 hts gX4_field_X4_typeAt rfl rfl rfl (by decide +kernel) ⟨Nat.le_of_ble_eq_true rfl, Nat.le_of_ble_eq_true rfl⟩) ⟨pr_blind, w_recv hw hd rfl, pr_of hw⟩ rfl rfl hl.1 rfl (lv_room (Nat.le_of_ble_eq_true rfl)) dX4_field_8 ⟨Nat.le_of_ble_eq_true rfl, Nat.le_of_ble_eq_true rfl⟩) hw (fun v h' H locs hp hw => ?_)
  obtain ⟨rfl, rfl⟩ := hp
  refine W.eq (g2 := F0 m 11 ls [.null]) rfl ?_
  refine lv_astoreN (lv' := [(4, .null), (3, .ref a), (0, .ref x), (1, .int r), (2, .int t)]) hx hb dX4_field_11 hl (by decide) rfl (fun ls hl => ?_)
  refine lv_aload_n hx hb dX4_field_13 rfl (lv_at hl 1 rfl) ?_
  refine lv_ifnull hx hb dX4_field_14 ?_
  refine lv_aloadN hx hb dX4_field_17 (lv_at hl 0 rfl) ?_
  refine lv_ifnonnullN hx hb dX4_field_19 ?_
  refine lv_iconst (v := (-1)) hx hb dX4_field_22 (by decide) ?_
  have e9 : fFld S r t = (-1, S) := by simp [fFld, hto, htt]
  exact r_int hx hb hr hlocks hw dX4_field_23 (Nat.le_of_ble_eq_true rfl) (Nat.le_of_ble_eq_true rfl) (⟨by rw [e9], by rw [e9]; exact ⟨kl, ka, ty, ml, ma, mb, hR0⟩⟩)
theorem in_X4_field_2 : ∀ w ∈ u_ws RX1 TX1 4, w ∈ wsX4_field := by decide +kernel
theorem in_X4_field_3 : ∀ w ∈ u_ws RX2 TX2 5, w ∈ wsX4_field := by decide +kernel
set_option maxHeartbeats 4000000 in
set_option maxRecDepth 100000 in
theorem d_field_S (l : Launch) (g : GG) (h : Nat → Option va_E) (x : Nat) (S : List TyS) (N : Nat) (hR : DR g h x S) (hS : wfS N S) (r t : Int32) (T T2 : TyS) (hto : lkO S r = some T) (htt : lk S t = some T2) (hk2 : tK T2 < 3) : Con l yX4_field wsX4_field 8 192 2 804 [.ref x, .int r, .int t] g h (fun v h' => v = some (.int (fFld S r t).1) ∧ DR g h' x (fFld S r t).2) := by
  obtain ⟨ht, hk, hfi⟩ := lkO_some hto
  obtain ⟨kl, ka, ty, ml, ma, mb, hR0⟩ := hR
  obtain ⟨hd, hz9, hG, hlen, -⟩ := id hR0
  have hL := hG.1
  have hn9 := AL_len hL
  obtain ⟨⟨mck, hk0⟩, -, -⟩ := id hL
  obtain ⟨a, ha1, ha2, ha3, hc⟩ := DR_lk hR0 ht
  obtain ⟨⟨up, fb, ha, huo⟩, hml9, hmm⟩ : (∃ up fb : Int32, h a = some (oCo (nI (tSz T)) (nI (tAl T)) (if tK T = 4 then 1 else 0) (ml r.toNatClampNeg) (if tFi T = true then 0 else 1) (nI (ly T).1) up fb) ∧ uOK (tK T == 4) (ly T).2.2.1 up fb) ∧ (mb r.toNatClampNeg).length = (ly T).2.2.2.length ∧ ∀ (j y : Nat) (m : Nat × Nat × Nat × Nat), (mb r.toNatClampNeg)[j]? = some y → (ly T).2.2.2[j]? = some m → h y = some (oMb (nI m.1) (nI m.2.1) (nI m.2.2.1) (nI m.2.2.2)) := by
    rcases hc with ⟨z1, -⟩ | ⟨z1, z2⟩
    · exact absurd hk (by omega)
    · exact z2
  have hT : isTy h a := Or.inl ⟨_, _, _, _, _, _, _, _, ha⟩
  obtain ⟨hM, hmk, -⟩ := hG.2.2.1 r.toNatClampNeg (by have := (List.getElem?_eq_some_iff.mp ha2).1; omega) ⟨T, ha3, hk⟩
  obtain ⟨⟨mcm, hm0⟩, -, -⟩ := id hM
  obtain ⟨hw1, hw2, hw3, hw4, hw5, hw6, hw7, hw8⟩ := (hS.2.2 _ _ ha3).1
  obtain ⟨hf1, hf2, hf3, hf4⟩ := hw8 hk
  obtain ⟨b, hb1, hb2, hb3, hcb⟩ := DR_lk hR0 htt
  obtain ⟨hv1, hv2, hv3, hv4, hv5, -⟩ := (hS.2.2 _ _ hb3).1
  have hsz0 : tSz T = 0 := Classical.byContradiction (fun z => by rcases ((hS.2.2 _ _ ha3).2.1.mp z).2 with z | z; { omega }; { rw [hfi] at z; cases z })
  obtain ⟨pl9, epl⟩ : ∃ p : Nat, p = (if (tK T == 4) = true then 0 else rup (ly T).1 (tAl T2)) := ⟨_, rfl⟩
  have hpl9 : pl9 ≤ 524292 := by { rw [epl]; have := rup_le (ly T).1 (tAl T2); split <;> omega }
  have hplv : (if (if tK T = 4 then (1 : Int32) else 0) = 0 then nI (rup (ly T).1 (tAl T2)) else 0) = nI pl9 := by { rw [ov_if, epl]; split <;> rfl }
  have hb0 : h b = some (oSi (nI (tSz T2)) (nI (tAl T2)) (nI (tK T2)) (if tK T2 = 0 then -1 else nI (tTo T2)) (nI (tLn T2))) := by
    rcases hcb with ⟨z1, z2⟩ | ⟨z1, -⟩
    · exact z2
    · exact absurd hk2 (by omega)
  have nba : b ≠ a := ne_e hb0 ha (ne_c (by decide))
  refine m_start (cc := cX4_field) (maxL := 6) (ret := (some .int)) (by decide) rfl (Nat.le_of_ble_eq_true rfl) ?_
  intro p e s m below meth c A ls hx hb hr hml hts hown hlocks hin hw hl
  have hl : lv_has ls 6 [(0, .ref x), (1, .int r), (2, .int t)] := hl
  have hown : s.vm.findClass RX4 = some m.cls := hown
  refine lv_aload_n hx hb dX4_field_0 rfl (lv_at hl 0 rfl) ?_
  refine lv_iload_n hx hb dX4_field_1 rfl (lv_at hl 1 rfl) ?_
  refine w_call (va_runV (As := [.int r]) (rest := []) ⟨hx, hb, hml, hown, hts⟩ (c_open_S l g h x kl ka ty hd hL r a (ml r.toNatClampNeg) (nI (tSz T)) (nI (tAl T)) (if tK T = 4 then 1 else 0) (if tFi T = true then 0 else 1) (nI (ly T).1) up fb ha1 ha (by rw [hfi]; rfl) s.heap.size) (cwV 1 hts gX4_field_X4_openRecordAt rfl rfl rfl (by decide +kernel) ⟨Nat.le_of_ble_eq_true rfl, Nat.le_of_ble_eq_true rfl⟩) ⟨pr_blind, w_recv hw hd rfl, pr_of hw⟩ rfl rfl hl.1 rfl (lv_room (Nat.le_of_ble_eq_true rfl)) dX4_field_2 ⟨Nat.le_of_ble_eq_true rfl, Nat.le_of_ble_eq_true rfl⟩) hw (fun v h' H locs hp hw => ?_)
  obtain ⟨rfl, rfl⟩ := hp
  refine W.eq (g2 := F0 m 5 ls [.ref a]) rfl ?_
  refine lv_astore_n (lv' := [(3, .ref a), (0, .ref x), (1, .int r), (2, .int t)]) hx hb dX4_field_5 rfl hl (by decide) rfl (fun ls hl => ?_)
  refine lv_aload_n hx hb dX4_field_6 rfl (lv_at hl 1 rfl) ?_
  refine lv_iload_n hx hb dX4_field_7 rfl (lv_at hl 3 rfl) ?_
  refine w_call (va_runV (As := [.int t]) (rest := []) ⟨hx, hb, hml, hown, hts⟩ (c_typeAt_S l g h x kl ka ty hd hL t b hb1 (cX_ty hcb) H.size) (cwV 1 hts gX4_field_X4_typeAt rfl rfl rfl (by decide +kernel) ⟨Nat.le_of_ble_eq_true rfl, Nat.le_of_ble_eq_true rfl⟩) ⟨pr_blind, w_recv hw hd rfl, pr_of hw⟩ rfl rfl hl.1 rfl (lv_room (Nat.le_of_ble_eq_true rfl)) dX4_field_8 ⟨Nat.le_of_ble_eq_true rfl, Nat.le_of_ble_eq_true rfl⟩) hw (fun v h' H locs hp hw => ?_)
  obtain ⟨rfl, rfl⟩ := hp
  refine W.eq (g2 := F0 m 11 ls [.ref b]) rfl ?_
  refine lv_astore (lv' := [(4, .ref b), (3, .ref a), (0, .ref x), (1, .int r), (2, .int t)]) hx hb dX4_field_11 hl (by decide) rfl (fun ls hl => ?_)
  refine lv_aload_n hx hb dX4_field_13 rfl (lv_at hl 1 rfl) ?_
  refine lv_ifnull hx hb dX4_field_14 ?_
  refine lv_aload hx hb dX4_field_17 (lv_at hl 0 rfl) ?_
  refine lv_ifnonnull (tgt := 24) hx hb dX4_field_19 (by decide) ?_
  refine lv_aload hx hb dX4_field_24 (lv_at hl 0 rfl) ?_
  refine w_get (ci := 3) (C := RX2) (T := TX2) (N := 5) (ref := "LayoutDesk$Type") hx hb hts in_X4_field_3 hown hw hb0 rfl 0 (by decide) (hts (.fieldLink RX4 52 "LayoutDesk$Type" "bytes" "I") (by decide +kernel)) (fun _ h9 => h9) rfl dX4_field_26 ?_
  refine lv_if_ne (tgt := 35) hx hb dX4_field_29 (by decide) (fun c29 => ?_) (fun c29 => ?_)
  · have hsz9 : ¬ tSz T2 = 0 := fun z => c29 (by rw [z]; exact nI_0)
    refine lv_aload_n hx hb dX4_field_35 rfl (lv_at hl 1 rfl) ?_
    refine w_call (va_runV (As := []) (rest := []) ⟨hx, hb, hml, hown, hts⟩ (c_hasAll l g h a (ml r.toNatClampNeg) (nI (tSz T)) (nI (tAl T)) (if tK T = 4 then 1 else 0) (if tFi T = true then 0 else 1) (nI (ly T).1) up fb ha (ma r.toNatClampNeg) (mb r.toNatClampNeg) hM H.size) (cwV 0 hts gX4_field_X0_hasAllMembers rfl rfl rfl (by decide +kernel) ⟨Nat.le_of_ble_eq_true rfl, Nat.le_of_ble_eq_true rfl⟩) ⟨pr_blind, w_recv hw ha rfl, pr_of hw⟩ rfl rfl hl.1 rfl (lv_room (Nat.le_of_ble_eq_true rfl)) dX4_field_36 ⟨Nat.le_of_ble_eq_true rfl, Nat.le_of_ble_eq_true rfl⟩) hw (fun v h' H locs hp hw => ?_)
    obtain ⟨rfl, rfl⟩ := hp
    refine W.eq (g2 := F0 m 39 ls [.int (if 100 ≤ (mb r.toNatClampNeg).length then 1 else 0)]) rfl ?_
    refine lv_if_eq (tgt := 45) hx hb dX4_field_39 (by decide) (fun c39 => ?_) (fun c39 => ?_)
    · have hna9 : ¬ 100 ≤ (ly T).2.2.2.length := fun z => by rw [← hml9] at z; rw [if_pos z] at c39; exact absurd c39 (by decide)
      refine lv_aload_n hx hb dX4_field_45 rfl (lv_at hl 1 rfl) ?_
      refine lv_aload hx hb dX4_field_46 (lv_at hl 0 rfl) ?_
      refine w_get (ci := 3) (C := RX2) (T := TX2) (N := 5) (ref := "LayoutDesk$Type") hx hb hts in_X4_field_3 hown hw hb0 rfl 1 (by decide) (hts (.fieldLink RX4 60 "LayoutDesk$Type" "alignment" "I") (by decide +kernel)) (fun _ h9 => h9) rfl dX4_field_48 ?_
      refine w_call (va_runV (As := [.int (nI (tAl T2))]) (rest := []) ⟨hx, hb, hml, hown, hts⟩ (c_placeFor l g h a (ml r.toNatClampNeg) (ly T).1 (tAl T2) (nI (tSz T)) (nI (tAl T)) (if tK T = 4 then 1 else 0) (if tFi T = true then 0 else 1) up fb ha (by omega) hv5 H.size) (cwV 1 hts gX4_field_X0_placeFor rfl rfl rfl (by decide +kernel) ⟨Nat.le_of_ble_eq_true rfl, Nat.le_of_ble_eq_true rfl⟩) ⟨pr_blind, w_recv hw ha rfl, pr_of hw⟩ rfl rfl hl.1 rfl (lv_room (Nat.le_of_ble_eq_true rfl)) dX4_field_51 ⟨Nat.le_of_ble_eq_true rfl, Nat.le_of_ble_eq_true rfl⟩) hw (fun v h' H locs hp hw => ?_)
      obtain ⟨rfl, rfl⟩ := hp
      refine W.eq (g2 := F0 m 54 ls [.int (if (if tK T = 4 then 1 else 0) = 0 then nI (rup (ly T).1 (tAl T2)) else 0)]) rfl ?_
      rw [hplv]
      refine lv_istore (lv' := [(5, .int (nI pl9)), (4, .ref b), (3, .ref a), (0, .ref x), (1, .int r), (2, .int t)]) hx hb dX4_field_54 hl (by decide) rfl (fun ls hl => ?_)
      refine lv_iload hx hb dX4_field_56 (lv_at hl 0 rfl) ?_
      refine lv_aload hx hb dX4_field_58 (lv_at hl 1 rfl) ?_
      refine w_get (ci := 3) (C := RX2) (T := TX2) (N := 5) (ref := "LayoutDesk$Type") hx hb hts in_X4_field_3 hown hw hb0 rfl 0 (by decide) (hts (.fieldLink RX4 52 "LayoutDesk$Type" "bytes" "I") (by decide +kernel)) (fun _ h9 => h9) rfl dX4_field_60 ?_
      refine lv_iadd hx hb dX4_field_63 ?_
      have hsum : nI pl9 + nI (tSz T2) = nI (pl9 + tSz T2) := nI_add _ _
      refine lv_ldc (v := 524288) hx hb hown (hts (.constant RX4 51 (524288)) (by decide +kernel)) dX4_field_64 ?_
      refine lv_icmp_le (tgt := 72) hx hb dX4_field_66 (by decide) (fun c66 => ?_) (fun c66 => ?_)
      · refine lv_aload_n hx hb dX4_field_72 rfl (lv_at hl 2 rfl) ?_
        refine w_call (va_runV (As := []) (rest := []) ⟨hx, hb, hml, hown, hts⟩ (c_endUnit l g h a (ml r.toNatClampNeg) (nI (tSz T)) (nI (tAl T)) (if tK T = 4 then 1 else 0) (if tFi T = true then 0 else 1) (nI (ly T).1) up fb ha H.size) (cwV 0 hts gX4_field_X0_endUnit rfl rfl rfl (by decide +kernel) ⟨Nat.le_of_ble_eq_true rfl, Nat.le_of_ble_eq_true rfl⟩) ⟨pr_blind, w_recv hw ha rfl, pr_of hw⟩ rfl rfl hl.1 rfl (lv_room (Nat.le_of_ble_eq_true rfl)) dX4_field_73 ⟨Nat.le_of_ble_eq_true rfl, Nat.le_of_ble_eq_true rfl⟩) hw (fun v h' H locs hp hw => ?_)
        obtain ⟨rfl, rfl⟩ := hp
        refine W.eq (g2 := F0 m 76 ls []) rfl ?_
        refine lv_aload_n hx hb dX4_field_76 rfl (lv_at hl 2 rfl) ?_
        refine lv_iload hx hb dX4_field_77 (lv_at hl 0 rfl) ?_
        refine lv_aload hx hb dX4_field_79 (lv_at hl 1 rfl) ?_
        refine w_get (ci := 3) (C := RX2) (T := TX2) (N := 5) (ref := "LayoutDesk$Type") hx hb hts in_X4_field_3 hown hw ((wu_n nba).trans hb0) rfl 0 (by decide) (hts (.fieldLink RX4 52 "LayoutDesk$Type" "bytes" "I") (by decide +kernel)) (fun _ h9 => h9) rfl dX4_field_81 ?_
        refine lv_aload hx hb dX4_field_84 (lv_at hl 1 rfl) ?_
        refine w_get (ci := 3) (C := RX2) (T := TX2) (N := 5) (ref := "LayoutDesk$Type") hx hb hts in_X4_field_3 hown hw ((wu_n nba).trans hb0) rfl 1 (by decide) (hts (.fieldLink RX4 60 "LayoutDesk$Type" "alignment" "I") (by decide +kernel)) (fun _ h9 => h9) rfl dX4_field_86 ?_
        refine w_call (va_runV (As := [.int (nI pl9), .int (nI (tSz T2)), .int (nI (tAl T2))]) (rest := []) ⟨hx, hb, hml, hown, hts⟩ (c_occupy l g (wu h a (.inr (1, [.int (nI (tSz T)), .int (nI (tAl T)), .int (if tK T = 4 then 1 else 0), .ref (ml r.toNatClampNeg), .int (if tFi T = true then 0 else 1), .int (nI (ly T).1), .int up, .int 0]))) a (ml r.toNatClampNeg) (tAl T) (ly T).1 pl9 (tSz T2) (tAl T2) (nI (tSz T)) (if tK T = 4 then 1 else 0) (if tFi T = true then 0 else 1) up 0 (wu_s _ _ _) (by omega) (by omega) hw5 hv5 H.size) (cwV 3 hts gX4_field_X0_occupy rfl rfl rfl (by decide +kernel) ⟨Nat.le_of_ble_eq_true rfl, Nat.le_of_ble_eq_true rfl⟩) ⟨pr_blind, w_recv hw (wu_s _ _ _) rfl, pr_of hw⟩ rfl rfl hl.1 rfl (lv_room (Nat.le_of_ble_eq_true rfl)) dX4_field_89 ⟨Nat.le_of_ble_eq_true rfl, Nat.le_of_ble_eq_true rfl⟩) hw (fun v h' H locs hp hw => ?_)
        obtain ⟨rfl, rfl⟩ := hp
        refine W.eq (g2 := F0 m 92 ls []) rfl ?_
        refine lv_aload_n hx hb dX4_field_92 rfl (lv_at hl 2 rfl) ?_
        refine w_new (ci := 2) (C := RX1) (T := TX1) (N := 4) (fs := [.int 0, .int 0, .int 0, .int 0]) hx hb hts in_X4_field_2 tyX1 tyX1_ok hown (hts (.classLink RX4 86 RX1) (by decide +kernel)) (hts (.instantiable RX1 4) (by decide +kernel)) (hts (.initialized RX1) (by decide +kernel)) hw rfl (fun j hj => by rcases (show j = 0 ∨ j = 1 ∨ j = 2 ∨ j = 3 by omega) with rfl | rfl | rfl | rfl <;> rfl) (Nat.le_of_ble_eq_true rfl) (Nat.le_of_ble_eq_true rfl) dX4_field_93 (fun q H hq hw => ?_)
        refine lv_dup hx hb dX4_field_96 rfl ?_
        refine lv_iload hx hb dX4_field_97 (lv_at hl 0 rfl) ?_
        refine lv_iload_n hx hb dX4_field_99 rfl (lv_at hl 5 rfl) ?_
        refine lv_iconst (v := 0) hx hb dX4_field_100 (by decide) ?_
        refine lv_iconst (v := 0) hx hb dX4_field_101 (by decide) ?_
        refine w_call (va_runI (As := [.int (nI pl9), .int t, .int 0, .int 0]) (rest := [.ref q, .ref a]) ⟨hx, hb, hml, hown, hts⟩ (c_Member_init l g (wu (wu (wu h a (.inr (1, [.int (nI (tSz T)), .int (nI (tAl T)), .int (if tK T = 4 then 1 else 0), .ref (ml r.toNatClampNeg), .int (if tFi T = true then 0 else 1), .int (nI (ly T).1), .int up, .int 0]))) a (.inr (1, [.int (nI (tSz T)), .int (nI (max (tAl T) (tAl T2))), .int (if tK T = 4 then 1 else 0), .ref (ml r.toNatClampNeg), .int (if tFi T = true then 0 else 1), .int (nI (max (ly T).1 (pl9 + tSz T2))), .int up, .int 0]))) q (.inr (2, [.int 0, .int 0, .int 0, .int 0]))) q 0 0 0 0 (nI pl9) t 0 0 (wu_s _ _ _) H.size) (cwI 4 hts gX4_field_X1_init rfl rfl rfl (hts (.initialized RX1) (by decide +kernel)) (hts (.methodLink RX4 88 yX1_init) (by decide +kernel)) (hts (.instanceMethod yX1_init) (by decide +kernel)) rfl (by decide +kernel) ⟨Nat.le_of_ble_eq_true rfl, Nat.le_of_ble_eq_true rfl⟩) ⟨pr_blind, pr_of hw⟩ rfl rfl hl.1 rfl (lv_room (Nat.le_of_ble_eq_true rfl)) dX4_field_102 ⟨Nat.le_of_ble_eq_true rfl, Nat.le_of_ble_eq_true rfl⟩) hw (fun v h' H locs hp hw => ?_)
        obtain ⟨rfl, rfl⟩ := hp
        refine W.eq (g2 := F0 m 105 ls [.ref q, .ref a]) rfl ?_
        have hqh : h q = none := by
          have z := hq
          exact ((wu_n (ne_n (wu_s _ _ _) hq).symm).symm.trans ((wu_n (ne_n (wu_s _ _ _) hq).symm).symm.trans hq))
        have hWf : ∀ z, z ≠ a → z ≠ q → (wu (wu (wu (wu h a (.inr (1, [.int (nI (tSz T)), .int (nI (tAl T)), .int (if tK T = 4 then 1 else 0), .ref (ml r.toNatClampNeg), .int (if tFi T = true then 0 else 1), .int (nI (ly T).1), .int up, .int 0]))) a (.inr (1, [.int (nI (tSz T)), .int (nI (max (tAl T) (tAl T2))), .int (if tK T = 4 then 1 else 0), .ref (ml r.toNatClampNeg), .int (if tFi T = true then 0 else 1), .int (nI (max (ly T).1 (pl9 + tSz T2))), .int up, .int 0]))) q (.inr (2, [.int 0, .int 0, .int 0, .int 0]))) q (.inr (2, [.int (nI pl9), .int t, .int 0, .int 0]))) z = h z := fun z z1 z2 => by
          rw [wu_n z2, wu_n z2, wu_n z1, wu_n z1]
        have hMW : AL g (wu (wu (wu (wu h a (.inr (1, [.int (nI (tSz T)), .int (nI (tAl T)), .int (if tK T = 4 then 1 else 0), .ref (ml r.toNatClampNeg), .int (if tFi T = true then 0 else 1), .int (nI (ly T).1), .int up, .int 0]))) a (.inr (1, [.int (nI (tSz T)), .int (nI (max (tAl T) (tAl T2))), .int (if tK T = 4 then 1 else 0), .ref (ml r.toNatClampNeg), .int (if tFi T = true then 0 else 1), .int (nI (max (ly T).1 (pl9 + tSz T2))), .int up, .int 0]))) q (.inr (2, [.int 0, .int 0, .int 0, .int 0]))) q (.inr (2, [.int (nI pl9), .int t, .int 0, .int 0]))) (ml r.toNatClampNeg) (ma r.toNatClampNeg) (mb r.toNatClampNeg) := AL_kp (kp_mem ha ((wu_n (ne_n (wu_s _ _ _) hq)).trans ((wu_n (ne_n (wu_s _ _ _) hq)).trans (wu_s _ _ _))) hqh hWf (w_z hw)) hM
        obtain ⟨⟨mcW, hmW⟩, -, -⟩ := id hMW
        refine w_call (va_runV (As := [.ref q]) (rest := []) ⟨hx, hb, hml, hown, hts⟩ (c_Comp_enter l g (wu (wu (wu (wu h a (.inr (1, [.int (nI (tSz T)), .int (nI (tAl T)), .int (if tK T = 4 then 1 else 0), .ref (ml r.toNatClampNeg), .int (if tFi T = true then 0 else 1), .int (nI (ly T).1), .int up, .int 0]))) a (.inr (1, [.int (nI (tSz T)), .int (nI (max (tAl T) (tAl T2))), .int (if tK T = 4 then 1 else 0), .ref (ml r.toNatClampNeg), .int (if tFi T = true then 0 else 1), .int (nI (max (ly T).1 (pl9 + tSz T2))), .int up, .int 0]))) q (.inr (2, [.int 0, .int 0, .int 0, .int 0]))) q (.inr (2, [.int (nI pl9), .int t, .int 0, .int 0]))) a (ml r.toNatClampNeg) (nI (tSz T)) (nI (max (tAl T) (tAl T2))) (if tK T = 4 then 1 else 0) (if tFi T = true then 0 else 1) (nI (max (ly T).1 (pl9 + tSz T2))) up 0 ((wu_n (ne_n (wu_s _ _ _) hq)).trans ((wu_n (ne_n (wu_s _ _ _) hq)).trans (wu_s _ _ _))) (ma r.toNatClampNeg) q (mb r.toNatClampNeg) hMW ⟨2, _, wu_s _ _ _, by decide, by decide⟩ (by omega) H.size) (cwV 1 hts gX4_field_X0_enter rfl rfl rfl (by decide +kernel) ⟨Nat.le_of_ble_eq_true rfl, Nat.le_of_ble_eq_true rfl⟩) ⟨pr_blind, w_recv hw ((wu_n (ne_n (wu_s _ _ _) hq)).trans ((wu_n (ne_n (wu_s _ _ _) hq)).trans (wu_s _ _ _))) rfl, pr_of hw⟩ rfl rfl hl.1 rfl (lv_room (Nat.le_of_ble_eq_true rfl)) dX4_field_105 ⟨Nat.le_of_ble_eq_true rfl, Nat.le_of_ble_eq_true rfl⟩) hw (fun v h' H locs hp hw => ?_)
        obtain ⟨ma', rfl, q1, q2, q3⟩ := hp
        refine W.eq (g2 := F0 m 108 ls [.int (nI (mb r.toNatClampNeg).length)]) rfl ?_
        have hle9 : pl9 + tSz T2 ≤ 524288 := (nI_leI (a := pl9 + tSz T2) (b := 524288) (by omega) (by decide)).mp (by rw [← hsum]; exact c66)
        have el : ly (tPush T (some t.toNatClampNeg, 0, true, tSz T2, tAl T2)) = (max (ly T).1 (pl9 + tSz T2), max (ly T).2.1 (tAl T2), none, (ly T).2.2.2 ++ [(pl9, t.toNatClampNeg, 0, 0)]) := by rw [epl]; exact ly_fld T t.toNatClampNeg (tSz T2) (tAl T2)
        have el1 : (lyS (tK T == 4) (ly T) (some t.toNatClampNeg, 0, true, tSz T2, tAl T2)).1 = max (ly T).1 (pl9 + tSz T2) := by rw [← ly_push, el]
        have e9 : fFld S r t = (nI (ly T).2.2.2.length, S.set r.toNatClampNeg (tPush T (some t.toNatClampNeg, 0, true, tSz T2, tAl T2))) := by
          simp only [fFld, hto, htt, el1]
          rw [if_neg hsz9, if_neg hna9, if_neg (by omega)]
        have et : t = nI t.toNatClampNeg := (lk_lt htt (by have := hS.2.1; omega)).2.1
        exact r_int hx hb hr hlocks hw dX4_field_108 (Nat.le_of_ble_eq_true rfl) (Nat.le_of_ble_eq_true rfl) (⟨by rw [e9, hml9], by rw [e9]; exact DR_mem (T' := (tPush T (some t.toNatClampNeg, 0, true, tSz T2, tAl T2))) (mm := (pl9, t.toNatClampNeg, 0, 0)) hR0 ha3 ha2 hk ha hqh (((wu_n (ne_n (wu_s _ _ _) hq)).trans ((wu_n (ne_n (wu_s _ _ _) hq)).trans (wu_s _ _ _))).trans (by rw [el, hf1]; rfl)) ((wu_s _ _ _).trans (by rw [← et]; rfl)) hWf hMW (w_z hw) q1 q2 q3 hk (by rw [el]; exact uOK_0 _ _) hmm hml9 (by rw [el])⟩)
      · refine lv_bipush (v := (-4)) hx hb dX4_field_69 (by decide) ?_
        have el1 : (lyS (tK T == 4) (ly T) (some t.toNatClampNeg, 0, true, tSz T2, tAl T2)).1 = max (ly T).1 (pl9 + tSz T2) := by rw [epl]; rfl
        have hgt9 : 524288 < pl9 + tSz T2 := Nat.lt_of_not_le (fun z => c66 (by rw [hsum]; exact nI_le (b := 524288) z (by decide)))
        have e9 : fFld S r t = (-4, S) := by
          simp only [fFld, hto, htt, el1]
          rw [if_neg hsz9, if_neg hna9, if_pos (by omega)]
        exact r_int hx hb hr hlocks hw dX4_field_71 (Nat.le_of_ble_eq_true rfl) (Nat.le_of_ble_eq_true rfl) (⟨by rw [e9], by rw [e9]; exact ⟨kl, ka, ty, ml, ma, mb, hR0⟩⟩)
    · have hal9 : 100 ≤ (ly T).2.2.2.length := by
        rw [← hml9]
        by_cases z : 100 ≤ (mb r.toNatClampNeg).length
        · exact z
        · rw [if_neg z] at c39
          exact absurd rfl c39
      refine lv_bipush (v := (-3)) hx hb dX4_field_42 (by decide) ?_
      have e9 : fFld S r t = (-3, S) := by simp [fFld, hto, htt, hsz9, hal9]
      exact r_int hx hb hr hlocks hw dX4_field_44 (Nat.le_of_ble_eq_true rfl) (Nat.le_of_ble_eq_true rfl) (⟨by rw [e9], by rw [e9]; exact ⟨kl, ka, ty, ml, ma, mb, hR0⟩⟩)
  · refine lv_bipush (v := (-2)) hx hb dX4_field_32 (by decide) ?_
    have e9 : fFld S r t = (-2, S) := by simp [fFld, hto, htt, show tSz T2 = 0 from (nI_eq (b := 0) (by omega) (by decide)).mp (c29.trans nI_0.symm)]
    exact r_int hx hb hr hlocks hw dX4_field_34 (Nat.le_of_ble_eq_true rfl) (Nat.le_of_ble_eq_true rfl) (⟨by rw [e9], by rw [e9]; exact ⟨kl, ka, ty, ml, ma, mb, hR0⟩⟩)
theorem in_X4_field_1 : ∀ w ∈ u_ws RX0 TX0 8, w ∈ wsX4_field := by decide +kernel
set_option maxHeartbeats 4000000 in
set_option maxRecDepth 100000 in
theorem d_field_C (l : Launch) (g : GG) (h : Nat → Option va_E) (x : Nat) (S : List TyS) (N : Nat) (hR : DR g h x S) (hS : wfS N S) (r t : Int32) (T T2 : TyS) (hto : lkO S r = some T) (htt : lk S t = some T2) (hk2 : 3 ≤ tK T2) : Con l yX4_field wsX4_field 8 192 2 804 [.ref x, .int r, .int t] g h (fun v h' => v = some (.int (fFld S r t).1) ∧ DR g h' x (fFld S r t).2) := by
  obtain ⟨ht, hk, hfi⟩ := lkO_some hto
  obtain ⟨kl, ka, ty, ml, ma, mb, hR0⟩ := hR
  obtain ⟨hd, hz9, hG, hlen, -⟩ := id hR0
  have hL := hG.1
  have hn9 := AL_len hL
  obtain ⟨⟨mck, hk0⟩, -, -⟩ := id hL
  obtain ⟨a, ha1, ha2, ha3, hc⟩ := DR_lk hR0 ht
  obtain ⟨⟨up, fb, ha, huo⟩, hml9, hmm⟩ : (∃ up fb : Int32, h a = some (oCo (nI (tSz T)) (nI (tAl T)) (if tK T = 4 then 1 else 0) (ml r.toNatClampNeg) (if tFi T = true then 0 else 1) (nI (ly T).1) up fb) ∧ uOK (tK T == 4) (ly T).2.2.1 up fb) ∧ (mb r.toNatClampNeg).length = (ly T).2.2.2.length ∧ ∀ (j y : Nat) (m : Nat × Nat × Nat × Nat), (mb r.toNatClampNeg)[j]? = some y → (ly T).2.2.2[j]? = some m → h y = some (oMb (nI m.1) (nI m.2.1) (nI m.2.2.1) (nI m.2.2.2)) := by
    rcases hc with ⟨z1, -⟩ | ⟨z1, z2⟩
    · exact absurd hk (by omega)
    · exact z2
  have hT : isTy h a := Or.inl ⟨_, _, _, _, _, _, _, _, ha⟩
  obtain ⟨hM, hmk, -⟩ := hG.2.2.1 r.toNatClampNeg (by have := (List.getElem?_eq_some_iff.mp ha2).1; omega) ⟨T, ha3, hk⟩
  obtain ⟨⟨mcm, hm0⟩, -, -⟩ := id hM
  obtain ⟨hw1, hw2, hw3, hw4, hw5, hw6, hw7, hw8⟩ := (hS.2.2 _ _ ha3).1
  obtain ⟨hf1, hf2, hf3, hf4⟩ := hw8 hk
  obtain ⟨b, hb1, hb2, hb3, hcb⟩ := DR_lk hR0 htt
  obtain ⟨hv1, hv2, hv3, hv4, hv5, -⟩ := (hS.2.2 _ _ hb3).1
  have hsz0 : tSz T = 0 := Classical.byContradiction (fun z => by rcases ((hS.2.2 _ _ ha3).2.1.mp z).2 with z | z; { omega }; { rw [hfi] at z; cases z })
  obtain ⟨pl9, epl⟩ : ∃ p : Nat, p = (if (tK T == 4) = true then 0 else rup (ly T).1 (tAl T2)) := ⟨_, rfl⟩
  have hpl9 : pl9 ≤ 524292 := by { rw [epl]; have := rup_le (ly T).1 (tAl T2); split <;> omega }
  have hplv : (if (if tK T = 4 then (1 : Int32) else 0) = 0 then nI (rup (ly T).1 (tAl T2)) else 0) = nI pl9 := by { rw [ov_if, epl]; split <;> rfl }
  obtain ⟨up2, fb2, hb0, -⟩ : ∃ up fb : Int32, h b = some (oCo (nI (tSz T2)) (nI (tAl T2)) (if tK T2 = 4 then 1 else 0) (ml t.toNatClampNeg) (if tFi T2 = true then 0 else 1) (nI (ly T2).1) up fb) ∧ uOK (tK T2 == 4) (ly T2).2.2.1 up fb := by
    rcases hcb with ⟨z1, -⟩ | ⟨z1, z2, -⟩
    · exact absurd hk2 (by omega)
    · exact z2
  refine m_start (cc := cX4_field) (maxL := 6) (ret := (some .int)) (by decide) rfl (Nat.le_of_ble_eq_true rfl) ?_
  intro p e s m below meth c A ls hx hb hr hml hts hown hlocks hin hw hl
  have hl : lv_has ls 6 [(0, .ref x), (1, .int r), (2, .int t)] := hl
  have hown : s.vm.findClass RX4 = some m.cls := hown
  refine lv_aload_n hx hb dX4_field_0 rfl (lv_at hl 0 rfl) ?_
  refine lv_iload_n hx hb dX4_field_1 rfl (lv_at hl 1 rfl) ?_
  refine w_call (va_runV (As := [.int r]) (rest := []) ⟨hx, hb, hml, hown, hts⟩ (c_open_S l g h x kl ka ty hd hL r a (ml r.toNatClampNeg) (nI (tSz T)) (nI (tAl T)) (if tK T = 4 then 1 else 0) (if tFi T = true then 0 else 1) (nI (ly T).1) up fb ha1 ha (by rw [hfi]; rfl) s.heap.size) (cwV 1 hts gX4_field_X4_openRecordAt rfl rfl rfl (by decide +kernel) ⟨Nat.le_of_ble_eq_true rfl, Nat.le_of_ble_eq_true rfl⟩) ⟨pr_blind, w_recv hw hd rfl, pr_of hw⟩ rfl rfl hl.1 rfl (lv_room (Nat.le_of_ble_eq_true rfl)) dX4_field_2 ⟨Nat.le_of_ble_eq_true rfl, Nat.le_of_ble_eq_true rfl⟩) hw (fun v h' H locs hp hw => ?_)
  obtain ⟨rfl, rfl⟩ := hp
  refine W.eq (g2 := F0 m 5 ls [.ref a]) rfl ?_
  refine lv_astore_n (lv' := [(3, .ref a), (0, .ref x), (1, .int r), (2, .int t)]) hx hb dX4_field_5 rfl hl (by decide) rfl (fun ls hl => ?_)
  refine lv_aload_n hx hb dX4_field_6 rfl (lv_at hl 1 rfl) ?_
  refine lv_iload_n hx hb dX4_field_7 rfl (lv_at hl 3 rfl) ?_
  refine w_call (va_runV (As := [.int t]) (rest := []) ⟨hx, hb, hml, hown, hts⟩ (c_typeAt_S l g h x kl ka ty hd hL t b hb1 (cX_ty hcb) H.size) (cwV 1 hts gX4_field_X4_typeAt rfl rfl rfl (by decide +kernel) ⟨Nat.le_of_ble_eq_true rfl, Nat.le_of_ble_eq_true rfl⟩) ⟨pr_blind, w_recv hw hd rfl, pr_of hw⟩ rfl rfl hl.1 rfl (lv_room (Nat.le_of_ble_eq_true rfl)) dX4_field_8 ⟨Nat.le_of_ble_eq_true rfl, Nat.le_of_ble_eq_true rfl⟩) hw (fun v h' H locs hp hw => ?_)
  obtain ⟨rfl, rfl⟩ := hp
  refine W.eq (g2 := F0 m 11 ls [.ref b]) rfl ?_
  refine lv_astore (lv' := [(4, .ref b), (3, .ref a), (0, .ref x), (1, .int r), (2, .int t)]) hx hb dX4_field_11 hl (by decide) rfl (fun ls hl => ?_)
  refine lv_aload_n hx hb dX4_field_13 rfl (lv_at hl 1 rfl) ?_
  refine lv_ifnull hx hb dX4_field_14 ?_
  refine lv_aload hx hb dX4_field_17 (lv_at hl 0 rfl) ?_
  refine lv_ifnonnull (tgt := 24) hx hb dX4_field_19 (by decide) ?_
  refine lv_aload hx hb dX4_field_24 (lv_at hl 0 rfl) ?_
  refine w_get (ci := 1) (C := RX0) (T := TX0) (N := 8) (ref := "LayoutDesk$Type") hx hb hts in_X4_field_1 hown hw hb0 rfl 0 (by decide) (hts (.fieldLink RX4 52 "LayoutDesk$Type" "bytes" "I") (by decide +kernel)) (fun _ h9 => h9) rfl dX4_field_26 ?_
  refine lv_if_ne (tgt := 35) hx hb dX4_field_29 (by decide) (fun c29 => ?_) (fun c29 => ?_)
  · have hsz9 : ¬ tSz T2 = 0 := fun z => c29 (by rw [z]; exact nI_0)
    have nba : b ≠ a := ne_sz ha hb0 (fun z => hsz9 ((nI_eq (by omega) (by omega)).mp (z.trans (by rw [hsz0]))))
    refine lv_aload_n hx hb dX4_field_35 rfl (lv_at hl 1 rfl) ?_
    refine w_call (va_runV (As := []) (rest := []) ⟨hx, hb, hml, hown, hts⟩ (c_hasAll l g h a (ml r.toNatClampNeg) (nI (tSz T)) (nI (tAl T)) (if tK T = 4 then 1 else 0) (if tFi T = true then 0 else 1) (nI (ly T).1) up fb ha (ma r.toNatClampNeg) (mb r.toNatClampNeg) hM H.size) (cwV 0 hts gX4_field_X0_hasAllMembers rfl rfl rfl (by decide +kernel) ⟨Nat.le_of_ble_eq_true rfl, Nat.le_of_ble_eq_true rfl⟩) ⟨pr_blind, w_recv hw ha rfl, pr_of hw⟩ rfl rfl hl.1 rfl (lv_room (Nat.le_of_ble_eq_true rfl)) dX4_field_36 ⟨Nat.le_of_ble_eq_true rfl, Nat.le_of_ble_eq_true rfl⟩) hw (fun v h' H locs hp hw => ?_)
    obtain ⟨rfl, rfl⟩ := hp
    refine W.eq (g2 := F0 m 39 ls [.int (if 100 ≤ (mb r.toNatClampNeg).length then 1 else 0)]) rfl ?_
    refine lv_if_eq (tgt := 45) hx hb dX4_field_39 (by decide) (fun c39 => ?_) (fun c39 => ?_)
    · have hna9 : ¬ 100 ≤ (ly T).2.2.2.length := fun z => by rw [← hml9] at z; rw [if_pos z] at c39; exact absurd c39 (by decide)
      refine lv_aload_n hx hb dX4_field_45 rfl (lv_at hl 1 rfl) ?_
      refine lv_aload hx hb dX4_field_46 (lv_at hl 0 rfl) ?_
      refine w_get (ci := 1) (C := RX0) (T := TX0) (N := 8) (ref := "LayoutDesk$Type") hx hb hts in_X4_field_1 hown hw hb0 rfl 1 (by decide) (hts (.fieldLink RX4 60 "LayoutDesk$Type" "alignment" "I") (by decide +kernel)) (fun _ h9 => h9) rfl dX4_field_48 ?_
      refine w_call (va_runV (As := [.int (nI (tAl T2))]) (rest := []) ⟨hx, hb, hml, hown, hts⟩ (c_placeFor l g h a (ml r.toNatClampNeg) (ly T).1 (tAl T2) (nI (tSz T)) (nI (tAl T)) (if tK T = 4 then 1 else 0) (if tFi T = true then 0 else 1) up fb ha (by omega) hv5 H.size) (cwV 1 hts gX4_field_X0_placeFor rfl rfl rfl (by decide +kernel) ⟨Nat.le_of_ble_eq_true rfl, Nat.le_of_ble_eq_true rfl⟩) ⟨pr_blind, w_recv hw ha rfl, pr_of hw⟩ rfl rfl hl.1 rfl (lv_room (Nat.le_of_ble_eq_true rfl)) dX4_field_51 ⟨Nat.le_of_ble_eq_true rfl, Nat.le_of_ble_eq_true rfl⟩) hw (fun v h' H locs hp hw => ?_)
      obtain ⟨rfl, rfl⟩ := hp
      refine W.eq (g2 := F0 m 54 ls [.int (if (if tK T = 4 then 1 else 0) = 0 then nI (rup (ly T).1 (tAl T2)) else 0)]) rfl ?_
      rw [hplv]
      refine lv_istore (lv' := [(5, .int (nI pl9)), (4, .ref b), (3, .ref a), (0, .ref x), (1, .int r), (2, .int t)]) hx hb dX4_field_54 hl (by decide) rfl (fun ls hl => ?_)
      refine lv_iload hx hb dX4_field_56 (lv_at hl 0 rfl) ?_
      refine lv_aload hx hb dX4_field_58 (lv_at hl 1 rfl) ?_
      refine w_get (ci := 1) (C := RX0) (T := TX0) (N := 8) (ref := "LayoutDesk$Type") hx hb hts in_X4_field_1 hown hw hb0 rfl 0 (by decide) (hts (.fieldLink RX4 52 "LayoutDesk$Type" "bytes" "I") (by decide +kernel)) (fun _ h9 => h9) rfl dX4_field_60 ?_
      refine lv_iadd hx hb dX4_field_63 ?_
      have hsum : nI pl9 + nI (tSz T2) = nI (pl9 + tSz T2) := nI_add _ _
      refine lv_ldc (v := 524288) hx hb hown (hts (.constant RX4 51 (524288)) (by decide +kernel)) dX4_field_64 ?_
      refine lv_icmp_le (tgt := 72) hx hb dX4_field_66 (by decide) (fun c66 => ?_) (fun c66 => ?_)
      · refine lv_aload_n hx hb dX4_field_72 rfl (lv_at hl 2 rfl) ?_
        refine w_call (va_runV (As := []) (rest := []) ⟨hx, hb, hml, hown, hts⟩ (c_endUnit l g h a (ml r.toNatClampNeg) (nI (tSz T)) (nI (tAl T)) (if tK T = 4 then 1 else 0) (if tFi T = true then 0 else 1) (nI (ly T).1) up fb ha H.size) (cwV 0 hts gX4_field_X0_endUnit rfl rfl rfl (by decide +kernel) ⟨Nat.le_of_ble_eq_true rfl, Nat.le_of_ble_eq_true rfl⟩) ⟨pr_blind, w_recv hw ha rfl, pr_of hw⟩ rfl rfl hl.1 rfl (lv_room (Nat.le_of_ble_eq_true rfl)) dX4_field_73 ⟨Nat.le_of_ble_eq_true rfl, Nat.le_of_ble_eq_true rfl⟩) hw (fun v h' H locs hp hw => ?_)
        obtain ⟨rfl, rfl⟩ := hp
        refine W.eq (g2 := F0 m 76 ls []) rfl ?_
        refine lv_aload_n hx hb dX4_field_76 rfl (lv_at hl 2 rfl) ?_
        refine lv_iload hx hb dX4_field_77 (lv_at hl 0 rfl) ?_
        refine lv_aload hx hb dX4_field_79 (lv_at hl 1 rfl) ?_
        refine w_get (ci := 1) (C := RX0) (T := TX0) (N := 8) (ref := "LayoutDesk$Type") hx hb hts in_X4_field_1 hown hw ((wu_n nba).trans hb0) rfl 0 (by decide) (hts (.fieldLink RX4 52 "LayoutDesk$Type" "bytes" "I") (by decide +kernel)) (fun _ h9 => h9) rfl dX4_field_81 ?_
        refine lv_aload hx hb dX4_field_84 (lv_at hl 1 rfl) ?_
        refine w_get (ci := 1) (C := RX0) (T := TX0) (N := 8) (ref := "LayoutDesk$Type") hx hb hts in_X4_field_1 hown hw ((wu_n nba).trans hb0) rfl 1 (by decide) (hts (.fieldLink RX4 60 "LayoutDesk$Type" "alignment" "I") (by decide +kernel)) (fun _ h9 => h9) rfl dX4_field_86 ?_
        refine w_call (va_runV (As := [.int (nI pl9), .int (nI (tSz T2)), .int (nI (tAl T2))]) (rest := []) ⟨hx, hb, hml, hown, hts⟩ (c_occupy l g (wu h a (.inr (1, [.int (nI (tSz T)), .int (nI (tAl T)), .int (if tK T = 4 then 1 else 0), .ref (ml r.toNatClampNeg), .int (if tFi T = true then 0 else 1), .int (nI (ly T).1), .int up, .int 0]))) a (ml r.toNatClampNeg) (tAl T) (ly T).1 pl9 (tSz T2) (tAl T2) (nI (tSz T)) (if tK T = 4 then 1 else 0) (if tFi T = true then 0 else 1) up 0 (wu_s _ _ _) (by omega) (by omega) hw5 hv5 H.size) (cwV 3 hts gX4_field_X0_occupy rfl rfl rfl (by decide +kernel) ⟨Nat.le_of_ble_eq_true rfl, Nat.le_of_ble_eq_true rfl⟩) ⟨pr_blind, w_recv hw (wu_s _ _ _) rfl, pr_of hw⟩ rfl rfl hl.1 rfl (lv_room (Nat.le_of_ble_eq_true rfl)) dX4_field_89 ⟨Nat.le_of_ble_eq_true rfl, Nat.le_of_ble_eq_true rfl⟩) hw (fun v h' H locs hp hw => ?_)
        obtain ⟨rfl, rfl⟩ := hp
        refine W.eq (g2 := F0 m 92 ls []) rfl ?_
        refine lv_aload_n hx hb dX4_field_92 rfl (lv_at hl 2 rfl) ?_
        refine w_new (ci := 2) (C := RX1) (T := TX1) (N := 4) (fs := [.int 0, .int 0, .int 0, .int 0]) hx hb hts in_X4_field_2 tyX1 tyX1_ok hown (hts (.classLink RX4 86 RX1) (by decide +kernel)) (hts (.instantiable RX1 4) (by decide +kernel)) (hts (.initialized RX1) (by decide +kernel)) hw rfl (fun j hj => by rcases (show j = 0 ∨ j = 1 ∨ j = 2 ∨ j = 3 by omega) with rfl | rfl | rfl | rfl <;> rfl) (Nat.le_of_ble_eq_true rfl) (Nat.le_of_ble_eq_true rfl) dX4_field_93 (fun q H hq hw => ?_)
        refine lv_dup hx hb dX4_field_96 rfl ?_
        refine lv_iload hx hb dX4_field_97 (lv_at hl 0 rfl) ?_
        refine lv_iload_n hx hb dX4_field_99 rfl (lv_at hl 5 rfl) ?_
        refine lv_iconst (v := 0) hx hb dX4_field_100 (by decide) ?_
        refine lv_iconst (v := 0) hx hb dX4_field_101 (by decide) ?_
        refine w_call (va_runI (As := [.int (nI pl9), .int t, .int 0, .int 0]) (rest := [.ref q, .ref a]) ⟨hx, hb, hml, hown, hts⟩ (c_Member_init l g (wu (wu (wu h a (.inr (1, [.int (nI (tSz T)), .int (nI (tAl T)), .int (if tK T = 4 then 1 else 0), .ref (ml r.toNatClampNeg), .int (if tFi T = true then 0 else 1), .int (nI (ly T).1), .int up, .int 0]))) a (.inr (1, [.int (nI (tSz T)), .int (nI (max (tAl T) (tAl T2))), .int (if tK T = 4 then 1 else 0), .ref (ml r.toNatClampNeg), .int (if tFi T = true then 0 else 1), .int (nI (max (ly T).1 (pl9 + tSz T2))), .int up, .int 0]))) q (.inr (2, [.int 0, .int 0, .int 0, .int 0]))) q 0 0 0 0 (nI pl9) t 0 0 (wu_s _ _ _) H.size) (cwI 4 hts gX4_field_X1_init rfl rfl rfl (hts (.initialized RX1) (by decide +kernel)) (hts (.methodLink RX4 88 yX1_init) (by decide +kernel)) (hts (.instanceMethod yX1_init) (by decide +kernel)) rfl (by decide +kernel) ⟨Nat.le_of_ble_eq_true rfl, Nat.le_of_ble_eq_true rfl⟩) ⟨pr_blind, pr_of hw⟩ rfl rfl hl.1 rfl (lv_room (Nat.le_of_ble_eq_true rfl)) dX4_field_102 ⟨Nat.le_of_ble_eq_true rfl, Nat.le_of_ble_eq_true rfl⟩) hw (fun v h' H locs hp hw => ?_)
        obtain ⟨rfl, rfl⟩ := hp
        refine W.eq (g2 := F0 m 105 ls [.ref q, .ref a]) rfl ?_
        have hqh : h q = none := by
          have z := hq
          exact ((wu_n (ne_n (wu_s _ _ _) hq).symm).symm.trans ((wu_n (ne_n (wu_s _ _ _) hq).symm).symm.trans hq))
        have hWf : ∀ z, z ≠ a → z ≠ q → (wu (wu (wu (wu h a (.inr (1, [.int (nI (tSz T)), .int (nI (tAl T)), .int (if tK T = 4 then 1 else 0), .ref (ml r.toNatClampNeg), .int (if tFi T = true then 0 else 1), .int (nI (ly T).1), .int up, .int 0]))) a (.inr (1, [.int (nI (tSz T)), .int (nI (max (tAl T) (tAl T2))), .int (if tK T = 4 then 1 else 0), .ref (ml r.toNatClampNeg), .int (if tFi T = true then 0 else 1), .int (nI (max (ly T).1 (pl9 + tSz T2))), .int up, .int 0]))) q (.inr (2, [.int 0, .int 0, .int 0, .int 0]))) q (.inr (2, [.int (nI pl9), .int t, .int 0, .int 0]))) z = h z := fun z z1 z2 => by
          rw [wu_n z2, wu_n z2, wu_n z1, wu_n z1]
        have hMW : AL g (wu (wu (wu (wu h a (.inr (1, [.int (nI (tSz T)), .int (nI (tAl T)), .int (if tK T = 4 then 1 else 0), .ref (ml r.toNatClampNeg), .int (if tFi T = true then 0 else 1), .int (nI (ly T).1), .int up, .int 0]))) a (.inr (1, [.int (nI (tSz T)), .int (nI (max (tAl T) (tAl T2))), .int (if tK T = 4 then 1 else 0), .ref (ml r.toNatClampNeg), .int (if tFi T = true then 0 else 1), .int (nI (max (ly T).1 (pl9 + tSz T2))), .int up, .int 0]))) q (.inr (2, [.int 0, .int 0, .int 0, .int 0]))) q (.inr (2, [.int (nI pl9), .int t, .int 0, .int 0]))) (ml r.toNatClampNeg) (ma r.toNatClampNeg) (mb r.toNatClampNeg) := AL_kp (kp_mem ha ((wu_n (ne_n (wu_s _ _ _) hq)).trans ((wu_n (ne_n (wu_s _ _ _) hq)).trans (wu_s _ _ _))) hqh hWf (w_z hw)) hM
        obtain ⟨⟨mcW, hmW⟩, -, -⟩ := id hMW
        refine w_call (va_runV (As := [.ref q]) (rest := []) ⟨hx, hb, hml, hown, hts⟩ (c_Comp_enter l g (wu (wu (wu (wu h a (.inr (1, [.int (nI (tSz T)), .int (nI (tAl T)), .int (if tK T = 4 then 1 else 0), .ref (ml r.toNatClampNeg), .int (if tFi T = true then 0 else 1), .int (nI (ly T).1), .int up, .int 0]))) a (.inr (1, [.int (nI (tSz T)), .int (nI (max (tAl T) (tAl T2))), .int (if tK T = 4 then 1 else 0), .ref (ml r.toNatClampNeg), .int (if tFi T = true then 0 else 1), .int (nI (max (ly T).1 (pl9 + tSz T2))), .int up, .int 0]))) q (.inr (2, [.int 0, .int 0, .int 0, .int 0]))) q (.inr (2, [.int (nI pl9), .int t, .int 0, .int 0]))) a (ml r.toNatClampNeg) (nI (tSz T)) (nI (max (tAl T) (tAl T2))) (if tK T = 4 then 1 else 0) (if tFi T = true then 0 else 1) (nI (max (ly T).1 (pl9 + tSz T2))) up 0 ((wu_n (ne_n (wu_s _ _ _) hq)).trans ((wu_n (ne_n (wu_s _ _ _) hq)).trans (wu_s _ _ _))) (ma r.toNatClampNeg) q (mb r.toNatClampNeg) hMW ⟨2, _, wu_s _ _ _, by decide, by decide⟩ (by omega) H.size) (cwV 1 hts gX4_field_X0_enter rfl rfl rfl (by decide +kernel) ⟨Nat.le_of_ble_eq_true rfl, Nat.le_of_ble_eq_true rfl⟩) ⟨pr_blind, w_recv hw ((wu_n (ne_n (wu_s _ _ _) hq)).trans ((wu_n (ne_n (wu_s _ _ _) hq)).trans (wu_s _ _ _))) rfl, pr_of hw⟩ rfl rfl hl.1 rfl (lv_room (Nat.le_of_ble_eq_true rfl)) dX4_field_105 ⟨Nat.le_of_ble_eq_true rfl, Nat.le_of_ble_eq_true rfl⟩) hw (fun v h' H locs hp hw => ?_)
        obtain ⟨ma', rfl, q1, q2, q3⟩ := hp
        refine W.eq (g2 := F0 m 108 ls [.int (nI (mb r.toNatClampNeg).length)]) rfl ?_
        have hle9 : pl9 + tSz T2 ≤ 524288 := (nI_leI (a := pl9 + tSz T2) (b := 524288) (by omega) (by decide)).mp (by rw [← hsum]; exact c66)
        have el : ly (tPush T (some t.toNatClampNeg, 0, true, tSz T2, tAl T2)) = (max (ly T).1 (pl9 + tSz T2), max (ly T).2.1 (tAl T2), none, (ly T).2.2.2 ++ [(pl9, t.toNatClampNeg, 0, 0)]) := by rw [epl]; exact ly_fld T t.toNatClampNeg (tSz T2) (tAl T2)
        have el1 : (lyS (tK T == 4) (ly T) (some t.toNatClampNeg, 0, true, tSz T2, tAl T2)).1 = max (ly T).1 (pl9 + tSz T2) := by rw [← ly_push, el]
        have e9 : fFld S r t = (nI (ly T).2.2.2.length, S.set r.toNatClampNeg (tPush T (some t.toNatClampNeg, 0, true, tSz T2, tAl T2))) := by
          simp only [fFld, hto, htt, el1]
          rw [if_neg hsz9, if_neg hna9, if_neg (by omega)]
        have et : t = nI t.toNatClampNeg := (lk_lt htt (by have := hS.2.1; omega)).2.1
        exact r_int hx hb hr hlocks hw dX4_field_108 (Nat.le_of_ble_eq_true rfl) (Nat.le_of_ble_eq_true rfl) (⟨by rw [e9, hml9], by rw [e9]; exact DR_mem (T' := (tPush T (some t.toNatClampNeg, 0, true, tSz T2, tAl T2))) (mm := (pl9, t.toNatClampNeg, 0, 0)) hR0 ha3 ha2 hk ha hqh (((wu_n (ne_n (wu_s _ _ _) hq)).trans ((wu_n (ne_n (wu_s _ _ _) hq)).trans (wu_s _ _ _))).trans (by rw [el, hf1]; rfl)) ((wu_s _ _ _).trans (by rw [← et]; rfl)) hWf hMW (w_z hw) q1 q2 q3 hk (by rw [el]; exact uOK_0 _ _) hmm hml9 (by rw [el])⟩)
      · refine lv_bipush (v := (-4)) hx hb dX4_field_69 (by decide) ?_
        have el1 : (lyS (tK T == 4) (ly T) (some t.toNatClampNeg, 0, true, tSz T2, tAl T2)).1 = max (ly T).1 (pl9 + tSz T2) := by rw [epl]; rfl
        have hgt9 : 524288 < pl9 + tSz T2 := Nat.lt_of_not_le (fun z => c66 (by rw [hsum]; exact nI_le (b := 524288) z (by decide)))
        have e9 : fFld S r t = (-4, S) := by
          simp only [fFld, hto, htt, el1]
          rw [if_neg hsz9, if_neg hna9, if_pos (by omega)]
        exact r_int hx hb hr hlocks hw dX4_field_71 (Nat.le_of_ble_eq_true rfl) (Nat.le_of_ble_eq_true rfl) (⟨by rw [e9], by rw [e9]; exact ⟨kl, ka, ty, ml, ma, mb, hR0⟩⟩)
    · have hal9 : 100 ≤ (ly T).2.2.2.length := by
        rw [← hml9]
        by_cases z : 100 ≤ (mb r.toNatClampNeg).length
        · exact z
        · rw [if_neg z] at c39
          exact absurd rfl c39
      refine lv_bipush (v := (-3)) hx hb dX4_field_42 (by decide) ?_
      have e9 : fFld S r t = (-3, S) := by simp [fFld, hto, htt, hsz9, hal9]
      exact r_int hx hb hr hlocks hw dX4_field_44 (Nat.le_of_ble_eq_true rfl) (Nat.le_of_ble_eq_true rfl) (⟨by rw [e9], by rw [e9]; exact ⟨kl, ka, ty, ml, ma, mb, hR0⟩⟩)
  · refine lv_bipush (v := (-2)) hx hb dX4_field_32 (by decide) ?_
    have e9 : fFld S r t = (-2, S) := by simp [fFld, hto, htt, show tSz T2 = 0 from (nI_eq (b := 0) (by omega) (by decide)).mp (c29.trans nI_0.symm)]
    exact r_int hx hb hr hlocks hw dX4_field_34 (Nat.le_of_ble_eq_true rfl) (Nat.le_of_ble_eq_true rfl) (⟨by rw [e9], by rw [e9]; exact ⟨kl, ka, ty, ml, ma, mb, hR0⟩⟩)
theorem d_field (l : Launch) (g : GG) (h : Nat → Option va_E) (x : Nat) (S : List TyS) (N : Nat) (hR : DR g h x S) (hS : wfS N S) (r t : Int32) : Con l yX4_field wsX4_field 8 192 2 804 [.ref x, .int r, .int t] g h (fun v h' => v = some (.int (fFld S r t).1) ∧ DR g h' x (fFld S r t).2) := by
  cases hto : lkO S r with
  | none =>
    cases htt : lk S t with
    | none => exact d_field_N1 l g h x S N hR hS r t hto htt
    | some T2 => exact d_field_N2 l g h x S N hR hS r t T2 hto htt
  | some T =>
    cases htt : lk S t with
    | none => exact d_field_N3 l g h x S N hR hS r t T hto htt
    | some T2 =>
      rcases Nat.lt_or_ge (tK T2) 3 with hk | hk
      · exact d_field_S l g h x S N hR hS r t T T2 hto htt hk
      · exact d_field_C l g h x S N hR hS r t T T2 hto htt hk
