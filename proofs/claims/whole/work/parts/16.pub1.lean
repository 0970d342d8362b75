/-! the desk: its public methods that read; pointer -/
theorem in_X4_types_4 : ∀ w ∈ u_ws RX4 TX4 1, w ∈ wsX4_types := by decide +kernel
set_option maxHeartbeats 4000000 in
set_option maxRecDepth 100000 in
theorem d_types (l : Launch) (g : GG) (h : Nat → Option va_E) (x : Nat) (S : List TyS) (N : Nat) (hR : DR g h x S) (hS : wfS N S) : Con l yX4_types wsX4_types 1 30 0 0 [.ref x] g h (fun v h' => v = some (.int (nI S.length)) ∧ DR g h' x S) := by
  obtain ⟨kl, ka, ty, ml, ma, mb, hR0⟩ := hR
  obtain ⟨hd, hz9, hG, hlen, -⟩ := id hR0
  have hL := hG.1
  have hn9 := AL_len hL
  obtain ⟨⟨mck, hk0⟩, -, -⟩ := id hL
  refine m_start (cc := cX4_types) (maxL := 1) (ret := (some .int)) (by decide) rfl (Nat.le_of_ble_eq_true rfl) ?_
  intro p e s m below meth c A ls hx hb hr hml hts hown hlocks hin hw hl
  have hl : lv_has ls 1 [(0, .ref x)] := hl
  have hown : s.vm.findClass RX4 = some m.cls := hown
  refine lv_aload_n hx hb dX4_types_0 rfl (lv_at hl 0 rfl) ?_
  refine w_get (ci := 4) (C := RX4) (T := TX4) (N := 1) (ref := "LayoutDesk") hx hb hts in_X4_types_4 hown hw hd rfl 0 (by decide) (hts (.fieldLink RX4 10 "LayoutDesk" "known" "Ljava/util/ArrayList;") (by decide +kernel)) (fun _ h9 => h9) rfl dX4_types_1 ?_
  refine w_call (va_runV (As := []) (rest := []) ⟨hx, hb, hml, hown, hts⟩ (c_sizeL l g h kl ka ty hL s.heap.size) (cwV 0 hts gX4_types_Jx4a65c_size_8abf5 rfl rfl rfl (by decide +kernel) ⟨Nat.le_of_ble_eq_true rfl, Nat.le_of_ble_eq_true rfl⟩) ⟨pr_blind, w_recv hw hk0 rfl, pr_of hw⟩ rfl rfl hl.1 rfl (lv_room (Nat.le_of_ble_eq_true rfl)) dX4_types_4 ⟨Nat.le_of_ble_eq_true rfl, Nat.le_of_ble_eq_true rfl⟩) hw (fun v h' H locs hp hw => ?_)
  obtain ⟨rfl, rfl⟩ := hp
  refine W.eq (g2 := F0 m 7 ls [.int (nI ty.length)]) rfl ?_
  exact r_int hx hb hr hlocks hw dX4_types_7 (Nat.le_of_ble_eq_true rfl) (Nat.le_of_ble_eq_true rfl) (⟨by rw [hlen], ⟨kl, ka, ty, ml, ma, mb, hR0⟩⟩)
set_option maxHeartbeats 4000000 in
set_option maxRecDepth 100000 in
theorem d_size_N (l : Launch) (g : GG) (h : Nat → Option va_E) (x : Nat) (S : List TyS) (N : Nat) (hR : DR g h x S) (hS : wfS N S) (t : Int32) (ht : lk S t = none) : Con l yX4_size wsX4_size 4 100 0 0 [.ref x, .int t] g h (fun v h' => v = some (.int (fSiz S t)) ∧ DR g h' x S) := by
  obtain ⟨kl, ka, ty, ml, ma, mb, hR0⟩ := hR
  obtain ⟨hd, hz9, hG, hlen, -⟩ := id hR0
  have hL := hG.1
  have hn9 := AL_len hL
  obtain ⟨⟨mck, hk0⟩, -, -⟩ := id hL
  have htn := DR_lkN hR0 ht
  refine m_start (cc := cX4_size) (maxL := 3) (ret := (some .int)) (by decide) rfl (Nat.le_of_ble_eq_true rfl) ?_
  intro p e s m below meth c A ls hx hb hr hml hts hown hlocks hin hw hl
  have hl : lv_has ls 3 [(0, .ref x), (1, .int t)] := hl
  have hown : s.vm.findClass RX4 = some m.cls := hown
  refine lv_aload_n hx hb dX4_size_0 rfl (lv_at hl 0 rfl) ?_
  refine lv_iload_n hx hb dX4_size_1 rfl (lv_at hl 1 rfl) ?_
  refine w_call (va_runV (As := [.int t]) (rest := []) ⟨hx, hb, hml, hown, hts⟩ (c_typeAt_N l g h x kl ka ty hd hL t htn s.heap.size) (cwV 1 hts gX4_size_X4_typeAt rfl rfl rfl (by decide +kernel) ⟨Nat.le_of_ble_eq_true rfl, Nat.le_of_ble_eq_true rfl⟩) ⟨pr_blind, w_recv hw hd rfl, pr_of hw⟩ rfl rfl hl.1 rfl (lv_room (Nat.le_of_ble_eq_true rfl)) dX4_size_2 ⟨Nat.le_of_ble_eq_true rfl, Nat.le_of_ble_eq_true rfl⟩) hw (fun v h' H locs hp hw => ?_)
  obtain ⟨rfl, rfl⟩ := hp
  refine W.eq (g2 := F0 m 5 ls [.null]) rfl ?_
  refine lv_astore_nN (lv' := [(2, .null), (0, .ref x), (1, .int t)]) hx hb dX4_size_5 rfl hl (by decide) rfl (fun ls hl => ?_)
  refine lv_aload_nN hx hb dX4_size_6 rfl (lv_at hl 0 rfl) ?_
  refine lv_ifnonnullN hx hb dX4_size_7 ?_
  refine lv_iconst (v := (-1)) hx hb dX4_size_10 (by decide) ?_
  refine lv_goto (tgt := 18) hx hb dX4_size_11 (by decide) ?_
  exact r_int hx hb hr hlocks hw dX4_size_18 (Nat.le_of_ble_eq_true rfl) (Nat.le_of_ble_eq_true rfl) (⟨by simp [fSiz, ht], ⟨kl, ka, ty, ml, ma, mb, hR0⟩⟩)
theorem in_X4_size_3 : ∀ w ∈ u_ws RX2 TX2 5, w ∈ wsX4_size := by decide +kernel
set_option maxHeartbeats 4000000 in
set_option maxRecDepth 100000 in
theorem d_size_S (l : Launch) (g : GG) (h : Nat → Option va_E) (x : Nat) (S : List TyS) (N : Nat) (hR : DR g h x S) (hS : wfS N S) (t : Int32) (T : TyS) (ht : lk S t = some T) (hk : tK T < 3) : Con l yX4_size wsX4_size 4 100 0 0 [.ref x, .int t] g h (fun v h' => v = some (.int (fSiz S t)) ∧ DR g h' x S) := by
  obtain ⟨kl, ka, ty, ml, ma, mb, hR0⟩ := hR
  obtain ⟨hd, hz9, hG, hlen, -⟩ := id hR0
  have hL := hG.1
  have hn9 := AL_len hL
  obtain ⟨⟨mck, hk0⟩, -, -⟩ := id hL
  obtain ⟨a, ha1, ha2, ha3, hc⟩ := DR_lk hR0 ht
  have ha : h a = some (oSi (nI (tSz T)) (nI (tAl T)) (nI (tK T)) (if tK T = 0 then -1 else nI (tTo T)) (nI (tLn T))) := by
    rcases hc with ⟨z1, z2⟩ | ⟨z1, -⟩
    · exact z2
    · exact absurd hk (by omega)
  have hT : isTy h a := cX_ty hc
  refine m_start (cc := cX4_size) (maxL := 3) (ret := (some .int)) (by decide) rfl (Nat.le_of_ble_eq_true rfl) ?_
  intro p e s m below meth c A ls hx hb hr hml hts hown hlocks hin hw hl
  have hl : lv_has ls 3 [(0, .ref x), (1, .int t)] := hl
  have hown : s.vm.findClass RX4 = some m.cls := hown
  refine lv_aload_n hx hb dX4_size_0 rfl (lv_at hl 0 rfl) ?_
  refine lv_iload_n hx hb dX4_size_1 rfl (lv_at hl 1 rfl) ?_
  refine w_call (va_runV (As := [.int t]) (rest := []) ⟨hx, hb, hml, hown, hts⟩ (c_typeAt_S l g h x kl ka ty hd hL t a ha1 hT s.heap.size) (cwV 1 hts gX4_size_X4_typeAt rfl rfl rfl (by decide +kernel) ⟨Nat.le_of_ble_eq_true rfl, Nat.le_of_ble_eq_true rfl⟩) ⟨pr_blind, w_recv hw hd rfl, pr_of hw⟩ rfl rfl hl.1 rfl (lv_room (Nat.le_of_ble_eq_true rfl)) dX4_size_2 ⟨Nat.le_of_ble_eq_true rfl, Nat.le_of_ble_eq_true rfl⟩) hw (fun v h' H locs hp hw => ?_)
  obtain ⟨rfl, rfl⟩ := hp
  refine W.eq (g2 := F0 m 5 ls [.ref a]) rfl ?_
  refine lv_astore_n (lv' := [(2, .ref a), (0, .ref x), (1, .int t)]) hx hb dX4_size_5 rfl hl (by decide) rfl (fun ls hl => ?_)
  refine lv_aload_n hx hb dX4_size_6 rfl (lv_at hl 0 rfl) ?_
  refine lv_ifnonnull (tgt := 14) hx hb dX4_size_7 (by decide) ?_
  refine lv_aload_n hx hb dX4_size_14 rfl (lv_at hl 0 rfl) ?_
  refine w_get (ci := 3) (C := RX2) (T := TX2) (N := 5) (ref := "LayoutDesk$Type") hx hb hts in_X4_size_3 hown hw ha rfl 0 (by decide) (hts (.fieldLink RX4 52 "LayoutDesk$Type" "bytes" "I") (by decide +kernel)) (fun _ h9 => h9) rfl dX4_size_15 ?_
  exact r_int hx hb hr hlocks hw dX4_size_18 (Nat.le_of_ble_eq_true rfl) (Nat.le_of_ble_eq_true rfl) (⟨by simp [fSiz, ht], ⟨kl, ka, ty, ml, ma, mb, hR0⟩⟩)
theorem in_X4_size_1 : ∀ w ∈ u_ws RX0 TX0 8, w ∈ wsX4_size := by decide +kernel
set_option maxHeartbeats 4000000 in
set_option maxRecDepth 100000 in
theorem d_size_C (l : Launch) (g : GG) (h : Nat → Option va_E) (x : Nat) (S : List TyS) (N : Nat) (hR : DR g h x S) (hS : wfS N S) (t : Int32) (T : TyS) (ht : lk S t = some T) (hk : 3 ≤ tK T) : Con l yX4_size wsX4_size 4 100 0 0 [.ref x, .int t] g h (fun v h' => v = some (.int (fSiz S t)) ∧ DR g h' x S) := by
  obtain ⟨kl, ka, ty, ml, ma, mb, hR0⟩ := hR
  obtain ⟨hd, hz9, hG, hlen, -⟩ := id hR0
  have hL := hG.1
  have hn9 := AL_len hL
  obtain ⟨⟨mck, hk0⟩, -, -⟩ := id hL
  obtain ⟨a, ha1, ha2, ha3, hc⟩ := DR_lk hR0 ht
  obtain ⟨⟨up, fb, ha, huo⟩, hml9, hmm⟩ : (∃ up fb : Int32, h a = some (oCo (nI (tSz T)) (nI (tAl T)) (if tK T = 4 then 1 else 0) (ml t.toNatClampNeg) (if tFi T = true then 0 else 1) (nI (ly T).1) up fb) ∧ uOK (tK T == 4) (ly T).2.2.1 up fb) ∧ (mb t.toNatClampNeg).length = (ly T).2.2.2.length ∧ ∀ (j y : Nat) (m : Nat × Nat × Nat × Nat), (mb t.toNatClampNeg)[j]? = some y → (ly T).2.2.2[j]? = some m → h y = some (oMb (nI m.1) (nI m.2.1) (nI m.2.2.1) (nI m.2.2.2)) := by
    rcases hc with ⟨z1, -⟩ | ⟨z1, z2⟩
    · exact absurd hk (by omega)
    · exact z2
  have hT : isTy h a := Or.inl ⟨_, _, _, _, _, _, _, _, ha⟩
  obtain ⟨hM, hmk, -⟩ := hG.2.2.1 t.toNatClampNeg (by have := (List.getElem?_eq_some_iff.mp ha2).1; omega) ⟨T, ha3, hk⟩
  obtain ⟨⟨mcm, hm0⟩, -, -⟩ := id hM
  refine m_start (cc := cX4_size) (maxL := 3) (ret := (some .int)) (by decide) rfl (Nat.le_of_ble_eq_true rfl) ?_
  intro p e s m below meth c A ls hx hb hr hml hts hown hlocks hin hw hl
  have hl : lv_has ls 3 [(0, .ref x), (1, .int t)] := hl
  have hown : s.vm.findClass RX4 = some m.cls := hown
  refine lv_aload_n hx hb dX4_size_0 rfl (lv_at hl 0 rfl) ?_
  refine lv_iload_n hx hb dX4_size_1 rfl (lv_at hl 1 rfl) ?_
  refine w_call (va_runV (As := [.int t]) (rest := []) ⟨hx, hb, hml, hown, hts⟩ (c_typeAt_S l g h x kl ka ty hd hL t a ha1 hT s.heap.size) (cwV 1 hts gX4_size_X4_typeAt rfl rfl rfl (by decide +kernel) ⟨Nat.le_of_ble_eq_true rfl, Nat.le_of_ble_eq_true rfl⟩) ⟨pr_blind, w_recv hw hd rfl, pr_of hw⟩ rfl rfl hl.1 rfl (lv_room (Nat.le_of_ble_eq_true rfl)) dX4_size_2 ⟨Nat.le_of_ble_eq_true rfl, Nat.le_of_ble_eq_true rfl⟩) hw (fun v h' H locs hp hw => ?_)
  obtain ⟨rfl, rfl⟩ := hp
  refine W.eq (g2 := F0 m 5 ls [.ref a]) rfl ?_
  refine lv_astore_n (lv' := [(2, .ref a), (0, .ref x), (1, .int t)]) hx hb dX4_size_5 rfl hl (by decide) rfl (fun ls hl => ?_)
  refine lv_aload_n hx hb dX4_size_6 rfl (lv_at hl 0 rfl) ?_
  refine lv_ifnonnull (tgt := 14) hx hb dX4_size_7 (by decide) ?_
  refine lv_aload_n hx hb dX4_size_14 rfl (lv_at hl 0 rfl) ?_
  refine w_get (ci := 1) (C := RX0) (T := TX0) (N := 8) (ref := "LayoutDesk$Type") hx hb hts in_X4_size_1 hown hw ha rfl 0 (by decide) (hts (.fieldLink RX4 52 "LayoutDesk$Type" "bytes" "I") (by decide +kernel)) (fun _ h9 => h9) rfl dX4_size_15 ?_
  exact r_int hx hb hr hlocks hw dX4_size_18 (Nat.le_of_ble_eq_true rfl) (Nat.le_of_ble_eq_true rfl) (⟨by simp [fSiz, ht], ⟨kl, ka, ty, ml, ma, mb, hR0⟩⟩)
theorem d_size (l : Launch) (g : GG) (h : Nat → Option va_E) (x : Nat) (S : List TyS) (N : Nat) (hR : DR g h x S) (hS : wfS N S) (t : Int32) : Con l yX4_size wsX4_size 4 100 0 0 [.ref x, .int t] g h (fun v h' => v = some (.int (fSiz S t)) ∧ DR g h' x S) := by
  cases ht : lk S t with
  | none => exact d_size_N l g h x S N hR hS t ht
  | some T =>
    rcases Nat.lt_or_ge (tK T) 3 with hk | hk
    · exact d_size_S l g h x S N hR hS t T ht hk
    · exact d_size_C l g h x S N hR hS t T ht hk
set_option maxHeartbeats 4000000 in
set_option maxRecDepth 100000 in
theorem d_align_N (l : Launch) (g : GG) (h : Nat → Option va_E) (x : Nat) (S : List TyS) (N : Nat) (hR : DR g h x S) (hS : wfS N S) (t : Int32) (ht : lk S t = none) : Con l yX4_align wsX4_align 4 100 0 0 [.ref x, .int t] g h (fun v h' => v = some (.int (fAli S t)) ∧ DR g h' x S) := by
  obtain ⟨kl, ka, ty, ml, ma, mb, hR0⟩ := hR
  obtain ⟨hd, hz9, hG, hlen, -⟩ := id hR0
  have hL := hG.1
  have hn9 := AL_len hL
  obtain ⟨⟨mck, hk0⟩, -, -⟩ := id hL
  have htn := DR_lkN hR0 ht
  refine m_start (cc := cX4_align) (maxL := 3) (ret := (some .int)) (by decide) rfl (Nat.le_of_ble_eq_true rfl) ?_
  intro p e s m below meth c A ls hx hb hr hml hts hown hlocks hin hw hl
  have hl : lv_has ls 3 [(0, .ref x), (1, .int t)] := hl
  have hown : s.vm.findClass RX4 = some m.cls := hown
  refine lv_aload_n hx hb dX4_align_0 rfl (lv_at hl 0 rfl) ?_
  refine lv_iload_n hx hb dX4_align_1 rfl (lv_at hl 1 rfl) ?_
  refine w_call (va_runV (As := [.int t]) (rest := []) ⟨hx, hb, hml, hown, hts⟩ (c_typeAt_N l g h x kl ka ty hd hL t htn s.heap.size) (cwV 1 hts gX4_align_X4_typeAt rfl rfl rfl (by decide +kernel) ⟨Nat.le_of_ble_eq_true rfl, Nat.le_of_ble_eq_true rfl⟩) ⟨pr_blind, w_recv hw hd rfl, pr_of hw⟩ rfl rfl hl.1 rfl (lv_room (Nat.le_of_ble_eq_true rfl)) dX4_align_2 ⟨Nat.le_of_ble_eq_true rfl, Nat.le_of_ble_eq_true rfl⟩) hw (fun v h' H locs hp hw => ?_)
  obtain ⟨rfl, rfl⟩ := hp
  refine W.eq (g2 := F0 m 5 ls [.null]) rfl ?_
  refine lv_astore_nN (lv' := [(2, .null), (0, .ref x), (1, .int t)]) hx hb dX4_align_5 rfl hl (by decide) rfl (fun ls hl => ?_)
  refine lv_aload_nN hx hb dX4_align_6 rfl (lv_at hl 0 rfl) ?_
  refine lv_ifnonnullN hx hb dX4_align_7 ?_
  refine lv_iconst (v := (-1)) hx hb dX4_align_10 (by decide) ?_
  refine lv_goto (tgt := 18) hx hb dX4_align_11 (by decide) ?_
  exact r_int hx hb hr hlocks hw dX4_align_18 (Nat.le_of_ble_eq_true rfl) (Nat.le_of_ble_eq_true rfl) (⟨by simp [fAli, ht], ⟨kl, ka, ty, ml, ma, mb, hR0⟩⟩)
theorem in_X4_align_3 : ∀ w ∈ u_ws RX2 TX2 5, w ∈ wsX4_align := by decide +kernel
set_option maxHeartbeats 4000000 in
set_option maxRecDepth 100000 in
theorem d_align_S (l : Launch) (g : GG) (h : Nat → Option va_E) (x : Nat) (S : List TyS) (N : Nat) (hR : DR g h x S) (hS : wfS N S) (t : Int32) (T : TyS) (ht : lk S t = some T) (hk : tK T < 3) : Con l yX4_align wsX4_align 4 100 0 0 [.ref x, .int t] g h (fun v h' => v = some (.int (fAli S t)) ∧ DR g h' x S) := by
  obtain ⟨kl, ka, ty, ml, ma, mb, hR0⟩ := hR
  obtain ⟨hd, hz9, hG, hlen, -⟩ := id hR0
  have hL := hG.1
  have hn9 := AL_len hL
  obtain ⟨⟨mck, hk0⟩, -, -⟩ := id hL
  obtain ⟨a, ha1, ha2, ha3, hc⟩ := DR_lk hR0 ht
  have ha : h a = some (oSi (nI (tSz T)) (nI (tAl T)) (nI (tK T)) (if tK T = 0 then -1 else nI (tTo T)) (nI (tLn T))) := by
    rcases hc with ⟨z1, z2⟩ | ⟨z1, -⟩
    · exact z2
    · exact absurd hk (by omega)
  have hT : isTy h a := cX_ty hc
  refine m_start (cc := cX4_align) (maxL := 3) (ret := (some .int)) (by decide) rfl (Nat.le_of_ble_eq_true rfl) ?_
  intro p e s m below meth c A ls hx hb hr hml hts hown hlocks hin hw hl
  have hl : lv_has ls 3 [(0, .ref x), (1, .int t)] := hl
  have hown : s.vm.findClass RX4 = some m.cls := hown
  refine lv_aload_n hx hb dX4_align_0 rfl (lv_at hl 0 rfl) ?_
  refine lv_iload_n hx hb dX4_align_1 rfl (lv_at hl 1 rfl) ?_
  refine w_call (va_runV (As := [.int t]) (rest := []) ⟨hx, hb, hml, hown, hts⟩ (c_typeAt_S l g h x kl ka ty hd hL t a ha1 hT s.heap.size) (cwV 1 hts gX4_align_X4_typeAt rfl rfl rfl (by decide +kernel) ⟨Nat.le_of_ble_eq_true rfl, Nat.le_of_ble_eq_true rfl⟩) ⟨pr_blind, w_recv hw hd rfl, pr_of hw⟩ rfl rfl hl.1 rfl (lv_room (Nat.le_of_ble_eq_true rfl)) dX4_align_2 ⟨Nat.le_of_ble_eq_true rfl, Nat.le_of_ble_eq_true rfl⟩) hw (fun v h' H locs hp hw => ?_)
  obtain ⟨rfl, rfl⟩ := hp
  refine W.eq (g2 := F0 m 5 ls [.ref a]) rfl ?_
  refine lv_astore_n (lv' := [(2, .ref a), (0, .ref x), (1, .int t)]) hx hb dX4_align_5 rfl hl (by decide) rfl (fun ls hl => ?_)
  refine lv_aload_n hx hb dX4_align_6 rfl (lv_at hl 0 rfl) ?_
  refine lv_ifnonnull (tgt := 14) hx hb dX4_align_7 (by decide) ?_
  refine lv_aload_n hx hb dX4_align_14 rfl (lv_at hl 0 rfl) ?_
  refine w_get (ci := 3) (C := RX2) (T := TX2) (N := 5) (ref := "LayoutDesk$Type") hx hb hts in_X4_align_3 hown hw ha rfl 1 (by decide) (hts (.fieldLink RX4 60 "LayoutDesk$Type" "alignment" "I") (by decide +kernel)) (fun _ h9 => h9) rfl dX4_align_15 ?_
  exact r_int hx hb hr hlocks hw dX4_align_18 (Nat.le_of_ble_eq_true rfl) (Nat.le_of_ble_eq_true rfl) (⟨by simp [fAli, ht], ⟨kl, ka, ty, ml, ma, mb, hR0⟩⟩)
theorem in_X4_align_1 : ∀ w ∈ u_ws RX0 TX0 8, w ∈ wsX4_align := by decide +kernel
set_option maxHeartbeats 4000000 in
set_option maxRecDepth 100000 in
theorem d_align_C (l : Launch) (g : GG) (h : Nat → Option va_E) (x : Nat) (S : List TyS) (N : Nat) (hR : DR g h x S) (hS : wfS N S) (t : Int32) (T : TyS) (ht : lk S t = some T) (hk : 3 ≤ tK T) : Con l yX4_align wsX4_align 4 100 0 0 [.ref x, .int t] g h (fun v h' => v = some (.int (fAli S t)) ∧ DR g h' x S) := by
  obtain ⟨kl, ka, ty, ml, ma, mb, hR0⟩ := hR
  obtain ⟨hd, hz9, hG, hlen, -⟩ := id hR0
  have hL := hG.1
  have hn9 := AL_len hL
  obtain ⟨⟨mck, hk0⟩, -, -⟩ := id hL
  obtain ⟨a, ha1, ha2, ha3, hc⟩ := DR_lk hR0 ht
  obtain ⟨⟨up, fb, ha, huo⟩, hml9, hmm⟩ : (∃ up fb : Int32, h a = some (oCo (nI (tSz T)) (nI (tAl T)) (if tK T = 4 then 1 else 0) (ml t.toNatClampNeg) (if tFi T = true then 0 else 1) (nI (ly T).1) up fb) ∧ uOK (tK T == 4) (ly T).2.2.1 up fb) ∧ (mb t.toNatClampNeg).length = (ly T).2.2.2.length ∧ ∀ (j y : Nat) (m : Nat × Nat × Nat × Nat), (mb t.toNatClampNeg)[j]? = some y → (ly T).2.2.2[j]? = some m → h y = some (oMb (nI m.1) (nI m.2.1) (nI m.2.2.1) (nI m.2.2.2)) := by
    rcases hc with ⟨z1, -⟩ | ⟨z1, z2⟩
    · exact absurd hk (by omega)
    · exact z2
  have hT : isTy h a := Or.inl ⟨_, _, _, _, _, _, _, _, ha⟩
  obtain ⟨hM, hmk, -⟩ := hG.2.2.1 t.toNatClampNeg (by have := (List.getElem?_eq_some_iff.mp ha2).1; omega) ⟨T, ha3, hk⟩
  obtain ⟨⟨mcm, hm0⟩, -, -⟩ := id hM
  refine m_start (cc := cX4_align) (maxL := 3) (ret := (some .int)) (by decide) rfl (Nat.le_of_ble_eq_true rfl) ?_
  intro p e s m below meth c A ls hx hb hr hml hts hown hlocks hin hw hl
  have hl : lv_has ls 3 [(0, .ref x), (1, .int t)] := hl
  have hown : s.vm.findClass RX4 = some m.cls := hown
  refine lv_aload_n hx hb dX4_align_0 rfl (lv_at hl 0 rfl) ?_
  refine lv_iload_n hx hb dX4_align_1 rfl (lv_at hl 1 rfl) ?_
  refine w_call (va_runV (As := [.int t]) (rest := []) ⟨hx, hb, hml, hown, hts⟩ (c_typeAt_S l g h x kl ka ty hd hL t a ha1 hT s.heap.size) (cwV 1 hts gX4_align_X4_typeAt rfl rfl rfl (by decide +kernel) ⟨Nat.le_of_ble_eq_true rfl, Nat.le_of_ble_eq_true rfl⟩) ⟨pr_blind, w_recv hw hd rfl, pr_of hw⟩ rfl rfl hl.1 rfl (lv_room (Nat.le_of_ble_eq_true rfl)) dX4_align_2 ⟨Nat.le_of_ble_eq_true rfl, Nat.le_of_ble_eq_true rfl⟩) hw (fun v h' H locs hp hw => ?_)
  obtain ⟨rfl, rfl⟩ := hp
  refine W.eq (g2 := F0 m 5 ls [.ref a]) rfl ?_
  refine lv_astore_n (lv' := [(2, .ref a), (0, .ref x), (1, .int t)]) hx hb dX4_align_5 rfl hl (by decide) rfl (fun ls hl => ?_)
  refine lv_aload_n hx hb dX4_align_6 rfl (lv_at hl 0 rfl) ?_
  refine lv_ifnonnull (tgt := 14) hx hb dX4_align_7 (by decide) ?_
  refine lv_aload_n hx hb dX4_align_14 rfl (lv_at hl 0 rfl) ?_
  refine w_get (ci := 1) (C := RX0) (T := TX0) (N := 8) (ref := "LayoutDesk$Type") hx hb hts in_X4_align_1 hown hw ha rfl 1 (by decide) (hts (.fieldLink RX4 60 "LayoutDesk$Type" "alignment" "I") (by decide +kernel)) (fun _ h9 => h9) rfl dX4_align_15 ?_
  exact r_int hx hb hr hlocks hw dX4_align_18 (Nat.le_of_ble_eq_true rfl) (Nat.le_of_ble_eq_true rfl) (⟨by simp [fAli, ht], ⟨kl, ka, ty, ml, ma, mb, hR0⟩⟩)
theorem d_align (l : Launch) (g : GG) (h : Nat → Option va_E) (x : Nat) (S : List TyS) (N : Nat) (hR : DR g h x S) (hS : wfS N S) (t : Int32) : Con l yX4_align wsX4_align 4 100 0 0 [.ref x, .int t] g h (fun v h' => v = some (.int (fAli S t)) ∧ DR g h' x S) := by
  cases ht : lk S t with
  | none => exact d_align_N l g h x S N hR hS t ht
  | some T =>
    rcases Nat.lt_or_ge (tK T) 3 with hk | hk
    · exact d_align_S l g h x S N hR hS t T ht hk
    · exact d_align_C l g h x S N hR hS t T ht hk
set_option maxHeartbeats 4000000 in
set_option maxRecDepth 100000 in
theorem d_members_N (l : Launch) (g : GG) (h : Nat → Option va_E) (x : Nat) (S : List TyS) (N : Nat) (hR : DR g h x S) (hS : wfS N S) (r : Int32) (ht : lk S r = none) : Con l yX4_members wsX4_members 5 130 0 0 [.ref x, .int r] g h (fun v h' => v = some (.int (fMbs S r)) ∧ DR g h' x S) := by
  obtain ⟨kl, ka, ty, ml, ma, mb, hR0⟩ := hR
  obtain ⟨hd, hz9, hG, hlen, -⟩ := id hR0
  have hL := hG.1
  have hn9 := AL_len hL
  obtain ⟨⟨mck, hk0⟩, -, -⟩ := id hL
  have htn := DR_lkN hR0 ht
  refine m_start (cc := cX4_members) (maxL := 3) (ret := (some .int)) (by decide) rfl (Nat.le_of_ble_eq_true rfl) ?_
  intro p e s m below meth c A ls hx hb hr hml hts hown hlocks hin hw hl
  have hl : lv_has ls 3 [(0, .ref x), (1, .int r)] := hl
  have hown : s.vm.findClass RX4 = some m.cls := hown
  refine lv_aload_n hx hb dX4_members_0 rfl (lv_at hl 0 rfl) ?_
  refine lv_iload_n hx hb dX4_members_1 rfl (lv_at hl 1 rfl) ?_
  refine w_call (va_runV (As := [.int r]) (rest := []) ⟨hx, hb, hml, hown, hts⟩ (c_recordAt_N l g h x kl ka ty hd hL r (Or.inl htn) s.heap.size) (cwV 1 hts gX4_members_X4_recordAt rfl rfl rfl (by decide +kernel) ⟨Nat.le_of_ble_eq_true rfl, Nat.le_of_ble_eq_true rfl⟩) ⟨pr_blind, w_recv hw hd rfl, pr_of hw⟩ rfl rfl hl.1 rfl (lv_room (Nat.le_of_ble_eq_true rfl)) dX4_members_2 ⟨Nat.le_of_ble_eq_true rfl, Nat.le_of_ble_eq_true rfl⟩) hw (fun v h' H locs hp hw => ?_)
  obtain ⟨rfl, rfl⟩ := hp
  refine W.eq (g2 := F0 m 5 ls [.null]) rfl ?_
  refine lv_astore_nN (lv' := [(2, .null), (0, .ref x), (1, .int r)]) hx hb dX4_members_5 rfl hl (by decide) rfl (fun ls hl => ?_)
  refine lv_aload_nN hx hb dX4_members_6 rfl (lv_at hl 0 rfl) ?_
  refine lv_ifnonnullN hx hb dX4_members_7 ?_
  refine lv_iconst (v := (-1)) hx hb dX4_members_10 (by decide) ?_
  refine lv_goto (tgt := 21) hx hb dX4_members_11 (by decide) ?_
  exact r_int hx hb hr hlocks hw dX4_members_21 (Nat.le_of_ble_eq_true rfl) (Nat.le_of_ble_eq_true rfl) (⟨by simp [fMbs, ht], ⟨kl, ka, ty, ml, ma, mb, hR0⟩⟩)
set_option maxHeartbeats 4000000 in
set_option maxRecDepth 100000 in
theorem d_members_S (l : Launch) (g : GG) (h : Nat → Option va_E) (x : Nat) (S : List TyS) (N : Nat) (hR : DR g h x S) (hS : wfS N S) (r : Int32) (T : TyS) (ht : lk S r = some T) (hk : tK T < 3) : Con l yX4_members wsX4_members 5 130 0 0 [.ref x, .int r] g h (fun v h' => v = some (.int (fMbs S r)) ∧ DR g h' x S) := by
  obtain ⟨kl, ka, ty, ml, ma, mb, hR0⟩ := hR
  obtain ⟨hd, hz9, hG, hlen, -⟩ := id hR0
  have hL := hG.1
  have hn9 := AL_len hL
  obtain ⟨⟨mck, hk0⟩, -, -⟩ := id hL
  obtain ⟨a, ha1, ha2, ha3, hc⟩ := DR_lk hR0 ht
  have ha : h a = some (oSi (nI (tSz T)) (nI (tAl T)) (nI (tK T)) (if tK T = 0 then -1 else nI (tTo T)) (nI (tLn T))) := by
    rcases hc with ⟨z1, z2⟩ | ⟨z1, -⟩
    · exact z2
    · exact absurd hk (by omega)
  have hT : isTy h a := cX_ty hc
  refine m_start (cc := cX4_members) (maxL := 3) (ret := (some .int)) (by decide) rfl (Nat.le_of_ble_eq_true rfl) ?_
  intro p e s m below meth c A ls hx hb hr hml hts hown hlocks hin hw hl
  have hl : lv_has ls 3 [(0, .ref x), (1, .int r)] := hl
  have hown : s.vm.findClass RX4 = some m.cls := hown
  refine lv_aload_n hx hb dX4_members_0 rfl (lv_at hl 0 rfl) ?_
  refine lv_iload_n hx hb dX4_members_1 rfl (lv_at hl 1 rfl) ?_
  refine w_call (va_runV (As := [.int r]) (rest := []) ⟨hx, hb, hml, hown, hts⟩ (c_recordAt_N l g h x kl ka ty hd hL r (Or.inr ⟨a, _, _, _, _, _, ha1, ha⟩) s.heap.size) (cwV 1 hts gX4_members_X4_recordAt rfl rfl rfl (by decide +kernel) ⟨Nat.le_of_ble_eq_true rfl, Nat.le_of_ble_eq_true rfl⟩) ⟨pr_blind, w_recv hw hd rfl, pr_of hw⟩ rfl rfl hl.1 rfl (lv_room (Nat.le_of_ble_eq_true rfl)) dX4_members_2 ⟨Nat.le_of_ble_eq_true rfl, Nat.le_of_ble_eq_true rfl⟩) hw (fun v h' H locs hp hw => ?_)
  obtain ⟨rfl, rfl⟩ := hp
  refine W.eq (g2 := F0 m 5 ls [.null]) rfl ?_
  refine lv_astore_nN (lv' := [(2, .null), (0, .ref x), (1, .int r)]) hx hb dX4_members_5 rfl hl (by decide) rfl (fun ls hl => ?_)
  refine lv_aload_nN hx hb dX4_members_6 rfl (lv_at hl 0 rfl) ?_
  refine lv_ifnonnullN hx hb dX4_members_7 ?_
  refine lv_iconst (v := (-1)) hx hb dX4_members_10 (by decide) ?_
  refine lv_goto (tgt := 21) hx hb dX4_members_11 (by decide) ?_
  exact r_int hx hb hr hlocks hw dX4_members_21 (Nat.le_of_ble_eq_true rfl) (Nat.le_of_ble_eq_true rfl) (⟨by simp [fMbs, ht, show ¬ 3 ≤ tK T by omega], ⟨kl, ka, ty, ml, ma, mb, hR0⟩⟩)
theorem in_X4_members_1 : ∀ w ∈ u_ws RX0 TX0 8, w ∈ wsX4_members := by decide +kernel
set_option maxHeartbeats 4000000 in
set_option maxRecDepth 100000 in
theorem d_members_C (l : Launch) (g : GG) (h : Nat → Option va_E) (x : Nat) (S : List TyS) (N : Nat) (hR : DR g h x S) (hS : wfS N S) (r : Int32) (T : TyS) (ht : lk S r = some T) (hk : 3 ≤ tK T) : Con l yX4_members wsX4_members 5 130 0 0 [.ref x, .int r] g h (fun v h' => v = some (.int (fMbs S r)) ∧ DR g h' x S) := by
  obtain ⟨kl, ka, ty, ml, ma, mb, hR0⟩ := hR
  obtain ⟨hd, hz9, hG, hlen, -⟩ := id hR0
  have hL := hG.1
  have hn9 := AL_len hL
  obtain ⟨⟨mck, hk0⟩, -, -⟩ := id hL
  obtain ⟨a, ha1, ha2, ha3, hc⟩ := DR_lk hR0 ht
  obtain ⟨⟨up, fb, ha, huo⟩, hml9, hmm⟩ : (∃ up fb : Int32, h a = some (oCo (nI (tSz T)) (nI (tAl T)) (if tK T = 4 then 1 else 0) (ml r.toNatClampNeg) (if tFi T = true then 0 else 1) (nI (ly T).1) up fb) ∧ uOK (tK T == 4) (ly T).2.2.1 up fb) ∧ (mb r.toNatClampNeg).length = (ly T).2.2.2.length ∧ ∀ (j y : Nat) (m : Nat × Nat × Nat × Nat), (mb r.toNatClampNeg)[j]? = some y → (ly T).2.2.2[j]? = some m → h y = some (oMb (nI m.1) (nI m.2.1) (nI m.2.2.1) (nI m.2.2.2)) := by
    rcases hc with ⟨z1, -⟩ | ⟨z1, z2⟩
    · exact absurd hk (by omega)
    · exact z2
  have hT : isTy h a := Or.inl ⟨_, _, _, _, _, _, _, _, ha⟩
  obtain ⟨hM, hmk, -⟩ := hG.2.2.1 r.toNatClampNeg (by have := (List.getElem?_eq_some_iff.mp ha2).1; omega) ⟨T, ha3, hk⟩
  obtain ⟨⟨mcm, hm0⟩, -, -⟩ := id hM
  refine m_start (cc := cX4_members) (maxL := 3) (ret := (some .int)) (by decide) rfl (Nat.le_of_ble_eq_true rfl) ?_
  intro p e s m below meth c A ls hx hb hr hml hts hown hlocks hin hw hl
  have hl : lv_has ls 3 [(0, .ref x), (1, .int r)] := hl
  have hown : s.vm.findClass RX4 = some m.cls := hown
  refine lv_aload_n hx hb dX4_members_0 rfl (lv_at hl 0 rfl) ?_
  refine lv_iload_n hx hb dX4_members_1 rfl (lv_at hl 1 rfl) ?_
  refine w_call (va_runV (As := [.int r]) (rest := []) ⟨hx, hb, hml, hown, hts⟩ (c_recordAt_S l g h x kl ka ty hd hL r a (ml r.toNatClampNeg) (nI (tSz T)) (nI (tAl T)) (if tK T = 4 then 1 else 0) (if tFi T = true then 0 else 1) (nI (ly T).1) up fb ha1 ha s.heap.size) (cwV 1 hts gX4_members_X4_recordAt rfl rfl rfl (by decide +kernel) ⟨Nat.le_of_ble_eq_true rfl, Nat.le_of_ble_eq_true rfl⟩) ⟨pr_blind, w_recv hw hd rfl, pr_of hw⟩ rfl rfl hl.1 rfl (lv_room (Nat.le_of_ble_eq_true rfl)) dX4_members_2 ⟨Nat.le_of_ble_eq_true rfl, Nat.le_of_ble_eq_true rfl⟩) hw (fun v h' H locs hp hw => ?_)
  obtain ⟨rfl, rfl⟩ := hp
  refine W.eq (g2 := F0 m 5 ls [.ref a]) rfl ?_
  refine lv_astore_n (lv' := [(2, .ref a), (0, .ref x), (1, .int r)]) hx hb dX4_members_5 rfl hl (by decide) rfl (fun ls hl => ?_)
  refine lv_aload_n hx hb dX4_members_6 rfl (lv_at hl 0 rfl) ?_
  refine lv_ifnonnull (tgt := 14) hx hb dX4_members_7 (by decide) ?_
  refine lv_aload_n hx hb dX4_members_14 rfl (lv_at hl 0 rfl) ?_
  refine w_getN (ci := 1) (C := RX0) (T := TX0) (N := 8) (ref := "LayoutDesk$Compound") hx hb hts in_X4_members_1 hown hw ha rfl 3 (by decide) (w_nw hw (w := .fieldLinkNest "LayoutDesk" 110 "LayoutDesk$Compound" "members" "Ljava/util/ArrayList;" "LayoutDesk") (by decide +kernel)) (fun _ h9 => h9) rfl dX4_members_15 ?_
  refine w_call (va_runV (As := []) (rest := []) ⟨hx, hb, hml, hown, hts⟩ (c_sizeL l g h (ml r.toNatClampNeg) (ma r.toNatClampNeg) (mb r.toNatClampNeg) hM H.size) (cwV 0 hts gX4_members_Jx4a65c_size_8abf5 rfl rfl rfl (by decide +kernel) ⟨Nat.le_of_ble_eq_true rfl, Nat.le_of_ble_eq_true rfl⟩) ⟨pr_blind, w_recv hw hm0 rfl, pr_of hw⟩ rfl rfl hl.1 rfl (lv_room (Nat.le_of_ble_eq_true rfl)) dX4_members_18 ⟨Nat.le_of_ble_eq_true rfl, Nat.le_of_ble_eq_true rfl⟩) hw (fun v h' H locs hp hw => ?_)
  obtain ⟨rfl, rfl⟩ := hp
  refine W.eq (g2 := F0 m 21 ls [.int (nI (mb r.toNatClampNeg).length)]) rfl ?_
  exact r_int hx hb hr hlocks hw dX4_members_21 (Nat.le_of_ble_eq_true rfl) (Nat.le_of_ble_eq_true rfl) (⟨by simp [fMbs, ht, hk, hml9], ⟨kl, ka, ty, ml, ma, mb, hR0⟩⟩)
theorem d_members (l : Launch) (g : GG) (h : Nat → Option va_E) (x : Nat) (S : List TyS) (N : Nat) (hR : DR g h x S) (hS : wfS N S) (r : Int32) : Con l yX4_members wsX4_members 5 130 0 0 [.ref x, .int r] g h (fun v h' => v = some (.int (fMbs S r)) ∧ DR g h' x S) := by
  cases ht : lk S r with
  | none => exact d_members_N l g h x S N hR hS r ht
  | some T =>
    rcases Nat.lt_or_ge (tK T) 3 with hk | hk
    · exact d_members_S l g h x S N hR hS r T ht hk
    · exact d_members_C l g h x S N hR hS r T ht hk
set_option maxHeartbeats 4000000 in
set_option maxRecDepth 100000 in
theorem d_member_N (l : Launch) (g : GG) (h : Nat → Option va_E) (x : Nat) (S : List TyS) (N : Nat) (hR : DR g h x S) (hS : wfS N S) (r k wh : Int32) (ht : lk S r = none) : Con l yX4_member wsX4_member 5 130 0 0 [.ref x, .int r, .int k, .int wh] g h (fun v h' => v = some (.int (fMbr S r k wh)) ∧ DR g h' x S) := by
  obtain ⟨kl, ka, ty, ml, ma, mb, hR0⟩ := hR
  obtain ⟨hd, hz9, hG, hlen, -⟩ := id hR0
  have hL := hG.1
  have hn9 := AL_len hL
  obtain ⟨⟨mck, hk0⟩, -, -⟩ := id hL
  have htn := DR_lkN hR0 ht
  refine m_start (cc := cX4_member) (maxL := 6) (ret := (some .int)) (by decide) rfl (Nat.le_of_ble_eq_true rfl) ?_
  intro p e s m below meth c A ls hx hb hr hml hts hown hlocks hin hw hl
  have hl : lv_has ls 6 [(0, .ref x), (1, .int r), (2, .int k), (3, .int wh)] := hl
  have hown : s.vm.findClass RX4 = some m.cls := hown
  refine lv_aload_n hx hb dX4_member_0 rfl (lv_at hl 0 rfl) ?_
  refine lv_iload_n hx hb dX4_member_1 rfl (lv_at hl 1 rfl) ?_
  refine w_call (va_runV (As := [.int r]) (rest := []) ⟨hx, hb, hml, hown, hts⟩ (c_recordAt_N l g h x kl ka ty hd hL r (Or.inl htn) s.heap.size) (cwV 1 hts gX4_member_X4_recordAt rfl rfl rfl (by decide +kernel) ⟨Nat.le_of_ble_eq_true rfl, Nat.le_of_ble_eq_true rfl⟩) ⟨pr_blind, w_recv hw hd rfl, pr_of hw⟩ rfl rfl hl.1 rfl (lv_room (Nat.le_of_ble_eq_true rfl)) dX4_member_2 ⟨Nat.le_of_ble_eq_true rfl, Nat.le_of_ble_eq_true rfl⟩) hw (fun v h' H locs hp hw => ?_)
  obtain ⟨rfl, rfl⟩ := hp
  refine W.eq (g2 := F0 m 5 ls [.null]) rfl ?_
  refine lv_astoreN (lv' := [(4, .null), (0, .ref x), (1, .int r), (2, .int k), (3, .int wh)]) hx hb dX4_member_5 hl (by decide) rfl (fun ls hl => ?_)
  refine lv_aloadN hx hb dX4_member_7 (lv_at hl 0 rfl) ?_
  refine lv_ifnullN (tgt := 28) hx hb dX4_member_9 (by decide) ?_
  refine lv_iconst (v := (-1)) hx hb dX4_member_28 (by decide) ?_
  exact r_int hx hb hr hlocks hw dX4_member_29 (Nat.le_of_ble_eq_true rfl) (Nat.le_of_ble_eq_true rfl) (⟨by simp [fMbr, ht], ⟨kl, ka, ty, ml, ma, mb, hR0⟩⟩)
set_option maxHeartbeats 4000000 in
set_option maxRecDepth 100000 in
theorem d_member_S (l : Launch) (g : GG) (h : Nat → Option va_E) (x : Nat) (S : List TyS) (N : Nat) (hR : DR g h x S) (hS : wfS N S) (r k wh : Int32) (T : TyS) (ht : lk S r = some T) (hk : tK T < 3) : Con l yX4_member wsX4_member 5 130 0 0 [.ref x, .int r, .int k, .int wh] g h (fun v h' => v = some (.int (fMbr S r k wh)) ∧ DR g h' x S) := by
  obtain ⟨kl, ka, ty, ml, ma, mb, hR0⟩ := hR
  obtain ⟨hd, hz9, hG, hlen, -⟩ := id hR0
  have hL := hG.1
  have hn9 := AL_len hL
  obtain ⟨⟨mck, hk0⟩, -, -⟩ := id hL
  obtain ⟨a, ha1, ha2, ha3, hc⟩ := DR_lk hR0 ht
  have ha : h a = some (oSi (nI (tSz T)) (nI (tAl T)) (nI (tK T)) (if tK T = 0 then -1 else nI (tTo T)) (nI (tLn T))) := by
    rcases hc with ⟨z1, z2⟩ | ⟨z1, -⟩
    · exact z2
    · exact absurd hk (by omega)
  have hT : isTy h a := cX_ty hc
  refine m_start (cc := cX4_member) (maxL := 6) (ret := (some .int)) (by decide) rfl (Nat.le_of_ble_eq_true rfl) ?_
  intro p e s m below meth c A ls hx hb hr hml hts hown hlocks hin hw hl
  have hl : lv_has ls 6 [(0, .ref x), (1, .int r), (2, .int k), (3, .int wh)] := hl
  have hown : s.vm.findClass RX4 = some m.cls := hown
  refine lv_aload_n hx hb dX4_member_0 rfl (lv_at hl 0 rfl) ?_
  refine lv_iload_n hx hb dX4_member_1 rfl (lv_at hl 1 rfl) ?_
  refine w_call (va_runV (As := [.int r]) (rest := []) ⟨hx, hb, hml, hown, hts⟩ (c_recordAt_N l g h x kl ka ty hd hL r (Or.inr ⟨a, _, _, _, _, _, ha1, ha⟩) s.heap.size) (cwV 1 hts gX4_member_X4_recordAt rfl rfl rfl (by decide +kernel) ⟨Nat.le_of_ble_eq_true rfl, Nat.le_of_ble_eq_true rfl⟩) ⟨pr_blind, w_recv hw hd rfl, pr_of hw⟩ rfl rfl hl.1 rfl (lv_room (Nat.le_of_ble_eq_true rfl)) dX4_member_2 ⟨Nat.le_of_ble_eq_true rfl, Nat.le_of_ble_eq_true rfl⟩) hw (fun v h' H locs hp hw => ?_)
  obtain ⟨rfl, rfl⟩ := hp
  refine W.eq (g2 := F0 m 5 ls [.null]) rfl ?_
  refine lv_astoreN (lv' := [(4, .null), (0, .ref x), (1, .int r), (2, .int k), (3, .int wh)]) hx hb dX4_member_5 hl (by decide) rfl (fun ls hl => ?_)
  refine lv_aloadN hx hb dX4_member_7 (lv_at hl 0 rfl) ?_
  refine lv_ifnullN (tgt := 28) hx hb dX4_member_9 (by decide) ?_
  refine lv_iconst (v := (-1)) hx hb dX4_member_28 (by decide) ?_
  exact r_int hx hb hr hlocks hw dX4_member_29 (Nat.le_of_ble_eq_true rfl) (Nat.le_of_ble_eq_true rfl) (⟨by simp [fMbr, ht, show ¬ 3 ≤ tK T by omega], ⟨kl, ka, ty, ml, ma, mb, hR0⟩⟩)
theorem in_X4_member_1 : ∀ w ∈ u_ws RX0 TX0 8, w ∈ wsX4_member := by decide +kernel
theorem in_X4_member_2 : ∀ w ∈ u_ws RX1 TX1 4, w ∈ wsX4_member := by decide +kernel
set_option maxHeartbeats 4000000 in
set_option maxRecDepth 100000 in
theorem d_member_C (l : Launch) (g : GG) (h : Nat → Option va_E) (x : Nat) (S : List TyS) (N : Nat) (hR : DR g h x S) (hS : wfS N S) (r k wh : Int32) (T : TyS) (ht : lk S r = some T) (hk : 3 ≤ tK T) : Con l yX4_member wsX4_member 5 130 0 0 [.ref x, .int r, .int k, .int wh] g h (fun v h' => v = some (.int (fMbr S r k wh)) ∧ DR g h' x S) := by
  obtain ⟨kl, ka, ty, ml, ma, mb, hR0⟩ := hR
  obtain ⟨hd, hz9, hG, hlen, -⟩ := id hR0
  have hL := hG.1
  have hn9 := AL_len hL
  obtain ⟨⟨mck, hk0⟩, -, -⟩ := id hL
  obtain ⟨a, ha1, ha2, ha3, hc⟩ := DR_lk hR0 ht
  obtain ⟨⟨up, fb, ha, huo⟩, hml9, hmm⟩ : (∃ up fb : Int32, h a = some (oCo (nI (tSz T)) (nI (tAl T)) (if tK T = 4 then 1 else 0) (ml r.toNatClampNeg) (if tFi T = true then 0 else 1) (nI (ly T).1) up fb) ∧ uOK (tK T == 4) (ly T).2.2.1 up fb) ∧ (mb r.toNatClampNeg).length = (ly T).2.2.2.length ∧ ∀ (j y : Nat) (m : Nat × Nat × Nat × Nat), (mb r.toNatClampNeg)[j]? = some y → (ly T).2.2.2[j]? = some m → h y = some (oMb (nI m.1) (nI m.2.1) (nI m.2.2.1) (nI m.2.2.2)) := by
    rcases hc with ⟨z1, -⟩ | ⟨z1, z2⟩
    · exact absurd hk (by omega)
    · exact z2
  have hT : isTy h a := Or.inl ⟨_, _, _, _, _, _, _, _, ha⟩
  obtain ⟨hM, hmk, -⟩ := hG.2.2.1 r.toNatClampNeg (by have := (List.getElem?_eq_some_iff.mp ha2).1; omega) ⟨T, ha3, hk⟩
  obtain ⟨⟨mcm, hm0⟩, -, -⟩ := id hM
  refine m_start (cc := cX4_member) (maxL := 6) (ret := (some .int)) (by decide) rfl (Nat.le_of_ble_eq_true rfl) ?_
  intro p e s m below meth c A ls hx hb hr hml hts hown hlocks hin hw hl
  have hl : lv_has ls 6 [(0, .ref x), (1, .int r), (2, .int k), (3, .int wh)] := hl
  have hown : s.vm.findClass RX4 = some m.cls := hown
  refine lv_aload_n hx hb dX4_member_0 rfl (lv_at hl 0 rfl) ?_
  refine lv_iload_n hx hb dX4_member_1 rfl (lv_at hl 1 rfl) ?_
  refine w_call (va_runV (As := [.int r]) (rest := []) ⟨hx, hb, hml, hown, hts⟩ (c_recordAt_S l g h x kl ka ty hd hL r a (ml r.toNatClampNeg) (nI (tSz T)) (nI (tAl T)) (if tK T = 4 then 1 else 0) (if tFi T = true then 0 else 1) (nI (ly T).1) up fb ha1 ha s.heap.size) (cwV 1 hts gX4_member_X4_recordAt rfl rfl rfl (by decide +kernel) ⟨Nat.le_of_ble_eq_true rfl, Nat.le_of_ble_eq_true rfl⟩) ⟨pr_blind, w_recv hw hd rfl, pr_of hw⟩ rfl rfl hl.1 rfl (lv_room (Nat.le_of_ble_eq_true rfl)) dX4_member_2 ⟨Nat.le_of_ble_eq_true rfl, Nat.le_of_ble_eq_true rfl⟩) hw (fun v h' H locs hp hw => ?_)
  obtain ⟨rfl, rfl⟩ := hp
  refine W.eq (g2 := F0 m 5 ls [.ref a]) rfl ?_
  refine lv_astore (lv' := [(4, .ref a), (0, .ref x), (1, .int r), (2, .int k), (3, .int wh)]) hx hb dX4_member_5 hl (by decide) rfl (fun ls hl => ?_)
  refine lv_aload hx hb dX4_member_7 (lv_at hl 0 rfl) ?_
  refine lv_ifnull hx hb dX4_member_9 ?_
  refine lv_iload_n hx hb dX4_member_12 rfl (lv_at hl 3 rfl) ?_
  refine lv_if_lt (tgt := 28) hx hb dX4_member_13 (by decide) (fun c13 => ?_) (fun c13 => ?_)
  · refine lv_iconst (v := (-1)) hx hb dX4_member_28 (by decide) ?_
    exact r_int hx hb hr hlocks hw dX4_member_29 (Nat.le_of_ble_eq_true rfl) (Nat.le_of_ble_eq_true rfl) (⟨by simp [fMbr, ht, hk, lk_neg c13], ⟨kl, ka, ty, ml, ma, mb, hR0⟩⟩)
  · refine lv_iload_n hx hb dX4_member_16 rfl (lv_at hl 3 rfl) ?_
    refine lv_aload hx hb dX4_member_17 (lv_at hl 0 rfl) ?_
    refine w_getN (ci := 1) (C := RX0) (T := TX0) (N := 8) (ref := "LayoutDesk$Compound") hx hb hts in_X4_member_1 hown hw ha rfl 3 (by decide) (w_nw hw (w := .fieldLinkNest "LayoutDesk" 110 "LayoutDesk$Compound" "members" "Ljava/util/ArrayList;" "LayoutDesk") (by decide +kernel)) (fun _ h9 => h9) rfl dX4_member_19 ?_
    refine w_call (va_runV (As := []) (rest := [.int k]) ⟨hx, hb, hml, hown, hts⟩ (c_sizeL l g h (ml r.toNatClampNeg) (ma r.toNatClampNeg) (mb r.toNatClampNeg) hM H.size) (cwV 0 hts gX4_member_Jx4a65c_size_8abf5 rfl rfl rfl (by decide +kernel) ⟨Nat.le_of_ble_eq_true rfl, Nat.le_of_ble_eq_true rfl⟩) ⟨pr_blind, w_recv hw hm0 rfl, pr_of hw⟩ rfl rfl hl.1 rfl (lv_room (Nat.le_of_ble_eq_true rfl)) dX4_member_22 ⟨Nat.le_of_ble_eq_true rfl, Nat.le_of_ble_eq_true rfl⟩) hw (fun v h' H locs hp hw => ?_)
    obtain ⟨rfl, rfl⟩ := hp
    refine W.eq (g2 := F0 m 25 ls [.int (nI (mb r.toNatClampNeg).length), .int k]) rfl ?_
    refine lv_icmp_lt (tgt := 30) hx hb dX4_member_25 (by decide) (fun c25 => ?_) (fun c25 => ?_)
    · obtain ⟨y, hy⟩ := lk_some c13 c25 (by have := AL_len hM; omega)
      obtain ⟨mm, hmm1⟩ : ∃ mm, (ly T).2.2.2[k.toNatClampNeg]? = some mm := ⟨_, List.getElem?_eq_getElem (by have := (lk_lt hy (by have := AL_len hM; omega)).2.2; omega)⟩
      have hmv := hmm k.toNatClampNeg y mm (lk_ofS hy).2 hmm1
      have hlk : lk (ly T).2.2.2 k = some mm := by unfold lk; rw [if_neg c13]; exact hmm1
      refine lv_aload hx hb dX4_member_30 (lv_at hl 0 rfl) ?_
      refine w_getN (ci := 1) (C := RX0) (T := TX0) (N := 8) (ref := "LayoutDesk$Compound") hx hb hts in_X4_member_1 hown hw ha rfl 3 (by decide) (w_nw hw (w := .fieldLinkNest "LayoutDesk" 110 "LayoutDesk$Compound" "members" "Ljava/util/ArrayList;" "LayoutDesk") (by decide +kernel)) (fun _ h9 => h9) rfl dX4_member_32 ?_
      refine lv_iload_n hx hb dX4_member_35 rfl (lv_at hl 3 rfl) ?_
      refine w_call (va_runV (As := [.int k]) (rest := []) ⟨hx, hb, hml, hown, hts⟩ (c_getL l g h (ml r.toNatClampNeg) (ma r.toNatClampNeg) (mb r.toNatClampNeg) hM k y hy H.size) (cwV 1 hts gX4_member_Jx4a65c_get_915e3 rfl rfl rfl (by decide +kernel) ⟨Nat.le_of_ble_eq_true rfl, Nat.le_of_ble_eq_true rfl⟩) ⟨pr_blind, w_recv hw hm0 rfl, pr_of hw⟩ rfl rfl hl.1 rfl (lv_room (Nat.le_of_ble_eq_true rfl)) dX4_member_36 ⟨Nat.le_of_ble_eq_true rfl, Nat.le_of_ble_eq_true rfl⟩) hw (fun v h' H locs hp hw => ?_)
      obtain ⟨rfl, rfl⟩ := hp
      refine W.eq (g2 := F0 m 39 ls [.ref y]) rfl ?_
      refine va_castY (C := RX1) hx hb hown (hts (.classLink RX4 86 "LayoutDesk$Member") (by decide +kernel)) (w_nwN hw (by decide +kernel)) (w_recv hw hmv rfl) dX4_member_39 ?_
      refine lv_astore (lv' := [(5, .ref y), (4, .ref a), (0, .ref x), (1, .int r), (2, .int k), (3, .int wh)]) hx hb dX4_member_42 hl (by decide) rfl (fun ls hl => ?_)
      refine lv_iload_n hx hb dX4_member_44 rfl (lv_at hl 5 rfl) ?_
      by_cases w0 : wh = 0
      · refine lv_tableIn (tgt := 76) hx hb dX4_member_45 (by rw [w0]; decide) (by rw [w0]; decide) (by rw [w0]; rfl) (by decide) ?_
        refine lv_aload hx hb dX4_member_76 (lv_at hl 0 rfl) ?_
        refine w_getN (ci := 2) (C := RX1) (T := TX1) (N := 4) (ref := "LayoutDesk$Member") hx hb hts in_X4_member_2 hown hw hmv rfl 0 (by decide) (w_nw hw (w := .fieldLinkNest "LayoutDesk" 139 "LayoutDesk$Member" "place" "I" "LayoutDesk") (by decide +kernel)) (fun _ h9 => h9) rfl dX4_member_78 ?_
        exact r_int hx hb hr hlocks hw dX4_member_81 (Nat.le_of_ble_eq_true rfl) (Nat.le_of_ble_eq_true rfl) (⟨by simp [fMbr, ht, hk, hlk, w0], ⟨kl, ka, ty, ml, ma, mb, hR0⟩⟩)
      by_cases w1 : wh = 1
      · refine lv_tableIn (tgt := 82) hx hb dX4_member_45 (by rw [w1]; decide) (by rw [w1]; decide) (by rw [w1]; rfl) (by decide) ?_
        refine lv_aload hx hb dX4_member_82 (lv_at hl 0 rfl) ?_
        refine w_getN (ci := 2) (C := RX1) (T := TX1) (N := 4) (ref := "LayoutDesk$Member") hx hb hts in_X4_member_2 hown hw hmv rfl 1 (by decide) (w_nw hw (w := .fieldLinkNest "LayoutDesk" 142 "LayoutDesk$Member" "type" "I" "LayoutDesk") (by decide +kernel)) (fun _ h9 => h9) rfl dX4_member_84 ?_
        exact r_int hx hb hr hlocks hw dX4_member_87 (Nat.le_of_ble_eq_true rfl) (Nat.le_of_ble_eq_true rfl) (⟨by simp [fMbr, ht, hk, hlk, w0, w1], ⟨kl, ka, ty, ml, ma, mb, hR0⟩⟩)
      by_cases w2 : wh = 2
      · refine lv_tableIn (tgt := 88) hx hb dX4_member_45 (by rw [w2]; decide) (by rw [w2]; decide) (by rw [w2]; rfl) (by decide) ?_
        refine lv_aload hx hb dX4_member_88 (lv_at hl 0 rfl) ?_
        refine w_getN (ci := 2) (C := RX1) (T := TX1) (N := 4) (ref := "LayoutDesk$Member") hx hb hts in_X4_member_2 hown hw hmv rfl 2 (by decide) (w_nw hw (w := .fieldLinkNest "LayoutDesk" 145 "LayoutDesk$Member" "lowestBit" "I" "LayoutDesk") (by decide +kernel)) (fun _ h9 => h9) rfl dX4_member_90 ?_
        exact r_int hx hb hr hlocks hw dX4_member_93 (Nat.le_of_ble_eq_true rfl) (Nat.le_of_ble_eq_true rfl) (⟨by simp [fMbr, ht, hk, hlk, w0, w1, w2], ⟨kl, ka, ty, ml, ma, mb, hR0⟩⟩)
      by_cases w3 : wh = 3
      · refine lv_tableIn (tgt := 94) hx hb dX4_member_45 (by rw [w3]; decide) (by rw [w3]; decide) (by rw [w3]; rfl) (by decide) ?_
        refine lv_aload hx hb dX4_member_94 (lv_at hl 0 rfl) ?_
        refine w_getN (ci := 2) (C := RX1) (T := TX1) (N := 4) (ref := "LayoutDesk$Member") hx hb hts in_X4_member_2 hown hw hmv rfl 3 (by decide) (w_nw hw (w := .fieldLinkNest "LayoutDesk" 148 "LayoutDesk$Member" "width" "I" "LayoutDesk") (by decide +kernel)) (fun _ h9 => h9) rfl dX4_member_96 ?_
        exact r_int hx hb hr hlocks hw dX4_member_99 (Nat.le_of_ble_eq_true rfl) (Nat.le_of_ble_eq_true rfl) (⟨by simp [fMbr, ht, hk, hlk, w0, w1, w2, w3], ⟨kl, ka, ty, ml, ma, mb, hR0⟩⟩)
      refine lv_tableOut (tgt := 100) hx hb dX4_member_45 (sw4 w0 w1 w2 w3) (by decide) ?_
      refine lv_iconst (v := (-1)) hx hb dX4_member_100 (by decide) ?_
      exact r_int hx hb hr hlocks hw dX4_member_101 (Nat.le_of_ble_eq_true rfl) (Nat.le_of_ble_eq_true rfl) (⟨by simp [fMbr, ht, hk, hlk, w0, w1, w2, w3], ⟨kl, ka, ty, ml, ma, mb, hR0⟩⟩)
    · refine lv_iconst (v := (-1)) hx hb dX4_member_28 (by decide) ?_
      exact r_int hx hb hr hlocks hw dX4_member_29 (Nat.le_of_ble_eq_true rfl) (Nat.le_of_ble_eq_true rfl) (⟨by simp [fMbr, ht, hk, lk_ge c13 (show ¬ k < nI (ly T).2.2.2.length by rw [← hml9]; exact c25) (by have := AL_len hM; omega)], ⟨kl, ka, ty, ml, ma, mb, hR0⟩⟩)
theorem d_member (l : Launch) (g : GG) (h : Nat → Option va_E) (x : Nat) (S : List TyS) (N : Nat) (hR : DR g h x S) (hS : wfS N S) (r k wh : Int32) : Con l yX4_member wsX4_member 5 130 0 0 [.ref x, .int r, .int k, .int wh] g h (fun v h' => v = some (.int (fMbr S r k wh)) ∧ DR g h' x S) := by
  cases ht : lk S r with
  | none => exact d_member_N l g h x S N hR hS r k wh ht
  | some T =>
    rcases Nat.lt_or_ge (tK T) 3 with hk | hk
    · exact d_member_S l g h x S N hR hS r k wh T ht hk
    · exact d_member_C l g h x S N hR hS r k wh T ht hk
