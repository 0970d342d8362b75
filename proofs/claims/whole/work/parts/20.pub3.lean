/-! the desk: separate, finish, field, bits -/
set_option maxHeartbeats 4000000 in
set_option maxRecDepth 100000 in
theorem d_separate_N (l : Launch) (g : GG) (h : Nat → Option va_E) (x : Nat) (S : List TyS) (N : Nat) (hR : DR g h x S) (hS : wfS N S) (r : Int32) (hto : lkO S r = none) : Con l yX4_separate wsX4_separate 6 160 0 0 [.ref x, .int r] g h (fun v h' => v = some (.int (fSep S r).1) ∧ DR g h' x (fSep S r).2) := by
  obtain ⟨kl, ka, ty, ml, ma, mb, hR0⟩ := hR
  obtain ⟨hd, hz9, hG, hlen, -⟩ := id hR0
  have hL := hG.1
  have hn9 := AL_len hL
  obtain ⟨⟨mck, hk0⟩, -, -⟩ := id hL
  have hno := DR_noOpen hR0 hto
  refine m_start (cc := cX4_separate) (maxL := 3) (ret := (some .boolean)) (by decide) rfl (Nat.le_of_ble_eq_true rfl) ?_
  intro p e s m below meth c A ls hx hb hr hml hts hown hlocks hin hw hl
  have hl : lv_has ls 3 [(0, .ref x), (1, .int r)] := hl
  have hown : s.vm.findClass RX4 = some m.cls := hown
  refine lv_aload_n hx hb dX4_separate_0 rfl (lv_at hl 0 rfl) ?_
  refine lv_iload_n hx hb dX4_separate_1 rfl (lv_at hl 1 rfl) ?_
  refine w_call (va_runV (As := [.int r]) (rest := []) ⟨hx, hb, hml, hown, hts⟩ (c_open_N l g h x kl ka ty hd hL r hno s.heap.size) (cwV 1 hts gX4_separate_X4_openRecordAt rfl rfl rfl (by decide +kernel) ⟨Nat.le_of_ble_eq_true rfl, Nat.le_of_ble_eq_true rfl⟩) ⟨pr_blind, w_recv hw hd rfl, pr_of hw⟩ rfl rfl hl.1 rfl (lv_room (Nat.le_of_ble_eq_true rfl)) dX4_separate_2 ⟨Nat.le_of_ble_eq_true rfl, Nat.le_of_ble_eq_true rfl⟩) hw (fun v h' H locs hp hw => ?_)
  obtain ⟨rfl, rfl⟩ := hp
  refine W.eq (g2 := F0 m 5 ls [.null]) rfl ?_
  refine lv_astore_nN (lv' := [(2, .null), (0, .ref x), (1, .int r)]) hx hb dX4_separate_5 rfl hl (by decide) rfl (fun ls hl => ?_)
  refine lv_aload_nN hx hb dX4_separate_6 rfl (lv_at hl 0 rfl) ?_
  refine lv_ifnonnullN hx hb dX4_separate_7 ?_
  refine lv_iconst (v := 0) hx hb dX4_separate_10 (by decide) ?_
  have e9 : fSep S r = (0, S) := by simp [fSep, hto]
  exact r_bool hx hb hr hlocks hw rfl dX4_separate_11 (Nat.le_of_ble_eq_true rfl) (Nat.le_of_ble_eq_true rfl) (⟨by rw [e9], by rw [e9]; exact ⟨kl, ka, ty, ml, ma, mb, hR0⟩⟩)
set_option maxHeartbeats 4000000 in
set_option maxRecDepth 100000 in
theorem d_separate_O (l : Launch) (g : GG) (h : Nat → Option va_E) (x : Nat) (S : List TyS) (N : Nat) (hR : DR g h x S) (hS : wfS N S) (r : Int32) (T : TyS) (hto : lkO S r = some T) : Con l yX4_separate wsX4_separate 6 160 0 0 [.ref x, .int r] g h (fun v h' => v = some (.int (fSep S r).1) ∧ DR g h' x (fSep S r).2) := by
  obtain ⟨ht, hk, hfi⟩ := lkO_some hto
  obtain ⟨kl, ka, ty, ml, ma, mb, hR0⟩ := hR
  obtain ⟨hd, hz9, hG, hlen, -⟩ := id hR0
  have hL := hG.1
  have hn9 := AL_len hL
  obtain ⟨⟨mck, hk0⟩, -, -⟩ := id hL
  obtain ⟨a, ha1, ha2, ha3, hc⟩ := DR_lk hR0 ht
  obtain ⟨⟨up, fb, ha, huo⟩, hml9, hmm⟩ : (∃ up fb : Int32, h a = some (oCo (nI (tSz T)) (nI (tAl T)) (if tK T = 4 then 1 else 0) (ml r.toNatClampNeg) (if tFi T = true then 0 else 1) (nI (ly T).1) up fb) ∧ uOK (tK T == 4) (ly T).2.2.1 up fb) ∧ (mb r.toNatClampNeg).length = (ly T).2.2.2.length ∧ ∀ (j y : Nat) (m : Nat × Nat × Nat × Nat), (mb r.toNatClampNeg)[j]? = some y → (ly T).2.2.2[j]? = some m → h y = some (oMb (nI m.1) (nI m.2.1) (nI m.2.2.1) (nI m.2.2.2)) := by
    rcases hc with ⟨z1, -⟩ | ⟨z1, z2⟩
    · exact absurd hk (by omega)
    · exact z2
  have hT : isTy h a := Or.inl ⟨_, _, _, _, _, _, _, _, ha⟩
  obtain ⟨hM, hmk, -⟩ := hG.2.2.1 r.toNatClampNeg (by have := (List.getElem?_eq_some_iff.mp ha2).1; omega) ⟨T, ha3, hk⟩
  obtain ⟨⟨mcm, hm0⟩, -, -⟩ := id hM
  obtain ⟨hw1, hw2, hw3, hw4, hw5, hw6, hw7, hw8⟩ := (hS.2.2 _ _ ha3).1
  obtain ⟨hf1, hf2, hf3, hf4⟩ := hw8 hk
  refine m_start (cc := cX4_separate) (maxL := 3) (ret := (some .boolean)) (by decide) rfl (Nat.le_of_ble_eq_true rfl) ?_
  intro p e s m below meth c A ls hx hb hr hml hts hown hlocks hin hw hl
  have hl : lv_has ls 3 [(0, .ref x), (1, .int r)] := hl
  have hown : s.vm.findClass RX4 = some m.cls := hown
  refine lv_aload_n hx hb dX4_separate_0 rfl (lv_at hl 0 rfl) ?_
  refine lv_iload_n hx hb dX4_separate_1 rfl (lv_at hl 1 rfl) ?_
  refine w_call (va_runV (As := [.int r]) (rest := []) ⟨hx, hb, hml, hown, hts⟩ (c_open_S l g h x kl ka ty hd hL r a (ml r.toNatClampNeg) (nI (tSz T)) (nI (tAl T)) (if tK T = 4 then 1 else 0) (if tFi T = true then 0 else 1) (nI (ly T).1) up fb ha1 ha (by rw [hfi]; rfl) s.heap.size) (cwV 1 hts gX4_separate_X4_openRecordAt rfl rfl rfl (by decide +kernel) ⟨Nat.le_of_ble_eq_true rfl, Nat.le_of_ble_eq_true rfl⟩) ⟨pr_blind, w_recv hw hd rfl, pr_of hw⟩ rfl rfl hl.1 rfl (lv_room (Nat.le_of_ble_eq_true rfl)) dX4_separate_2 ⟨Nat.le_of_ble_eq_true rfl, Nat.le_of_ble_eq_true rfl⟩) hw (fun v h' H locs hp hw => ?_)
  obtain ⟨rfl, rfl⟩ := hp
  refine W.eq (g2 := F0 m 5 ls [.ref a]) rfl ?_
  refine lv_astore_n (lv' := [(2, .ref a), (0, .ref x), (1, .int r)]) hx hb dX4_separate_5 rfl hl (by decide) rfl (fun ls hl => ?_)
  refine lv_aload_n hx hb dX4_separate_6 rfl (lv_at hl 0 rfl) ?_
  refine lv_ifnonnull (tgt := 12) hx hb dX4_separate_7 (by decide) ?_
  refine lv_aload_n hx hb dX4_separate_12 rfl (lv_at hl 0 rfl) ?_
  refine w_call (va_runV (As := []) (rest := []) ⟨hx, hb, hml, hown, hts⟩ (c_endUnit l g h a (ml r.toNatClampNeg) (nI (tSz T)) (nI (tAl T)) (if tK T = 4 then 1 else 0) (if tFi T = true then 0 else 1) (nI (ly T).1) up fb ha H.size) (cwV 0 hts gX4_separate_X0_endUnit rfl rfl rfl (by decide +kernel) ⟨Nat.le_of_ble_eq_true rfl, Nat.le_of_ble_eq_true rfl⟩) ⟨pr_blind, w_recv hw ha rfl, pr_of hw⟩ rfl rfl hl.1 rfl (lv_room (Nat.le_of_ble_eq_true rfl)) dX4_separate_13 ⟨Nat.le_of_ble_eq_true rfl, Nat.le_of_ble_eq_true rfl⟩) hw (fun v h' H locs hp hw => ?_)
  obtain ⟨rfl, rfl⟩ := hp
  refine W.eq (g2 := F0 m 16 ls []) rfl ?_
  refine lv_iconst (v := 1) hx hb dX4_separate_16 (by decide) ?_
  have e9 : fSep S r = (1, S.set r.toNatClampNeg (tPush T (none, 0, false, 0, 0))) := by simp [fSep, hto]
  have el : ly (tPush T (none, 0, false, 0, 0)) = ((ly T).1, (ly T).2.1, none, (ly T).2.2.2) := (ly_push _ _).trans rfl
  have hc9 := cX_rec (h := (wu h a (.inr (1, [.int (nI (tSz T)), .int (nI (tAl T)), .int (if tK T = 4 then 1 else 0), .ref (ml r.toNatClampNeg), .int (if tFi T = true then 0 else 1), .int (nI (ly T).1), .int up, .int 0])))) (a := a) (T' := (tPush T (none, 0, false, 0, 0))) (ml := ml r.toNatClampNeg) (mb := mb r.toNatClampNeg) (up := up) (fb := 0) hk (by rw [wu_s, el, hf1]; rfl) (by rw [el]; exact uOK_0 _ _) (by rw [el]; exact hml9) (fun j y m hj hm => (wu_n (ne_e (hmm j y m hj (by rw [el] at hm; exact hm)) ha (ne_c (by decide)))).trans (hmm j y m hj (by rw [el] at hm; exact hm)))
  exact r_bool hx hb hr hlocks hw rfl dX4_separate_17 (Nat.le_of_ble_eq_true rfl) (Nat.le_of_ble_eq_true rfl) (⟨by rw [e9], by rw [e9]; exact ⟨_, _, _, _, _, _, DR_set hR0 (w_z hw) ha3 ha2 hk ha (wu_s _ _ _) (fun q hq => wu_n hq) hc9⟩⟩)
theorem d_separate (l : Launch) (g : GG) (h : Nat → Option va_E) (x : Nat) (S : List TyS) (N : Nat) (hR : DR g h x S) (hS : wfS N S) (r : Int32) : Con l yX4_separate wsX4_separate 6 160 0 0 [.ref x, .int r] g h (fun v h' => v = some (.int (fSep S r).1) ∧ DR g h' x (fSep S r).2) := by
  cases hto : lkO S r with
  | none => exact d_separate_N l g h x S N hR hS r hto
  | some T => exact d_separate_O l g h x S N hR hS r T hto
set_option maxHeartbeats 4000000 in
set_option maxRecDepth 100000 in
theorem d_finish_N (l : Launch) (g : GG) (h : Nat → Option va_E) (x : Nat) (S : List TyS) (N : Nat) (hR : DR g h x S) (hS : wfS N S) (r : Int32) (hto : lkO S r = none) : Con l yX4_finish wsX4_finish 6 160 0 0 [.ref x, .int r] g h (fun v h' => v = some (.int (fFin S r).1) ∧ DR g h' x (fFin S r).2) := by
  obtain ⟨kl, ka, ty, ml, ma, mb, hR0⟩ := hR
  obtain ⟨hd, hz9, hG, hlen, -⟩ := id hR0
  have hL := hG.1
  have hn9 := AL_len hL
  obtain ⟨⟨mck, hk0⟩, -, -⟩ := id hL
  have hno := DR_noOpen hR0 hto
  refine m_start (cc := cX4_finish) (maxL := 4) (ret := (some .int)) (by decide) rfl (Nat.le_of_ble_eq_true rfl) ?_
  intro p e s m below meth c A ls hx hb hr hml hts hown hlocks hin hw hl
  have hl : lv_has ls 4 [(0, .ref x), (1, .int r)] := hl
  have hown : s.vm.findClass RX4 = some m.cls := hown
  refine lv_aload_n hx hb dX4_finish_0 rfl (lv_at hl 0 rfl) ?_
  refine lv_iload_n hx hb dX4_finish_1 rfl (lv_at hl 1 rfl) ?_
  refine w_call (va_runV (As := [.int r]) (rest := []) ⟨hx, hb, hml, hown, hts⟩ (c_open_N l g h x kl ka ty hd hL r hno s.heap.size) (cwV 1 hts gX4_finish_X4_openRecordAt rfl rfl rfl (by decide +kernel) ⟨Nat.le_of_ble_eq_true rfl, Nat.le_of_ble_eq_true rfl⟩) ⟨pr_blind, w_recv hw hd rfl, pr_of hw⟩ rfl rfl hl.1 rfl (lv_room (Nat.le_of_ble_eq_true rfl)) dX4_finish_2 ⟨Nat.le_of_ble_eq_true rfl, Nat.le_of_ble_eq_true rfl⟩) hw (fun v h' H locs hp hw => ?_)
  obtain ⟨rfl, rfl⟩ := hp
  refine W.eq (g2 := F0 m 5 ls [.null]) rfl ?_
  refine lv_astore_nN (lv' := [(2, .null), (0, .ref x), (1, .int r)]) hx hb dX4_finish_5 rfl hl (by decide) rfl (fun ls hl => ?_)
  refine lv_aload_nN hx hb dX4_finish_6 rfl (lv_at hl 0 rfl) ?_
  refine lv_ifnonnullN hx hb dX4_finish_7 ?_
  refine lv_iconst (v := (-1)) hx hb dX4_finish_10 (by decide) ?_
  have e9 : fFin S r = (-1, S) := by simp [fFin, hto]
  exact r_int hx hb hr hlocks hw dX4_finish_11 (Nat.le_of_ble_eq_true rfl) (Nat.le_of_ble_eq_true rfl) (⟨by rw [e9], by rw [e9]; exact ⟨kl, ka, ty, ml, ma, mb, hR0⟩⟩)
theorem in_X4_finish_1 : ∀ w ∈ u_ws RX0 TX0 8, w ∈ wsX4_finish := by decide +kernel
set_option maxHeartbeats 4000000 in
set_option maxRecDepth 100000 in
theorem d_finish_O (l : Launch) (g : GG) (h : Nat → Option va_E) (x : Nat) (S : List TyS) (N : Nat) (hR : DR g h x S) (hS : wfS N S) (r : Int32) (T : TyS) (hto : lkO S r = some T) : Con l yX4_finish wsX4_finish 6 160 0 0 [.ref x, .int r] g h (fun v h' => v = some (.int (fFin S r).1) ∧ DR g h' x (fFin S r).2) := by
  obtain ⟨ht, hk, hfi⟩ := lkO_some hto
  obtain ⟨kl, ka, ty, ml, ma, mb, hR0⟩ := hR
  obtain ⟨hd, hz9, hG, hlen, -⟩ := id hR0
  have hL := hG.1
  have hn9 := AL_len hL
  obtain ⟨⟨mck, hk0⟩, -, -⟩ := id hL
  obtain ⟨a, ha1, ha2, ha3, hc⟩ := DR_lk hR0 ht
  obtain ⟨⟨up, fb, ha, huo⟩, hml9, hmm⟩ : (∃ up fb : Int32, h a = some (oCo (nI (tSz T)) (nI (tAl T)) (if tK T = 4 then 1 else 0) (ml r.toNatClampNeg) (if tFi T = true then 0 else 1) (nI (ly T).1) up fb) ∧ uOK (tK T == 4) (ly T).2.2.1 up fb) ∧ (mb r.toNatClampNeg).length = (ly T).2.2.2.length ∧ ∀ (j y : Nat) (m : Nat × Nat × Nat × Nat), (mb r.toNatClampNeg)[j]? = some y → (ly T).2.2.2[j]? = some m → h y = some (oMb (nI m.1) (nI m.2.1) (nI m.2.2.1) (nI m.2.2.2)) := by
    rcases hc with ⟨z1, -⟩ | ⟨z1, z2⟩
    · exact absurd hk (by omega)
    · exact z2
  have hT : isTy h a := Or.inl ⟨_, _, _, _, _, _, _, _, ha⟩
  obtain ⟨hM, hmk, -⟩ := hG.2.2.1 r.toNatClampNeg (by have := (List.getElem?_eq_some_iff.mp ha2).1; omega) ⟨T, ha3, hk⟩
  obtain ⟨⟨mcm, hm0⟩, -, -⟩ := id hM
  obtain ⟨hw1, hw2, hw3, hw4, hw5, hw6, hw7, hw8⟩ := (hS.2.2 _ _ ha3).1
  obtain ⟨hf1, hf2, hf3, hf4⟩ := hw8 hk
  refine m_start (cc := cX4_finish) (maxL := 4) (ret := (some .int)) (by decide) rfl (Nat.le_of_ble_eq_true rfl) ?_
  intro p e s m below meth c A ls hx hb hr hml hts hown hlocks hin hw hl
  have hl : lv_has ls 4 [(0, .ref x), (1, .int r)] := hl
  have hown : s.vm.findClass RX4 = some m.cls := hown
  refine lv_aload_n hx hb dX4_finish_0 rfl (lv_at hl 0 rfl) ?_
  refine lv_iload_n hx hb dX4_finish_1 rfl (lv_at hl 1 rfl) ?_
  refine w_call (va_runV (As := [.int r]) (rest := []) ⟨hx, hb, hml, hown, hts⟩ (c_open_S l g h x kl ka ty hd hL r a (ml r.toNatClampNeg) (nI (tSz T)) (nI (tAl T)) (if tK T = 4 then 1 else 0) (if tFi T = true then 0 else 1) (nI (ly T).1) up fb ha1 ha (by rw [hfi]; rfl) s.heap.size) (cwV 1 hts gX4_finish_X4_openRecordAt rfl rfl rfl (by decide +kernel) ⟨Nat.le_of_ble_eq_true rfl, Nat.le_of_ble_eq_true rfl⟩) ⟨pr_blind, w_recv hw hd rfl, pr_of hw⟩ rfl rfl hl.1 rfl (lv_room (Nat.le_of_ble_eq_true rfl)) dX4_finish_2 ⟨Nat.le_of_ble_eq_true rfl, Nat.le_of_ble_eq_true rfl⟩) hw (fun v h' H locs hp hw => ?_)
  obtain ⟨rfl, rfl⟩ := hp
  refine W.eq (g2 := F0 m 5 ls [.ref a]) rfl ?_
  refine lv_astore_n (lv' := [(2, .ref a), (0, .ref x), (1, .int r)]) hx hb dX4_finish_5 rfl hl (by decide) rfl (fun ls hl => ?_)
  refine lv_aload_n hx hb dX4_finish_6 rfl (lv_at hl 0 rfl) ?_
  refine lv_ifnonnull (tgt := 12) hx hb dX4_finish_7 (by decide) ?_
  refine lv_aload_n hx hb dX4_finish_12 rfl (lv_at hl 0 rfl) ?_
  refine w_getN (ci := 1) (C := RX0) (T := TX0) (N := 8) (ref := "LayoutDesk$Compound") hx hb hts in_X4_finish_1 hown hw ha rfl 3 (by decide) (w_nw hw (w := .fieldLinkNest "LayoutDesk" 110 "LayoutDesk$Compound" "members" "Ljava/util/ArrayList;" "LayoutDesk") (by decide +kernel)) (fun _ h9 => h9) rfl dX4_finish_13 ?_
  refine w_call (va_runV (As := []) (rest := []) ⟨hx, hb, hml, hown, hts⟩ (c_isEmptyL l g h (ml r.toNatClampNeg) (ma r.toNatClampNeg) (mb r.toNatClampNeg) hM H.size) (cwV 0 hts gX4_finish_Jx4a65c_isEmpty_aae02 rfl rfl rfl (by decide +kernel) ⟨Nat.le_of_ble_eq_true rfl, Nat.le_of_ble_eq_true rfl⟩) ⟨pr_blind, w_recv hw hm0 rfl, pr_of hw⟩ rfl rfl hl.1 rfl (lv_room (Nat.le_of_ble_eq_true rfl)) dX4_finish_16 ⟨Nat.le_of_ble_eq_true rfl, Nat.le_of_ble_eq_true rfl⟩) hw (fun v h' H locs hp hw => ?_)
  obtain ⟨rfl, rfl⟩ := hp
  refine W.eq (g2 := F0 m 19 ls [.int (if mb r.toNatClampNeg = [] then 1 else 0)]) rfl ?_
  refine lv_if_eq (tgt := 25) hx hb dX4_finish_19 (by decide) (fun c19 => ?_) (fun c19 => ?_)
  · have hne9 : ¬ (ly T).2.2.2 = [] := fun z => by
      have : mb r.toNatClampNeg = [] := List.eq_nil_of_length_eq_zero (by rw [hml9, z]; rfl)
      rw [if_pos this] at c19
      exact absurd c19 (by decide)
    refine lv_aload_n hx hb dX4_finish_25 rfl (lv_at hl 0 rfl) ?_
    refine w_getN (ci := 1) (C := RX0) (T := TX0) (N := 8) (ref := "LayoutDesk$Compound") hx hb hts in_X4_finish_1 hown hw ha rfl 5 (by decide) (w_nw hw (w := .fieldLinkNest "LayoutDesk" 116 "LayoutDesk$Compound" "reach" "I" "LayoutDesk") (by decide +kernel)) (fun _ h9 => h9) rfl dX4_finish_26 ?_
    refine lv_aload_n hx hb dX4_finish_29 rfl (lv_at hl 0 rfl) ?_
    refine w_get (ci := 1) (C := RX0) (T := TX0) (N := 8) (ref := "LayoutDesk$Compound") hx hb hts in_X4_finish_1 hown hw ha rfl 1 (by decide) (hts (.fieldLink RX4 119 "LayoutDesk$Compound" "alignment" "I") (by decide +kernel)) (u_same (hts (.sameField "LayoutDesk$Compound" "LayoutDesk$Type" "alignment" "I") (by decide +kernel))) rfl dX4_finish_30 ?_
    refine w_call (va_runS (As := [.int (nI (ly T).1), .int (nI (tAl T))]) (rest := []) ⟨hx, hb, hml, hown, hts⟩ (c_roundUp l g h (ly T).1 (tAl T) (by omega) hw5 H.size) (va_cwS 2 hts gX4_finish_X4_roundUp rfl rfl rfl (by decide +kernel) ⟨Nat.le_of_ble_eq_true rfl, Nat.le_of_ble_eq_true rfl⟩) ⟨pr_blind, pr_of hw⟩ rfl rfl hl.1 rfl (lv_room (Nat.le_of_ble_eq_true rfl)) dX4_finish_33 ⟨Nat.le_of_ble_eq_true rfl, Nat.le_of_ble_eq_true rfl⟩) hw (fun v h' H locs hp hw => ?_)
    obtain ⟨rfl, rfl⟩ := hp
    refine W.eq (g2 := F0 m 36 ls [.int (nI (rup (ly T).1 (tAl T)))]) rfl ?_
    have hrb : rup (ly T).1 (tAl T) = rup (ly T).1 (ly T).2.1 := by rw [hf1]
    have hrl := rup_le (ly T).1 (tAl T)
    refine lv_istore_n (lv' := [(3, .int (nI (rup (ly T).1 (tAl T)))), (2, .ref a), (0, .ref x), (1, .int r)]) hx hb dX4_finish_36 rfl hl (by decide) rfl (fun ls hl => ?_)
    refine lv_iload_n hx hb dX4_finish_37 rfl (lv_at hl 0 rfl) ?_
    refine lv_ldc (v := 524288) hx hb hown (hts (.constant RX4 51 (524288)) (by decide +kernel)) dX4_finish_38 ?_
    refine lv_icmp_le (tgt := 46) hx hb dX4_finish_40 (by decide) (fun c40 => ?_) (fun c40 => ?_)
    · refine lv_aload_n hx hb dX4_finish_46 rfl (lv_at hl 1 rfl) ?_
      refine lv_iload_n hx hb dX4_finish_47 rfl (lv_at hl 0 rfl) ?_
      refine w_put (ci := 1) (C := RX0) (T := TX0) (N := 8) (ref := "LayoutDesk$Compound") (ty := .int) (fs' := [.int (nI (rup (ly T).1 (tAl T))), .int (nI (tAl T)), .int (if tK T = 4 then 1 else 0), .ref (ml r.toNatClampNeg), .int (if tFi T = true then 0 else 1), .int (nI (ly T).1), .int up, .int fb]) hx hb hts in_X4_finish_1 tyX0 tyX0_ok nmX0 hown hw ha rfl 0 (by decide) (hts (.fieldLink RX4 123 "LayoutDesk$Compound" "bytes" "I") (by decide +kernel)) (u_same (hts (.sameField "LayoutDesk$Compound" "LayoutDesk$Type" "bytes" "I") (by decide +kernel))) rfl (by decide +kernel) rfl rfl (Nat.le_of_ble_eq_true rfl) rfl dX4_finish_48 (fun H locs hw => ?_)
      refine lv_aload_n hx hb dX4_finish_51 rfl (lv_at hl 1 rfl) ?_
      refine lv_iconst (v := 0) hx hb dX4_finish_52 (by decide) ?_
      refine w_putN (ci := 1) (C := RX0) (T := TX0) (N := 8) (ref := "LayoutDesk$Compound") (ty := .boolean) (fs' := [.int (nI (rup (ly T).1 (tAl T))), .int (nI (tAl T)), .int (if tK T = 4 then 1 else 0), .ref (ml r.toNatClampNeg), .int 0, .int (nI (ly T).1), .int up, .int fb]) hx hb hts in_X4_finish_1 tyX0 tyX0_ok nmX0 hown hw (wu_s _ _ _) rfl 4 (by decide) (w_nw hw (w := .fieldLinkNest "LayoutDesk" 124 "LayoutDesk$Compound" "open" "Z" "LayoutDesk") (by decide +kernel)) (fun _ h9 => h9) rfl (by decide +kernel) rfl rfl (Nat.le_of_ble_eq_true rfl) rfl dX4_finish_53 (fun H locs hw => ?_)
      refine lv_iload_n hx hb dX4_finish_56 rfl (lv_at hl 0 rfl) ?_
      have hle9 : rup (ly T).1 (ly T).2.1 ≤ 524288 := by rw [← hrb]; exact (nI_leI (b := 524288) (by omega) (by decide)).mp c40
      have e9 : fFin S r = (nI (rup (ly T).1 (ly T).2.1), S.set r.toNatClampNeg (tEnd T (rup (ly T).1 (ly T).2.1))) := by simp [fFin, hto, hne9, show ¬ 524288 < rup (ly T).1 (ly T).2.1 from Nat.not_lt.mpr hle9]
      have hc9 := cX_rec (h := (wu (wu h a (.inr (1, [.int (nI (rup (ly T).1 (tAl T))), .int (nI (tAl T)), .int (if tK T = 4 then 1 else 0), .ref (ml r.toNatClampNeg), .int (if tFi T = true then 0 else 1), .int (nI (ly T).1), .int up, .int fb]))) a (.inr (1, [.int (nI (rup (ly T).1 (tAl T))), .int (nI (tAl T)), .int (if tK T = 4 then 1 else 0), .ref (ml r.toNatClampNeg), .int 0, .int (nI (ly T).1), .int up, .int fb])))) (a := a) (T' := (tEnd T (rup (ly T).1 (ly T).2.1))) (ml := ml r.toNatClampNeg) (mb := mb r.toNatClampNeg) (up := up) (fb := fb) hk (by rw [wu_s, hrb]; rfl) huo hml9 (fun j y m hj hm => (wu_n (ne_e (hmm j y m hj hm) ha (ne_c (by decide)))).trans ((wu_n (ne_e (hmm j y m hj hm) ha (ne_c (by decide)))).trans (hmm j y m hj hm)))
      exact r_int hx hb hr hlocks hw dX4_finish_57 (Nat.le_of_ble_eq_true rfl) (Nat.le_of_ble_eq_true rfl) (⟨by rw [e9, hrb], by rw [e9]; exact ⟨_, _, _, _, _, _, DR_set hR0 (w_z hw) ha3 ha2 hk ha (wu_s _ _ _) (fun q hq => (wu_n hq).trans (wu_n hq)) hc9⟩⟩)
    · refine lv_bipush (v := (-3)) hx hb dX4_finish_43 (by decide) ?_
      have e9 : fFin S r = (-3, S) := by simp [fFin, hto, hne9, show 524288 < rup (ly T).1 (ly T).2.1 from by rw [← hrb]; exact Nat.lt_of_not_le (fun z => c40 (nI_le (b := 524288) z (by decide)))]
      exact r_int hx hb hr hlocks hw dX4_finish_45 (Nat.le_of_ble_eq_true rfl) (Nat.le_of_ble_eq_true rfl) (⟨by rw [e9], by rw [e9]; exact ⟨kl, ka, ty, ml, ma, mb, hR0⟩⟩)
  · have hem9 : (ly T).2.2.2 = [] := by
      by_cases z : mb r.toNatClampNeg = []
      · exact List.eq_nil_of_length_eq_zero (by rw [← hml9, z]; rfl)
      · rw [if_neg z] at c19
        exact absurd rfl c19
    refine lv_bipush (v := (-2)) hx hb dX4_finish_22 (by decide) ?_
    have e9 : fFin S r = (-2, S) := by simp [fFin, hto, hem9]
    exact r_int hx hb hr hlocks hw dX4_finish_24 (Nat.le_of_ble_eq_true rfl) (Nat.le_of_ble_eq_true rfl) (⟨by rw [e9], by rw [e9]; exact ⟨kl, ka, ty, ml, ma, mb, hR0⟩⟩)
theorem d_finish (l : Launch) (g : GG) (h : Nat → Option va_E) (x : Nat) (S : List TyS) (N : Nat) (hR : DR g h x S) (hS : wfS N S) (r : Int32) : Con l yX4_finish wsX4_finish 6 160 0 0 [.ref x, .int r] g h (fun v h' => v = some (.int (fFin S r).1) ∧ DR g h' x (fFin S r).2) := by
  cases hto : lkO S r with
  | none => exact d_finish_N l g h x S N hR hS r hto
  | some T => exact d_finish_O l g h x S N hR hS r T hto
