/-! the desk: pointer, array, record, separate, finish -/
set_option maxHeartbeats 4000000 in
set_option maxRecDepth 100000 in
theorem d_pointer_N (l : Launch) (g : GG) (h : Nat → Option va_E) (x : Nat) (S : List TyS) (N : Nat) (hR : DR g h x S) (hS : wfS N S) (t : Int32) (ht : lk S t = none) : Con l yX4_pointer wsX4_pointer 8 192 2 805 [.ref x, .int t] g h (fun v h' => v = some (.int (fPtr S t).1) ∧ DR g h' x (fPtr S t).2) := by
  obtain ⟨kl, ka, ty, ml, ma, mb, hR0⟩ := hR
  obtain ⟨hd, hz9, hG, hlen, -⟩ := id hR0
  have hL := hG.1
  have hn9 := AL_len hL
  obtain ⟨⟨mck, hk0⟩, -, -⟩ := id hL
  have htn := DR_lkN hR0 ht
  refine m_start (cc := cX4_pointer) (maxL := 3) (ret := (some .int)) (by decide) rfl (Nat.le_of_ble_eq_true rfl) ?_
  intro p e s m below meth c A ls hx hb hr hml hts hown hlocks hin hw hl
  have hl : lv_has ls 3 [(0, .ref x), (1, .int t)] := hl
  have hown : s.vm.findClass RX4 = some m.cls := hown
  refine lv_aload_n hx hb dX4_pointer_0 rfl (lv_at hl 0 rfl) ?_
  refine lv_iload_n hx hb dX4_pointer_1 rfl (lv_at hl 1 rfl) ?_
  refine w_call (va_runV (As := [.int t]) (rest := []) ⟨hx, hb, hml, hown, hts⟩ (c_typeAt_N l g h x kl ka ty hd hL t htn s.heap.size) (cwV 1 hts gX4_pointer_X4_typeAt rfl rfl rfl (by decide +kernel) ⟨Nat.le_of_ble_eq_true rfl, Nat.le_of_ble_eq_true rfl⟩) ⟨pr_blind, w_recv hw hd rfl, pr_of hw⟩ rfl rfl hl.1 rfl (lv_room (Nat.le_of_ble_eq_true rfl)) dX4_pointer_2 ⟨Nat.le_of_ble_eq_true rfl, Nat.le_of_ble_eq_true rfl⟩) hw (fun v h' H locs hp hw => ?_)
  obtain ⟨rfl, rfl⟩ := hp
  refine W.eq (g2 := F0 m 5 ls [.null]) rfl ?_
  refine lv_ifnonnullN hx hb dX4_pointer_5 ?_
  refine lv_iconst (v := (-1)) hx hb dX4_pointer_8 (by decide) ?_
  have e9 : fPtr S t = (-1, S) := by simp [fPtr, ht]
  exact r_int hx hb hr hlocks hw dX4_pointer_9 (Nat.le_of_ble_eq_true rfl) (Nat.le_of_ble_eq_true rfl) (⟨by rw [e9], by rw [e9]; exact ⟨kl, ka, ty, ml, ma, mb, hR0⟩⟩)
theorem in_X4_pointer_3 : ∀ w ∈ u_ws RX2 TX2 5, w ∈ wsX4_pointer := by decide +kernel
set_option maxHeartbeats 4000000 in
set_option maxRecDepth 100000 in
theorem d_pointer_S (l : Launch) (g : GG) (h : Nat → Option va_E) (x : Nat) (S : List TyS) (N : Nat) (hR : DR g h x S) (hS : wfS N S) (t : Int32) (T : TyS) (ht : lk S t = some T) (hk : tK T < 3) : Con l yX4_pointer wsX4_pointer 8 192 2 805 [.ref x, .int t] g h (fun v h' => v = some (.int (fPtr S t).1) ∧ DR g h' x (fPtr S t).2) := by
  obtain ⟨kl, ka, ty, ml, ma, mb, hR0⟩ := hR
  obtain ⟨hd, hz9, hG, hlen, -⟩ := id hR0
  have hL := hG.1
  have hn9 := AL_len hL
  obtain ⟨⟨mck, hk0⟩, -, -⟩ := id hL
  obtain ⟨a, ha1, ha2, ha3, hc⟩ := DR_lk hR0 ht
  have ha : h a = some (oSi (nI (tSz T)) (nI (tAl T)) (nI (tK T)) (if tK T = 0 then -1 else nI (tTo T)) (nI (tLn T))) := by
    rcases hc with ⟨z1, z2⟩ | ⟨z1, -⟩
    · exact z2
    · exact absurd hk (by omega)
  have hT : isTy h a := cX_ty hc
  refine m_start (cc := cX4_pointer) (maxL := 3) (ret := (some .int)) (by decide) rfl (Nat.le_of_ble_eq_true rfl) ?_
  intro p e s m below meth c A ls hx hb hr hml hts hown hlocks hin hw hl
  have hl : lv_has ls 3 [(0, .ref x), (1, .int t)] := hl
  have hown : s.vm.findClass RX4 = some m.cls := hown
  refine lv_aload_n hx hb dX4_pointer_0 rfl (lv_at hl 0 rfl) ?_
  refine lv_iload_n hx hb dX4_pointer_1 rfl (lv_at hl 1 rfl) ?_
  refine w_call (va_runV (As := [.int t]) (rest := []) ⟨hx, hb, hml, hown, hts⟩ (c_typeAt_S l g h x kl ka ty hd hL t a ha1 hT s.heap.size) (cwV 1 hts gX4_pointer_X4_typeAt rfl rfl rfl (by decide +kernel) ⟨Nat.le_of_ble_eq_true rfl, Nat.le_of_ble_eq_true rfl⟩) ⟨pr_blind, w_recv hw hd rfl, pr_of hw⟩ rfl rfl hl.1 rfl (lv_room (Nat.le_of_ble_eq_true rfl)) dX4_pointer_2 ⟨Nat.le_of_ble_eq_true rfl, Nat.le_of_ble_eq_true rfl⟩) hw (fun v h' H locs hp hw => ?_)
  obtain ⟨rfl, rfl⟩ := hp
  refine W.eq (g2 := F0 m 5 ls [.ref a]) rfl ?_
  refine lv_ifnonnull (tgt := 10) hx hb dX4_pointer_5 (by decide) ?_
  refine lv_aload_n hx hb dX4_pointer_10 rfl (lv_at hl 0 rfl) ?_
  refine lv_iconst (v := 1) hx hb dX4_pointer_11 (by decide) ?_
  refine lv_iload_n hx hb dX4_pointer_12 rfl (lv_at hl 1 rfl) ?_
  refine lv_iconst (v := 0) hx hb dX4_pointer_13 (by decide) ?_
  refine w_call (va_runV (As := [.int 1, .int t, .int 0]) (rest := []) ⟨hx, hb, hml, hown, hts⟩ (c_find l g h x kl ka ty hd hL 1 t 0 (DR_ty hR0) H.size) (cwV 3 hts gX4_pointer_X4_find rfl rfl rfl (by decide +kernel) ⟨Nat.le_of_ble_eq_true rfl, Nat.le_of_ble_eq_true rfl⟩) ⟨pr_blind, w_recv hw hd rfl, pr_of hw⟩ rfl rfl hl.1 rfl (lv_room (Nat.le_of_ble_eq_true rfl)) dX4_pointer_14 ⟨Nat.le_of_ble_eq_true rfl, Nat.le_of_ble_eq_true rfl⟩) hw (fun v h' H locs hp hw => ?_)
  have et : t = nI t.toNatClampNeg := (lk_lt ht (by have := hS.2.1; omega)).2.1
  obtain ⟨rfl, ⟨i9, hi9, rfl, hi2, hi3⟩ | ⟨rfl, hno9⟩⟩ := hp
  · refine W.eq (g2 := F0 m 17 ls [.int (nI i9)]) rfl ?_
    have hf9 : fnd S 1 t.toNatClampNeg 0 = some i9 := DR_fndS hR0 hS (Or.inl rfl) (by have := lk_lt ht (by have := hS.2.1; omega); have := hS.2.1; omega) (by decide) hi9 (by rw [← et]; exact hi2) (by rw [← et]; exact hi3)
    refine lv_istore_n (lv' := [(2, .int (nI i9)), (0, .ref x), (1, .int t)]) hx hb dX4_pointer_17 rfl hl (by decide) rfl (fun ls hl => ?_)
    refine lv_iload_n hx hb dX4_pointer_18 rfl (lv_at hl 0 rfl) ?_
    refine lv_iconst (v := (-1)) hx hb dX4_pointer_19 (by decide) ?_
    refine lv_icmp_eq (tgt := 25) hx hb dX4_pointer_20 (by decide) (fun c20 => ?_) (fun c20 => ?_)
    · exact absurd c20 (fun z => by have := nI_pos (n := i9) (by omega); rw [z] at this; exact this (by decide))
    · refine lv_iload_n hx hb dX4_pointer_23 rfl (lv_at hl 0 rfl) ?_
      have e9 : fPtr S t = (nI i9, S) := by simp [fPtr, ht, hf9]
      exact r_int hx hb hr hlocks hw dX4_pointer_24 (Nat.le_of_ble_eq_true rfl) (Nat.le_of_ble_eq_true rfl) (⟨by rw [e9], by rw [e9]; exact ⟨kl, ka, ty, ml, ma, mb, hR0⟩⟩)
  · refine W.eq (g2 := F0 m 17 ls [.int (-1)]) rfl ?_
    have hf9 : fnd S 1 t.toNatClampNeg 0 = none := DR_fndN hR0 hS (Or.inl rfl) (by have := lk_lt ht (by have := hS.2.1; omega); have := hS.2.1; omega) (by decide) (by rw [← et]; exact hno9)
    refine lv_istore_n (lv' := [(2, .int (-1)), (0, .ref x), (1, .int t)]) hx hb dX4_pointer_17 rfl hl (by decide) rfl (fun ls hl => ?_)
    refine lv_iload_n hx hb dX4_pointer_18 rfl (lv_at hl 0 rfl) ?_
    refine lv_iconst (v := (-1)) hx hb dX4_pointer_19 (by decide) ?_
    refine lv_icmp_eq (tgt := 25) hx hb dX4_pointer_20 (by decide) (fun c20 => ?_) (fun c20 => ?_)
    · refine lv_aload_n hx hb dX4_pointer_25 rfl (lv_at hl 1 rfl) ?_
      refine w_call (va_runV (As := []) (rest := []) ⟨hx, hb, hml, hown, hts⟩ (c_isFull l g h x kl ka ty hd hL H.size) (cwV 0 hts gX4_pointer_X4_isFull rfl rfl rfl (by decide +kernel) ⟨Nat.le_of_ble_eq_true rfl, Nat.le_of_ble_eq_true rfl⟩) ⟨pr_blind, w_recv hw hd rfl, pr_of hw⟩ rfl rfl hl.1 rfl (lv_room (Nat.le_of_ble_eq_true rfl)) dX4_pointer_26 ⟨Nat.le_of_ble_eq_true rfl, Nat.le_of_ble_eq_true rfl⟩) hw (fun v h' H locs hp hw => ?_)
      obtain ⟨rfl, rfl⟩ := hp
      refine W.eq (g2 := F0 m 29 ls [.int (if 300 ≤ ty.length then 1 else 0)]) rfl ?_
      refine lv_if_eq (tgt := 35) hx hb dX4_pointer_29 (by decide) (fun c29 => ?_) (fun c29 => ?_)
      · have hnf : ¬ 300 ≤ S.length := fun z => by rw [← hlen] at z; rw [if_pos z] at c29; exact absurd c29 (by decide)
        refine lv_aload_n hx hb dX4_pointer_35 rfl (lv_at hl 1 rfl) ?_
        refine w_new (ci := 3) (C := RX2) (T := TX2) (N := 5) (fs := [.int 0, .int 0, .int 0, .int 0, .int 0]) hx hb hts in_X4_pointer_3 tyX2 tyX2_ok hown (hts (.classLink RX4 20 RX2) (by decide +kernel)) (hts (.instantiable RX2 5) (by decide +kernel)) (hts (.initialized RX2) (by decide +kernel)) hw rfl (fun j hj => by rcases (show j = 0 ∨ j = 1 ∨ j = 2 ∨ j = 3 ∨ j = 4 by omega) with rfl | rfl | rfl | rfl | rfl <;> rfl) (Nat.le_of_ble_eq_true rfl) (Nat.le_of_ble_eq_true rfl) dX4_pointer_36 (fun q H hq hw => ?_)
        refine lv_dup hx hb dX4_pointer_39 rfl ?_
        refine lv_iconst (v := 1) hx hb dX4_pointer_40 (by decide) ?_
        refine lv_iload_n hx hb dX4_pointer_41 rfl (lv_at hl 2 rfl) ?_
        refine lv_iconst (v := 0) hx hb dX4_pointer_42 (by decide) ?_
        refine lv_iconst (v := 4) hx hb dX4_pointer_43 (by decide) ?_
        refine lv_iconst (v := 4) hx hb dX4_pointer_44 (by decide) ?_
        refine w_call (va_runI (As := [.int 1, .int t, .int 0, .int 4, .int 4]) (rest := [.ref q, .ref x]) ⟨hx, hb, hml, hown, hts⟩ (c_Simple_init l g (wu h q (.inr (3, [.int 0, .int 0, .int 0, .int 0, .int 0]))) q 0 0 0 0 0 1 t 0 4 4 (wu_s _ _ _) H.size) (cwI 5 hts gX4_pointer_X2_init rfl rfl rfl (hts (.initialized RX2) (by decide +kernel)) (hts (.methodLink RX4 28 yX2_init) (by decide +kernel)) (hts (.instanceMethod yX2_init) (by decide +kernel)) rfl (by decide +kernel) ⟨Nat.le_of_ble_eq_true rfl, Nat.le_of_ble_eq_true rfl⟩) ⟨pr_blind, pr_of hw⟩ rfl rfl hl.1 rfl (lv_room (Nat.le_of_ble_eq_true rfl)) dX4_pointer_45 ⟨Nat.le_of_ble_eq_true rfl, Nat.le_of_ble_eq_true rfl⟩) hw (fun v h' H locs hp hw => ?_)
        obtain ⟨rfl, rfl⟩ := hp
        refine W.eq (g2 := F0 m 48 ls [.ref q, .ref x]) rfl ?_
        have hR1 : DR0 g (wu (wu h q (.inr (3, [.int 0, .int 0, .int 0, .int 0, .int 0]))) q (.inr (3, [.int 4, .int 4, .int 1, .int t, .int 0]))) x S kl ka ty ml ma mb := DR_ext hR0 (ext_re (ext_new hq) hq) (w_z hw)
        refine w_call (va_runV (As := [.ref q]) (rest := []) ⟨hx, hb, hml, hown, hts⟩ (c_enter l g (wu (wu h q (.inr (3, [.int 0, .int 0, .int 0, .int 0, .int 0]))) q (.inr (3, [.int 4, .int 4, .int 1, .int t, .int 0]))) x kl ka ty hR1.1 hR1.2.2.1.1 q ⟨3, _, wu_s _ _ _, by decide, by decide⟩ (by omega) H.size) (cwV 1 hts gX4_pointer_X4_enter rfl rfl rfl (by decide +kernel) ⟨Nat.le_of_ble_eq_true rfl, Nat.le_of_ble_eq_true rfl⟩) ⟨pr_blind, w_recv hw hR1.1 rfl, pr_of hw⟩ rfl rfl hl.1 rfl (lv_room (Nat.le_of_ble_eq_true rfl)) dX4_pointer_48 ⟨Nat.le_of_ble_eq_true rfl, Nat.le_of_ble_eq_true rfl⟩) hw (fun v h' H locs hp hw => ?_)
        obtain ⟨ka', rfl, q1, q2, q3⟩ := hp
        refine W.eq (g2 := F0 m 51 ls [.int (nI ty.length)]) rfl ?_
        have e9 : fPtr S t = (nI S.length, S ++ [(1, t.toNatClampNeg, 0, 4, 4, [], false)]) := by simp [fPtr, ht, hf9, hnf]
        have hc9 : cX (wu (wu h q (.inr (3, [.int 0, .int 0, .int 0, .int 0, .int 0]))) q (.inr (3, [.int 4, .int 4, .int 1, .int t, .int 0]))) q (1, t.toNatClampNeg, 0, 4, 4, [], false) 0 [] := Or.inl ⟨show 1 < 3 by decide, by
          show wu _ _ _ _ = some (oSi (nI 4) (nI 4) (nI 1) (nI t.toNatClampNeg) (nI 0))
          rw [wu_s, ← et]
          rfl⟩
        exact r_int hx hb hr hlocks hw dX4_pointer_51 (Nat.le_of_ble_eq_true rfl) (Nat.le_of_ble_eq_true rfl) (⟨by rw [e9, hlen], by rw [e9]; exact ⟨_, _, _, _, _, _, DR_app 0 hR1 (w_z hw) (ty_fresh (DR_ty hR0) hq) hc9 (fun z => absurd (show 3 ≤ 1 from z) (by decide)) q1 q2 q3⟩⟩)
      · have hfu : 300 ≤ S.length := by
          rw [← hlen]
          by_cases z : 300 ≤ ty.length
          · exact z
          · rw [if_neg z] at c29
            exact absurd rfl c29
        refine lv_bipush (v := (-2)) hx hb dX4_pointer_32 (by decide) ?_
        have e9 : fPtr S t = (-2, S) := by simp [fPtr, ht, hf9, hfu]
        exact r_int hx hb hr hlocks hw dX4_pointer_34 (Nat.le_of_ble_eq_true rfl) (Nat.le_of_ble_eq_true rfl) (⟨by rw [e9], by rw [e9]; exact ⟨kl, ka, ty, ml, ma, mb, hR0⟩⟩)
    · exact absurd rfl c20
set_option maxHeartbeats 4000000 in
set_option maxRecDepth 100000 in
theorem d_pointer_C (l : Launch) (g : GG) (h : Nat → Option va_E) (x : Nat) (S : List TyS) (N : Nat) (hR : DR g h x S) (hS : wfS N S) (t : Int32) (T : TyS) (ht : lk S t = some T) (hk : 3 ≤ tK T) : Con l yX4_pointer wsX4_pointer 8 192 2 805 [.ref x, .int t] g h (fun v h' => v = some (.int (fPtr S t).1) ∧ DR g h' x (fPtr S t).2) := by
  obtain ⟨kl, ka, ty, ml, ma, mb, hR0⟩ := hR
  obtain ⟨hd, hz9, hG, hlen, -⟩ := id hR0
  have hL := hG.1
  have hn9 := AL_len hL
  obtain ⟨⟨mck, hk0⟩, -, -⟩ := id hL
  obtain ⟨a, ha1, ha2, ha3, hc⟩ := DR_lk hR0 ht
  obtain ⟨⟨up, fb, ha, huo⟩, hml9, hmm⟩ : (∃ up fb : Int32, h a = some (oCo (nI (tSz T)) (nI (tAl T)) (if tK T = 4 then 1 else 0) (ml t.toNatClampNeg) (if tFi T = true then 0 else 1) (nI (ly T).1) up fb) ∧ uOK (tK T == 4) (ly T).2.2.1 up fb) ∧ (mb t.toNatClampNeg).length = (ly T).2.2.2.length ∧ ∀ (j y : Nat) (m : Nat × Nat × Nat × Nat), (mb t.toNatClampNeg)[j]? = some y → (ly T).2.2.2[j]? = some m → h y = some (oMb (nI m.1) (nI m.2.1) (nI m.2.2.1) (nI m.2.2.2)) := by
    rcases hc with ⟨z1, -⟩ | ⟨z1, z2⟩
    · exact absurd hk (by omega)
    · exact z2
  have hT : isTy h a := Or.inl ⟨_, _, _, _, _, _, _, _, ha⟩
  obtain ⟨hM, hmk, -⟩ := hG.2.2.1 t.toNatClampNeg (by have := (List.getElem?_eq_some_iff.mp ha2).1; omega) ⟨T, ha3, hk⟩
  obtain ⟨⟨mcm, hm0⟩, -, -⟩ := id hM
  refine m_start (cc := cX4_pointer) (maxL := 3) (ret := (some .int)) (by decide) rfl (Nat.le_of_ble_eq_true rfl) ?_
  intro p e s m below meth c A ls hx hb hr hml hts hown hlocks hin hw hl
  have hl : lv_has ls 3 [(0, .ref x), (1, .int t)] := hl
  have hown : s.vm.findClass RX4 = some m.cls := hown
  refine lv_aload_n hx hb dX4_pointer_0 rfl (lv_at hl 0 rfl) ?_
  refine lv_iload_n hx hb dX4_pointer_1 rfl (lv_at hl 1 rfl) ?_
  refine w_call (va_runV (As := [.int t]) (rest := []) ⟨hx, hb, hml, hown, hts⟩ (c_typeAt_S l g h x kl ka ty hd hL t a ha1 hT s.heap.size) (cwV 1 hts gX4_pointer_X4_typeAt rfl rfl rfl (by decide +kernel) ⟨Nat.le_of_ble_eq_true rfl, Nat.le_of_ble_eq_true rfl⟩) ⟨pr_blind, w_recv hw hd rfl, pr_of hw⟩ rfl rfl hl.1 rfl (lv_room (Nat.le_of_ble_eq_true rfl)) dX4_pointer_2 ⟨Nat.le_of_ble_eq_true rfl, Nat.le_of_ble_eq_true rfl⟩) hw (fun v h' H locs hp hw => ?_)
  obtain ⟨rfl, rfl⟩ := hp
  refine W.eq (g2 := F0 m 5 ls [.ref a]) rfl ?_
  refine lv_ifnonnull (tgt := 10) hx hb dX4_pointer_5 (by decide) ?_
  refine lv_aload_n hx hb dX4_pointer_10 rfl (lv_at hl 0 rfl) ?_
  refine lv_iconst (v := 1) hx hb dX4_pointer_11 (by decide) ?_
  refine lv_iload_n hx hb dX4_pointer_12 rfl (lv_at hl 1 rfl) ?_
  refine lv_iconst (v := 0) hx hb dX4_pointer_13 (by decide) ?_
  refine w_call (va_runV (As := [.int 1, .int t, .int 0]) (rest := []) ⟨hx, hb, hml, hown, hts⟩ (c_find l g h x kl ka ty hd hL 1 t 0 (DR_ty hR0) H.size) (cwV 3 hts gX4_pointer_X4_find rfl rfl rfl (by decide +kernel) ⟨Nat.le_of_ble_eq_true rfl, Nat.le_of_ble_eq_true rfl⟩) ⟨pr_blind, w_recv hw hd rfl, pr_of hw⟩ rfl rfl hl.1 rfl (lv_room (Nat.le_of_ble_eq_true rfl)) dX4_pointer_14 ⟨Nat.le_of_ble_eq_true rfl, Nat.le_of_ble_eq_true rfl⟩) hw (fun v h' H locs hp hw => ?_)
  have et : t = nI t.toNatClampNeg := (lk_lt ht (by have := hS.2.1; omega)).2.1
  obtain ⟨rfl, ⟨i9, hi9, rfl, hi2, hi3⟩ | ⟨rfl, hno9⟩⟩ := hp
  · refine W.eq (g2 := F0 m 17 ls [.int (nI i9)]) rfl ?_
    have hf9 : fnd S 1 t.toNatClampNeg 0 = some i9 := DR_fndS hR0 hS (Or.inl rfl) (by have := lk_lt ht (by have := hS.2.1; omega); have := hS.2.1; omega) (by decide) hi9 (by rw [← et]; exact hi2) (by rw [← et]; exact hi3)
    refine lv_istore_n (lv' := [(2, .int (nI i9)), (0, .ref x), (1, .int t)]) hx hb dX4_pointer_17 rfl hl (by decide) rfl (fun ls hl => ?_)
    refine lv_iload_n hx hb dX4_pointer_18 rfl (lv_at hl 0 rfl) ?_
    refine lv_iconst (v := (-1)) hx hb dX4_pointer_19 (by decide) ?_
    refine lv_icmp_eq (tgt := 25) hx hb dX4_pointer_20 (by decide) (fun c20 => ?_) (fun c20 => ?_)
    · exact absurd c20 (fun z => by have := nI_pos (n := i9) (by omega); rw [z] at this; exact this (by decide))
    · refine lv_iload_n hx hb dX4_pointer_23 rfl (lv_at hl 0 rfl) ?_
      have e9 : fPtr S t = (nI i9, S) := by simp [fPtr, ht, hf9]
      exact r_int hx hb hr hlocks hw dX4_pointer_24 (Nat.le_of_ble_eq_true rfl) (Nat.le_of_ble_eq_true rfl) (⟨by rw [e9], by rw [e9]; exact ⟨kl, ka, ty, ml, ma, mb, hR0⟩⟩)
  · refine W.eq (g2 := F0 m 17 ls [.int (-1)]) rfl ?_
    have hf9 : fnd S 1 t.toNatClampNeg 0 = none := DR_fndN hR0 hS (Or.inl rfl) (by have := lk_lt ht (by have := hS.2.1; omega); have := hS.2.1; omega) (by decide) (by rw [← et]; exact hno9)
    refine lv_istore_n (lv' := [(2, .int (-1)), (0, .ref x), (1, .int t)]) hx hb dX4_pointer_17 rfl hl (by decide) rfl (fun ls hl => ?_)
    refine lv_iload_n hx hb dX4_pointer_18 rfl (lv_at hl 0 rfl) ?_
    refine lv_iconst (v := (-1)) hx hb dX4_pointer_19 (by decide) ?_
    refine lv_icmp_eq (tgt := 25) hx hb dX4_pointer_20 (by decide) (fun c20 => ?_) (fun c20 => ?_)
    · refine lv_aload_n hx hb dX4_pointer_25 rfl (lv_at hl 1 rfl) ?_
      refine w_call (va_runV (As := []) (rest := []) ⟨hx, hb, hml, hown, hts⟩ (c_isFull l g h x kl ka ty hd hL H.size) (cwV 0 hts gX4_pointer_X4_isFull rfl rfl rfl (by decide +kernel) ⟨Nat.le_of_ble_eq_true rfl, Nat.le_of_ble_eq_true rfl⟩) ⟨pr_blind, w_recv hw hd rfl, pr_of hw⟩ rfl rfl hl.1 rfl (lv_room (Nat.le_of_ble_eq_true rfl)) dX4_pointer_26 ⟨Nat.le_of_ble_eq_true rfl, Nat.le_of_ble_eq_true rfl⟩) hw (fun v h' H locs hp hw => ?_)
      obtain ⟨rfl, rfl⟩ := hp
      refine W.eq (g2 := F0 m 29 ls [.int (if 300 ≤ ty.length then 1 else 0)]) rfl ?_
      refine lv_if_eq (tgt := 35) hx hb dX4_pointer_29 (by decide) (fun c29 => ?_) (fun c29 => ?_)
      · have hnf : ¬ 300 ≤ S.length := fun z => by rw [← hlen] at z; rw [if_pos z] at c29; exact absurd c29 (by decide)
        refine lv_aload_n hx hb dX4_pointer_35 rfl (lv_at hl 1 rfl) ?_
        refine w_new (ci := 3) (C := RX2) (T := TX2) (N := 5) (fs := [.int 0, .int 0, .int 0, .int 0, .int 0]) hx hb hts in_X4_pointer_3 tyX2 tyX2_ok hown (hts (.classLink RX4 20 RX2) (by decide +kernel)) (hts (.instantiable RX2 5) (by decide +kernel)) (hts (.initialized RX2) (by decide +kernel)) hw rfl (fun j hj => by rcases (show j = 0 ∨ j = 1 ∨ j = 2 ∨ j = 3 ∨ j = 4 by omega) with rfl | rfl | rfl | rfl | rfl <;> rfl) (Nat.le_of_ble_eq_true rfl) (Nat.le_of_ble_eq_true rfl) dX4_pointer_36 (fun q H hq hw => ?_)
        refine lv_dup hx hb dX4_pointer_39 rfl ?_
        refine lv_iconst (v := 1) hx hb dX4_pointer_40 (by decide) ?_
        refine lv_iload_n hx hb dX4_pointer_41 rfl (lv_at hl 2 rfl) ?_
        refine lv_iconst (v := 0) hx hb dX4_pointer_42 (by decide) ?_
        refine lv_iconst (v := 4) hx hb dX4_pointer_43 (by decide) ?_
        refine lv_iconst (v := 4) hx hb dX4_pointer_44 (by decide) ?_
        refine w_call (va_runI (As := [.int 1, .int t, .int 0, .int 4, .int 4]) (rest := [.ref q, .ref x]) ⟨hx, hb, hml, hown, hts⟩ (c_Simple_init l g (wu h q (.inr (3, [.int 0, .int 0, .int 0, .int 0, .int 0]))) q 0 0 0 0 0 1 t 0 4 4 (wu_s _ _ _) H.size) (cwI 5 hts gX4_pointer_X2_init rfl rfl rfl (hts (.initialized RX2) (by decide +kernel)) (hts (.methodLink RX4 28 yX2_init) (by decide +kernel)) (hts (.instanceMethod yX2_init) (by decide +kernel)) rfl (by decide +kernel) ⟨Nat.le_of_ble_eq_true rfl, Nat.le_of_ble_eq_true rfl⟩) ⟨pr_blind, pr_of hw⟩ rfl rfl hl.1 rfl (lv_room (Nat.le_of_ble_eq_true rfl)) dX4_pointer_45 ⟨Nat.le_of_ble_eq_true rfl, Nat.le_of_ble_eq_true rfl⟩) hw (fun v h' H locs hp hw => ?_)
        obtain ⟨rfl, rfl⟩ := hp
        refine W.eq (g2 := F0 m 48 ls [.ref q, .ref x]) rfl ?_
        have hR1 : DR0 g (wu (wu h q (.inr (3, [.int 0, .int 0, .int 0, .int 0, .int 0]))) q (.inr (3, [.int 4, .int 4, .int 1, .int t, .int 0]))) x S kl ka ty ml ma mb := DR_ext hR0 (ext_re (ext_new hq) hq) (w_z hw)
        refine w_call (va_runV (As := [.ref q]) (rest := []) ⟨hx, hb, hml, hown, hts⟩ (c_enter l g (wu (wu h q (.inr (3, [.int 0, .int 0, .int 0, .int 0, .int 0]))) q (.inr (3, [.int 4, .int 4, .int 1, .int t, .int 0]))) x kl ka ty hR1.1 hR1.2.2.1.1 q ⟨3, _, wu_s _ _ _, by decide, by decide⟩ (by omega) H.size) (cwV 1 hts gX4_pointer_X4_enter rfl rfl rfl (by decide +kernel) ⟨Nat.le_of_ble_eq_true rfl, Nat.le_of_ble_eq_true rfl⟩) ⟨pr_blind, w_recv hw hR1.1 rfl, pr_of hw⟩ rfl rfl hl.1 rfl (lv_room (Nat.le_of_ble_eq_true rfl)) dX4_pointer_48 ⟨Nat.le_of_ble_eq_true rfl, Nat.le_of_ble_eq_true rfl⟩) hw (fun v h' H locs hp hw => ?_)
        obtain ⟨ka', rfl, q1, q2, q3⟩ := hp
        refine W.eq (g2 := F0 m 51 ls [.int (nI ty.length)]) rfl ?_
        have e9 : fPtr S t = (nI S.length, S ++ [(1, t.toNatClampNeg, 0, 4, 4, [], false)]) := by simp [fPtr, ht, hf9, hnf]
        have hc9 : cX (wu (wu h q (.inr (3, [.int 0, .int 0, .int 0, .int 0, .int 0]))) q (.inr (3, [.int 4, .int 4, .int 1, .int t, .int 0]))) q (1, t.toNatClampNeg, 0, 4, 4, [], false) 0 [] := Or.inl ⟨show 1 < 3 by decide, by
          show wu _ _ _ _ = some (oSi (nI 4) (nI 4) (nI 1) (nI t.toNatClampNeg) (nI 0))
          rw [wu_s, ← et]
          rfl⟩
        exact r_int hx hb hr hlocks hw dX4_pointer_51 (Nat.le_of_ble_eq_true rfl) (Nat.le_of_ble_eq_true rfl) (⟨by rw [e9, hlen], by rw [e9]; exact ⟨_, _, _, _, _, _, DR_app 0 hR1 (w_z hw) (ty_fresh (DR_ty hR0) hq) hc9 (fun z => absurd (show 3 ≤ 1 from z) (by decide)) q1 q2 q3⟩⟩)
      · have hfu : 300 ≤ S.length := by
          rw [← hlen]
          by_cases z : 300 ≤ ty.length
          · exact z
          · rw [if_neg z] at c29
            exact absurd rfl c29
        refine lv_bipush (v := (-2)) hx hb dX4_pointer_32 (by decide) ?_
        have e9 : fPtr S t = (-2, S) := by simp [fPtr, ht, hf9, hfu]
        exact r_int hx hb hr hlocks hw dX4_pointer_34 (Nat.le_of_ble_eq_true rfl) (Nat.le_of_ble_eq_true rfl) (⟨by rw [e9], by rw [e9]; exact ⟨kl, ka, ty, ml, ma, mb, hR0⟩⟩)
    · exact absurd rfl c20
theorem d_pointer (l : Launch) (g : GG) (h : Nat → Option va_E) (x : Nat) (S : List TyS) (N : Nat) (hR : DR g h x S) (hS : wfS N S) (t : Int32) : Con l yX4_pointer wsX4_pointer 8 192 2 805 [.ref x, .int t] g h (fun v h' => v = some (.int (fPtr S t).1) ∧ DR g h' x (fPtr S t).2) := by
  cases ht : lk S t with
  | none => exact d_pointer_N l g h x S N hR hS t ht
  | some T =>
    rcases Nat.lt_or_ge (tK T) 3 with hk | hk
    · exact d_pointer_S l g h x S N hR hS t T ht hk
    · exact d_pointer_C l g h x S N hR hS t T ht hk
set_option maxHeartbeats 4000000 in
set_option maxRecDepth 100000 in
theorem d_array_N (l : Launch) (g : GG) (h : Nat → Option va_E) (x : Nat) (S : List TyS) (N : Nat) (hR : DR g h x S) (hS : wfS N S) (t n : Int32) (ht : lk S t = none) : Con l yX4_array wsX4_array 8 192 2 805 [.ref x, .int t, .int n] g h (fun v h' => v = some (.int (fArr S t n).1) ∧ DR g h' x (fArr S t n).2) := by
  obtain ⟨kl, ka, ty, ml, ma, mb, hR0⟩ := hR
  obtain ⟨hd, hz9, hG, hlen, -⟩ := id hR0
  have hL := hG.1
  have hn9 := AL_len hL
  obtain ⟨⟨mck, hk0⟩, -, -⟩ := id hL
  have htn := DR_lkN hR0 ht
  refine m_start (cc := cX4_array) (maxL := 7) (ret := (some .int)) (by decide) rfl (Nat.le_of_ble_eq_true rfl) ?_
  intro p e s m below meth c A ls hx hb hr hml hts hown hlocks hin hw hl
  have hl : lv_has ls 7 [(0, .ref x), (1, .int t), (2, .int n)] := hl
  have hown : s.vm.findClass RX4 = some m.cls := hown
  refine lv_aload_n hx hb dX4_array_0 rfl (lv_at hl 0 rfl) ?_
  refine lv_iload_n hx hb dX4_array_1 rfl (lv_at hl 1 rfl) ?_
  refine w_call (va_runV (As := [.int t]) (rest := []) ⟨hx, hb, hml, hown, hts⟩ (c_typeAt_N l g h x kl ka ty hd hL t htn s.heap.size) (cwV 1 hts gX4_array_X4_typeAt rfl rfl rfl (by decide +kernel) ⟨Nat.le_of_ble_eq_true rfl, Nat.le_of_ble_eq_true rfl⟩) ⟨pr_blind, w_recv hw hd rfl, pr_of hw⟩ rfl rfl hl.1 rfl (lv_room (Nat.le_of_ble_eq_true rfl)) dX4_array_2 ⟨Nat.le_of_ble_eq_true rfl, Nat.le_of_ble_eq_true rfl⟩) hw (fun v h' H locs hp hw => ?_)
  obtain ⟨rfl, rfl⟩ := hp
  refine W.eq (g2 := F0 m 5 ls [.null]) rfl ?_
  refine lv_astore_nN (lv' := [(3, .null), (0, .ref x), (1, .int t), (2, .int n)]) hx hb dX4_array_5 rfl hl (by decide) rfl (fun ls hl => ?_)
  refine lv_aload_nN hx hb dX4_array_6 rfl (lv_at hl 0 rfl) ?_
  refine lv_ifnullN (tgt := 21) hx hb dX4_array_7 (by decide) ?_
  refine lv_iconst (v := (-1)) hx hb dX4_array_21 (by decide) ?_
  have e9 : fArr S t n = (-1, S) := by simp [fArr, ht]
  exact r_int hx hb hr hlocks hw dX4_array_22 (Nat.le_of_ble_eq_true rfl) (Nat.le_of_ble_eq_true rfl) (⟨by rw [e9], by rw [e9]; exact ⟨kl, ka, ty, ml, ma, mb, hR0⟩⟩)
theorem in_X4_array_3 : ∀ w ∈ u_ws RX2 TX2 5, w ∈ wsX4_array := by decide +kernel
set_option maxHeartbeats 4000000 in
set_option maxRecDepth 100000 in
theorem d_array_S (l : Launch) (g : GG) (h : Nat → Option va_E) (x : Nat) (S : List TyS) (N : Nat) (hR : DR g h x S) (hS : wfS N S) (t n : Int32) (T : TyS) (ht : lk S t = some T) (hk : tK T < 3) : Con l yX4_array wsX4_array 8 192 2 805 [.ref x, .int t, .int n] g h (fun v h' => v = some (.int (fArr S t n).1) ∧ DR g h' x (fArr S t n).2) := by
  obtain ⟨kl, ka, ty, ml, ma, mb, hR0⟩ := hR
  obtain ⟨hd, hz9, hG, hlen, -⟩ := id hR0
  have hL := hG.1
  have hn9 := AL_len hL
  obtain ⟨⟨mck, hk0⟩, -, -⟩ := id hL
  obtain ⟨a, ha1, ha2, ha3, hc⟩ := DR_lk hR0 ht
  have ha : h a = some (oSi (nI (tSz T)) (nI (tAl T)) (nI (tK T)) (if tK T = 0 then -1 else nI (tTo T)) (nI (tLn T))) := by
    rcases hc with ⟨z1, z2⟩ | ⟨z1, -⟩
    · exact z2
    · exact absurd hk (by omega)
  have hT : isTy h a := cX_ty hc
  refine m_start (cc := cX4_array) (maxL := 7) (ret := (some .int)) (by decide) rfl (Nat.le_of_ble_eq_true rfl) ?_
  intro p e s m below meth c A ls hx hb hr hml hts hown hlocks hin hw hl
  have hl : lv_has ls 7 [(0, .ref x), (1, .int t), (2, .int n)] := hl
  have hown : s.vm.findClass RX4 = some m.cls := hown
  refine lv_aload_n hx hb dX4_array_0 rfl (lv_at hl 0 rfl) ?_
  refine lv_iload_n hx hb dX4_array_1 rfl (lv_at hl 1 rfl) ?_
  refine w_call (va_runV (As := [.int t]) (rest := []) ⟨hx, hb, hml, hown, hts⟩ (c_typeAt_S l g h x kl ka ty hd hL t a ha1 hT s.heap.size) (cwV 1 hts gX4_array_X4_typeAt rfl rfl rfl (by decide +kernel) ⟨Nat.le_of_ble_eq_true rfl, Nat.le_of_ble_eq_true rfl⟩) ⟨pr_blind, w_recv hw hd rfl, pr_of hw⟩ rfl rfl hl.1 rfl (lv_room (Nat.le_of_ble_eq_true rfl)) dX4_array_2 ⟨Nat.le_of_ble_eq_true rfl, Nat.le_of_ble_eq_true rfl⟩) hw (fun v h' H locs hp hw => ?_)
  obtain ⟨rfl, rfl⟩ := hp
  refine W.eq (g2 := F0 m 5 ls [.ref a]) rfl ?_
  refine lv_astore_n (lv' := [(3, .ref a), (0, .ref x), (1, .int t), (2, .int n)]) hx hb dX4_array_5 rfl hl (by decide) rfl (fun ls hl => ?_)
  refine lv_aload_n hx hb dX4_array_6 rfl (lv_at hl 0 rfl) ?_
  refine lv_ifnull hx hb dX4_array_7 ?_
  refine lv_iload_n hx hb dX4_array_10 rfl (lv_at hl 3 rfl) ?_
  refine lv_iconst (v := 1) hx hb dX4_array_11 (by decide) ?_
  refine lv_icmp_lt (tgt := 21) hx hb dX4_array_12 (by decide) (fun c12 => ?_) (fun c12 => ?_)
  · refine lv_iconst (v := (-1)) hx hb dX4_array_21 (by decide) ?_
    have e9 : fArr S t n = (-1, S) := by simp [fArr, ht, c12]
    exact r_int hx hb hr hlocks hw dX4_array_22 (Nat.le_of_ble_eq_true rfl) (Nat.le_of_ble_eq_true rfl) (⟨by rw [e9], by rw [e9]; exact ⟨kl, ka, ty, ml, ma, mb, hR0⟩⟩)
  · refine lv_iload_n hx hb dX4_array_15 rfl (lv_at hl 3 rfl) ?_
    refine lv_ldc (v := 524288) hx hb hown (hts (.constant RX4 51 (524288)) (by decide +kernel)) dX4_array_16 ?_
    refine lv_icmp_le (tgt := 23) hx hb dX4_array_18 (by decide) (fun c18 => ?_) (fun c18 => ?_)
    · obtain ⟨en, hn1, hn2⟩ := arr_n c12 c18
      refine lv_aload_n hx hb dX4_array_23 rfl (lv_at hl 0 rfl) ?_
      refine w_get (ci := 3) (C := RX2) (T := TX2) (N := 5) (ref := "LayoutDesk$Type") hx hb hts in_X4_array_3 hown hw ha rfl 0 (by decide) (hts (.fieldLink RX4 52 "LayoutDesk$Type" "bytes" "I") (by decide +kernel)) (fun _ h9 => h9) rfl dX4_array_24 ?_
      refine lv_if_ne (tgt := 33) hx hb dX4_array_27 (by decide) (fun c27 => ?_) (fun c27 => ?_)
      · refine lv_aload_n hx hb dX4_array_33 rfl (lv_at hl 0 rfl) ?_
        refine w_get (ci := 3) (C := RX2) (T := TX2) (N := 5) (ref := "LayoutDesk$Type") hx hb hts in_X4_array_3 hown hw ha rfl 0 (by decide) (hts (.fieldLink RX4 52 "LayoutDesk$Type" "bytes" "I") (by decide +kernel)) (fun _ h9 => h9) rfl dX4_array_34 ?_
        refine lv_i2l (v := (nI (tSz T)).toInt64) hx hb dX4_array_37 rfl ?_
        refine lv_iload_n hx hb dX4_array_38 rfl (lv_at hl 3 rfl) ?_
        refine lv_i2l (v := n.toInt64) hx hb dX4_array_39 rfl ?_
        refine lv_lmul hx hb dX4_array_40 ?_
        refine lv_topl (fun b8 eb8 => ?_)
        have hb8 := mul_le (hS.2.2 _ _ ha3).1.2.2.2.1 hn2 (eb8.trans (by rw [← en]))
        refine lv_lstore (lv' := [(4, .long b8), (3, .ref a), (0, .ref x), (1, .int t), (2, .int n)]) hx hb dX4_array_41 hl (by decide) rfl (fun ls hl => ?_)
        refine lv_lload hx hb dX4_array_43 (lv_at hl 0 rfl) ?_
        refine lv_ldc2 (v := 524288) hx hb hown (hts (.constantLong RX4 58 (524288)) (by decide +kernel)) dX4_array_45 ?_
        refine W.lcmp hx hb dX4_array_48 ?_
        refine lv_if_le (tgt := 55) hx hb dX4_array_49 (by decide) (fun c49 => ?_) (fun c49 => ?_)
        · refine lv_aload_n hx hb dX4_array_55 rfl (lv_at hl 2 rfl) ?_
          refine lv_iconst (v := 2) hx hb dX4_array_56 (by decide) ?_
          refine lv_iload_n hx hb dX4_array_57 rfl (lv_at hl 3 rfl) ?_
          refine lv_iload_n hx hb dX4_array_58 rfl (lv_at hl 4 rfl) ?_
          refine w_call (va_runV (As := [.int 2, .int t, .int n]) (rest := []) ⟨hx, hb, hml, hown, hts⟩ (c_find l g h x kl ka ty hd hL 2 t n (DR_ty hR0) H.size) (cwV 3 hts gX4_array_X4_find rfl rfl rfl (by decide +kernel) ⟨Nat.le_of_ble_eq_true rfl, Nat.le_of_ble_eq_true rfl⟩) ⟨pr_blind, w_recv hw hd rfl, pr_of hw⟩ rfl rfl hl.1 rfl (lv_room (Nat.le_of_ble_eq_true rfl)) dX4_array_59 ⟨Nat.le_of_ble_eq_true rfl, Nat.le_of_ble_eq_true rfl⟩) hw (fun v h' H locs hp hw => ?_)
          have et : t = nI t.toNatClampNeg := (lk_lt ht (by have := hS.2.1; omega)).2.1
          obtain ⟨rfl, ⟨i9, hi9, rfl, hi2, hi3⟩ | ⟨rfl, hno9⟩⟩ := hp
          · refine W.eq (g2 := F0 m 62 ls [.int (nI i9)]) rfl ?_
            have hf9 : fnd S 2 t.toNatClampNeg n.toNatClampNeg = some i9 := DR_fndS hR0 hS (Or.inr rfl) (by have := lk_lt ht (by have := hS.2.1; omega); have := hS.2.1; omega) (by omega) hi9 (by rw [← et, ← en]; exact hi2) (by rw [← et, ← en]; exact hi3)
            refine lv_istore (lv' := [(6, .int (nI i9)), (4, .long b8), (3, .ref a), (0, .ref x), (1, .int t), (2, .int n)]) hx hb dX4_array_62 hl (by decide) rfl (fun ls hl => ?_)
            refine lv_iload hx hb dX4_array_64 (lv_at hl 0 rfl) ?_
            refine lv_iconst (v := (-1)) hx hb dX4_array_66 (by decide) ?_
            refine lv_icmp_eq (tgt := 73) hx hb dX4_array_67 (by decide) (fun c67 => ?_) (fun c67 => ?_)
            · exact absurd c67 (fun z => by have := nI_pos (n := i9) (by omega); rw [z] at this; exact this (by decide))
            · refine lv_iload hx hb dX4_array_70 (lv_at hl 0 rfl) ?_
              have e9 : fArr S t n = (nI i9, S) := by simp [fArr, ht, (show ¬ (n < 1 ∨ 524288 < n) from fun z => z.elim c12 (fun z => Int32.not_lt.mpr c18 z)), show ¬ tSz T = 0 from fun z => c27 (by rw [z]; exact nI_0), show ¬ 524288 < tSz T * n.toNatClampNeg from Nat.not_lt.mpr (hb8.2.mp c49), hf9]
              exact r_int hx hb hr hlocks hw dX4_array_72 (Nat.le_of_ble_eq_true rfl) (Nat.le_of_ble_eq_true rfl) (⟨by rw [e9], by rw [e9]; exact ⟨kl, ka, ty, ml, ma, mb, hR0⟩⟩)
          · refine W.eq (g2 := F0 m 62 ls [.int (-1)]) rfl ?_
            have hf9 : fnd S 2 t.toNatClampNeg n.toNatClampNeg = none := DR_fndN hR0 hS (Or.inr rfl) (by have := lk_lt ht (by have := hS.2.1; omega); have := hS.2.1; omega) (by omega) (by rw [← et, ← en]; exact hno9)
            refine lv_istore (lv' := [(6, .int (-1)), (4, .long b8), (3, .ref a), (0, .ref x), (1, .int t), (2, .int n)]) hx hb dX4_array_62 hl (by decide) rfl (fun ls hl => ?_)
            refine lv_iload hx hb dX4_array_64 (lv_at hl 0 rfl) ?_
            refine lv_iconst (v := (-1)) hx hb dX4_array_66 (by decide) ?_
            refine lv_icmp_eq (tgt := 73) hx hb dX4_array_67 (by decide) (fun c67 => ?_) (fun c67 => ?_)
            · refine lv_aload_n hx hb dX4_array_73 rfl (lv_at hl 3 rfl) ?_
              refine w_call (va_runV (As := []) (rest := []) ⟨hx, hb, hml, hown, hts⟩ (c_isFull l g h x kl ka ty hd hL H.size) (cwV 0 hts gX4_array_X4_isFull rfl rfl rfl (by decide +kernel) ⟨Nat.le_of_ble_eq_true rfl, Nat.le_of_ble_eq_true rfl⟩) ⟨pr_blind, w_recv hw hd rfl, pr_of hw⟩ rfl rfl hl.1 rfl (lv_room (Nat.le_of_ble_eq_true rfl)) dX4_array_74 ⟨Nat.le_of_ble_eq_true rfl, Nat.le_of_ble_eq_true rfl⟩) hw (fun v h' H locs hp hw => ?_)
              obtain ⟨rfl, rfl⟩ := hp
              refine W.eq (g2 := F0 m 77 ls [.int (if 300 ≤ ty.length then 1 else 0)]) rfl ?_
              refine lv_if_eq (tgt := 83) hx hb dX4_array_77 (by decide) (fun c77 => ?_) (fun c77 => ?_)
              · have hnf : ¬ 300 ≤ S.length := fun z => by rw [← hlen] at z; rw [if_pos z] at c77; exact absurd c77 (by decide)
                refine lv_aload_n hx hb dX4_array_83 rfl (lv_at hl 3 rfl) ?_
                refine w_new (ci := 3) (C := RX2) (T := TX2) (N := 5) (fs := [.int 0, .int 0, .int 0, .int 0, .int 0]) hx hb hts in_X4_array_3 tyX2 tyX2_ok hown (hts (.classLink RX4 20 RX2) (by decide +kernel)) (hts (.instantiable RX2 5) (by decide +kernel)) (hts (.initialized RX2) (by decide +kernel)) hw rfl (fun j hj => by rcases (show j = 0 ∨ j = 1 ∨ j = 2 ∨ j = 3 ∨ j = 4 by omega) with rfl | rfl | rfl | rfl | rfl <;> rfl) (Nat.le_of_ble_eq_true rfl) (Nat.le_of_ble_eq_true rfl) dX4_array_84 (fun q H hq hw => ?_)
                refine lv_dup hx hb dX4_array_87 rfl ?_
                refine lv_iconst (v := 2) hx hb dX4_array_88 (by decide) ?_
                refine lv_iload_n hx hb dX4_array_89 rfl (lv_at hl 4 rfl) ?_
                refine lv_iload_n hx hb dX4_array_90 rfl (lv_at hl 5 rfl) ?_
                refine lv_lload hx hb dX4_array_91 (lv_at hl 1 rfl) ?_
                refine lv_l2i (v := b8.toInt32) hx hb dX4_array_93 rfl ?_
                refine lv_aload_n hx hb dX4_array_94 rfl (lv_at hl 2 rfl) ?_
                refine w_get (ci := 3) (C := RX2) (T := TX2) (N := 5) (ref := "LayoutDesk$Type") hx hb hts in_X4_array_3 hown hw ((wu_n (ne_n ha hq)).trans ha) rfl 1 (by decide) (hts (.fieldLink RX4 60 "LayoutDesk$Type" "alignment" "I") (by decide +kernel)) (fun _ h9 => h9) rfl dX4_array_95 ?_
                refine w_call (va_runI (As := [.int 2, .int t, .int n, .int b8.toInt32, .int (nI (tAl T))]) (rest := [.ref q, .ref x]) ⟨hx, hb, hml, hown, hts⟩ (c_Simple_init l g (wu h q (.inr (3, [.int 0, .int 0, .int 0, .int 0, .int 0]))) q 0 0 0 0 0 2 t n b8.toInt32 (nI (tAl T)) (wu_s _ _ _) H.size) (cwI 5 hts gX4_array_X2_init rfl rfl rfl (hts (.initialized RX2) (by decide +kernel)) (hts (.methodLink RX4 28 yX2_init) (by decide +kernel)) (hts (.instanceMethod yX2_init) (by decide +kernel)) rfl (by decide +kernel) ⟨Nat.le_of_ble_eq_true rfl, Nat.le_of_ble_eq_true rfl⟩) ⟨pr_blind, pr_of hw⟩ rfl rfl hl.1 rfl (lv_room (Nat.le_of_ble_eq_true rfl)) dX4_array_98 ⟨Nat.le_of_ble_eq_true rfl, Nat.le_of_ble_eq_true rfl⟩) hw (fun v h' H locs hp hw => ?_)
                obtain ⟨rfl, rfl⟩ := hp
                refine W.eq (g2 := F0 m 101 ls [.ref q, .ref x]) rfl ?_
                have hR1 : DR0 g (wu (wu h q (.inr (3, [.int 0, .int 0, .int 0, .int 0, .int 0]))) q (.inr (3, [.int b8.toInt32, .int (nI (tAl T)), .int 2, .int t, .int n]))) x S kl ka ty ml ma mb := DR_ext hR0 (ext_re (ext_new hq) hq) (w_z hw)
                refine w_call (va_runV (As := [.ref q]) (rest := []) ⟨hx, hb, hml, hown, hts⟩ (c_enter l g (wu (wu h q (.inr (3, [.int 0, .int 0, .int 0, .int 0, .int 0]))) q (.inr (3, [.int b8.toInt32, .int (nI (tAl T)), .int 2, .int t, .int n]))) x kl ka ty hR1.1 hR1.2.2.1.1 q ⟨3, _, wu_s _ _ _, by decide, by decide⟩ (by omega) H.size) (cwV 1 hts gX4_array_X4_enter rfl rfl rfl (by decide +kernel) ⟨Nat.le_of_ble_eq_true rfl, Nat.le_of_ble_eq_true rfl⟩) ⟨pr_blind, w_recv hw hR1.1 rfl, pr_of hw⟩ rfl rfl hl.1 rfl (lv_room (Nat.le_of_ble_eq_true rfl)) dX4_array_101 ⟨Nat.le_of_ble_eq_true rfl, Nat.le_of_ble_eq_true rfl⟩) hw (fun v h' H locs hp hw => ?_)
                obtain ⟨ka', rfl, q1, q2, q3⟩ := hp
                refine W.eq (g2 := F0 m 104 ls [.int (nI ty.length)]) rfl ?_
                have e9 : fArr S t n = (nI S.length, S ++ [(2, t.toNatClampNeg, n.toNatClampNeg, tSz T * n.toNatClampNeg, tAl T, [], false)]) := by simp [fArr, ht, (show ¬ (n < 1 ∨ 524288 < n) from fun z => z.elim c12 (fun z => Int32.not_lt.mpr c18 z)), show ¬ tSz T = 0 from fun z => c27 (by rw [z]; exact nI_0), show ¬ 524288 < tSz T * n.toNatClampNeg from Nat.not_lt.mpr (hb8.2.mp c49), hf9, hnf]
                have hc9 : cX (wu (wu h q (.inr (3, [.int 0, .int 0, .int 0, .int 0, .int 0]))) q (.inr (3, [.int b8.toInt32, .int (nI (tAl T)), .int 2, .int t, .int n]))) q (2, t.toNatClampNeg, n.toNatClampNeg, tSz T * n.toNatClampNeg, tAl T, [], false) 0 [] := Or.inl ⟨show 2 < 3 by decide, by
                  show wu _ _ _ _ = some (oSi (nI (tSz T * n.toNatClampNeg)) (nI (tAl T)) (nI 2) (nI t.toNatClampNeg) (nI n.toNatClampNeg))
                  rw [wu_s, ← et, ← en, hb8.1, lN_i]
                  rfl⟩
                exact r_int hx hb hr hlocks hw dX4_array_104 (Nat.le_of_ble_eq_true rfl) (Nat.le_of_ble_eq_true rfl) (⟨by rw [e9, hlen], by rw [e9]; exact ⟨_, _, _, _, _, _, DR_app 0 hR1 (w_z hw) (ty_fresh (DR_ty hR0) hq) hc9 (fun z => absurd (show 3 ≤ 2 from z) (by decide)) q1 q2 q3⟩⟩)
              · have hfu : 300 ≤ S.length := by
                  rw [← hlen]
                  by_cases z : 300 ≤ ty.length
                  · exact z
                  · rw [if_neg z] at c77
                    exact absurd rfl c77
                refine lv_bipush (v := (-4)) hx hb dX4_array_80 (by decide) ?_
                have e9 : fArr S t n = (-4, S) := by simp [fArr, ht, (show ¬ (n < 1 ∨ 524288 < n) from fun z => z.elim c12 (fun z => Int32.not_lt.mpr c18 z)), show ¬ tSz T = 0 from fun z => c27 (by rw [z]; exact nI_0), show ¬ 524288 < tSz T * n.toNatClampNeg from Nat.not_lt.mpr (hb8.2.mp c49), hf9, hfu]
                exact r_int hx hb hr hlocks hw dX4_array_82 (Nat.le_of_ble_eq_true rfl) (Nat.le_of_ble_eq_true rfl) (⟨by rw [e9], by rw [e9]; exact ⟨kl, ka, ty, ml, ma, mb, hR0⟩⟩)
            · exact absurd rfl c67
        · refine lv_bipush (v := (-3)) hx hb dX4_array_52 (by decide) ?_
          have e9 : fArr S t n = (-3, S) := by simp [fArr, ht, (show ¬ (n < 1 ∨ 524288 < n) from fun z => z.elim c12 (fun z => Int32.not_lt.mpr c18 z)), show ¬ tSz T = 0 from fun z => c27 (by rw [z]; exact nI_0), show 524288 < tSz T * n.toNatClampNeg from Nat.lt_of_not_le (fun z => c49 (hb8.2.mpr z))]
          exact r_int hx hb hr hlocks hw dX4_array_54 (Nat.le_of_ble_eq_true rfl) (Nat.le_of_ble_eq_true rfl) (⟨by rw [e9], by rw [e9]; exact ⟨kl, ka, ty, ml, ma, mb, hR0⟩⟩)
      · refine lv_bipush (v := (-2)) hx hb dX4_array_30 (by decide) ?_
        have e9 : fArr S t n = (-2, S) := by simp [fArr, ht, (show ¬ (n < 1 ∨ 524288 < n) from fun z => z.elim c12 (fun z => Int32.not_lt.mpr c18 z)), show tSz T = 0 from (nI_eq (b := 0) (by have := (hS.2.2 _ _ ha3).1.2.2.2.1; omega) (by decide)).mp (c27.trans nI_0.symm)]
        exact r_int hx hb hr hlocks hw dX4_array_32 (Nat.le_of_ble_eq_true rfl) (Nat.le_of_ble_eq_true rfl) (⟨by rw [e9], by rw [e9]; exact ⟨kl, ka, ty, ml, ma, mb, hR0⟩⟩)
    · refine lv_iconst (v := (-1)) hx hb dX4_array_21 (by decide) ?_
      have e9 : fArr S t n = (-1, S) := by simp [fArr, ht, Int32.not_le.mp c18]
      exact r_int hx hb hr hlocks hw dX4_array_22 (Nat.le_of_ble_eq_true rfl) (Nat.le_of_ble_eq_true rfl) (⟨by rw [e9], by rw [e9]; exact ⟨kl, ka, ty, ml, ma, mb, hR0⟩⟩)
theorem in_X4_array_1 : ∀ w ∈ u_ws RX0 TX0 8, w ∈ wsX4_array := by decide +kernel
set_option maxHeartbeats 4000000 in
set_option maxRecDepth 100000 in
theorem d_array_C (l : Launch) (g : GG) (h : Nat → Option va_E) (x : Nat) (S : List TyS) (N : Nat) (hR : DR g h x S) (hS : wfS N S) (t n : Int32) (T : TyS) (ht : lk S t = some T) (hk : 3 ≤ tK T) : Con l yX4_array wsX4_array 8 192 2 805 [.ref x, .int t, .int n] g h (fun v h' => v = some (.int (fArr S t n).1) ∧ DR g h' x (fArr S t n).2) := by
  obtain ⟨kl, ka, ty, ml, ma, mb, hR0⟩ := hR
  obtain ⟨hd, hz9, hG, hlen, -⟩ := id hR0
  have hL := hG.1
  have hn9 := AL_len hL
  obtain ⟨⟨mck, hk0⟩, -, -⟩ := id hL
  obtain ⟨a, ha1, ha2, ha3, hc⟩ := DR_lk hR0 ht
  obtain ⟨⟨up, fb, ha, huo⟩, hml9, hmm⟩ : (∃ up fb : Int32, h a = some (oCo (nI (tSz T)) (nI (tAl T)) (if tK T = 4 then 1 else 0) (ml t.toNatClampNeg) (if tFi T = true then 0 else 1) (nI (ly T).1) up fb) ∧ uOK (tK T == 4) (ly T).2.2.1 up fb) ∧ (mb t.toNatClampNeg).length = (ly T).2.2.2.length ∧ ∀ (j y : Nat) (m : Nat × Nat × Nat × Nat), (mb t.toNatClampNeg)[j]? = some y → (ly T).2.2.2[j]? = some m → h y = some (oMb (nI m.1) (nI m.2.1) (nI m.2.2.1) (nI m.2.2.2)) := by
    rcases hc with ⟨z1, -⟩ | ⟨z1, z2⟩
    · exact absurd hk (by omega)
    · exact z2
  have hT : isTy h a := Or.inl ⟨_, _, _, _, _, _, _, _, ha⟩
  obtain ⟨hM, hmk, -⟩ := hG.2.2.1 t.toNatClampNeg (by have := (List.getElem?_eq_some_iff.mp ha2).1; omega) ⟨T, ha3, hk⟩
  obtain ⟨⟨mcm, hm0⟩, -, -⟩ := id hM
  refine m_start (cc := cX4_array) (maxL := 7) (ret := (some .int)) (by decide) rfl (Nat.le_of_ble_eq_true rfl) ?_
  intro p e s m below meth c A ls hx hb hr hml hts hown hlocks hin hw hl
  have hl : lv_has ls 7 [(0, .ref x), (1, .int t), (2, .int n)] := hl
  have hown : s.vm.findClass RX4 = some m.cls := hown
  refine lv_aload_n hx hb dX4_array_0 rfl (lv_at hl 0 rfl) ?_
  refine lv_iload_n hx hb dX4_array_1 rfl (lv_at hl 1 rfl) ?_
  refine w_call (va_runV (As := [.int t]) (rest := []) ⟨hx, hb, hml, hown, hts⟩ (c_typeAt_S l g h x kl ka ty hd hL t a ha1 hT s.heap.size) (cwV 1 hts gX4_array_X4_typeAt rfl rfl rfl (by decide +kernel) ⟨Nat.le_of_ble_eq_true rfl, Nat.le_of_ble_eq_true rfl⟩) ⟨pr_blind, w_recv hw hd rfl, pr_of hw⟩ rfl rfl hl.1 rfl (lv_room (Nat.le_of_ble_eq_true rfl)) dX4_array_2 ⟨Nat.le_of_ble_eq_true rfl, Nat.le_of_ble_eq_true rfl⟩) hw (fun v h' H locs hp hw => ?_)
  obtain ⟨rfl, rfl⟩ := hp
  refine W.eq (g2 := F0 m 5 ls [.ref a]) rfl ?_
  refine lv_astore_n (lv' := [(3, .ref a), (0, .ref x), (1, .int t), (2, .int n)]) hx hb dX4_array_5 rfl hl (by decide) rfl (fun ls hl => ?_)
  refine lv_aload_n hx hb dX4_array_6 rfl (lv_at hl 0 rfl) ?_
  refine lv_ifnull hx hb dX4_array_7 ?_
  refine lv_iload_n hx hb dX4_array_10 rfl (lv_at hl 3 rfl) ?_
  refine lv_iconst (v := 1) hx hb dX4_array_11 (by decide) ?_
  refine lv_icmp_lt (tgt := 21) hx hb dX4_array_12 (by decide) (fun c12 => ?_) (fun c12 => ?_)
  · refine lv_iconst (v := (-1)) hx hb dX4_array_21 (by decide) ?_
    have e9 : fArr S t n = (-1, S) := by simp [fArr, ht, c12]
    exact r_int hx hb hr hlocks hw dX4_array_22 (Nat.le_of_ble_eq_true rfl) (Nat.le_of_ble_eq_true rfl) (⟨by rw [e9], by rw [e9]; exact ⟨kl, ka, ty, ml, ma, mb, hR0⟩⟩)
  · refine lv_iload_n hx hb dX4_array_15 rfl (lv_at hl 3 rfl) ?_
    refine lv_ldc (v := 524288) hx hb hown (hts (.constant RX4 51 (524288)) (by decide +kernel)) dX4_array_16 ?_
    refine lv_icmp_le (tgt := 23) hx hb dX4_array_18 (by decide) (fun c18 => ?_) (fun c18 => ?_)
    · obtain ⟨en, hn1, hn2⟩ := arr_n c12 c18
      refine lv_aload_n hx hb dX4_array_23 rfl (lv_at hl 0 rfl) ?_
      refine w_get (ci := 1) (C := RX0) (T := TX0) (N := 8) (ref := "LayoutDesk$Type") hx hb hts in_X4_array_1 hown hw ha rfl 0 (by decide) (hts (.fieldLink RX4 52 "LayoutDesk$Type" "bytes" "I") (by decide +kernel)) (fun _ h9 => h9) rfl dX4_array_24 ?_
      refine lv_if_ne (tgt := 33) hx hb dX4_array_27 (by decide) (fun c27 => ?_) (fun c27 => ?_)
      · refine lv_aload_n hx hb dX4_array_33 rfl (lv_at hl 0 rfl) ?_
        refine w_get (ci := 1) (C := RX0) (T := TX0) (N := 8) (ref := "LayoutDesk$Type") hx hb hts in_X4_array_1 hown hw ha rfl 0 (by decide) (hts (.fieldLink RX4 52 "LayoutDesk$Type" "bytes" "I") (by decide +kernel)) (fun _ h9 => h9) rfl dX4_array_34 ?_
        refine lv_i2l (v := (nI (tSz T)).toInt64) hx hb dX4_array_37 rfl ?_
        refine lv_iload_n hx hb dX4_array_38 rfl (lv_at hl 3 rfl) ?_
        refine lv_i2l (v := n.toInt64) hx hb dX4_array_39 rfl ?_
        refine lv_lmul hx hb dX4_array_40 ?_
        refine lv_topl (fun b8 eb8 => ?_)
        have hb8 := mul_le (hS.2.2 _ _ ha3).1.2.2.2.1 hn2 (eb8.trans (by rw [← en]))
        refine lv_lstore (lv' := [(4, .long b8), (3, .ref a), (0, .ref x), (1, .int t), (2, .int n)]) hx hb dX4_array_41 hl (by decide) rfl (fun ls hl => ?_)
        refine lv_lload hx hb dX4_array_43 (lv_at hl 0 rfl) ?_
        refine lv_ldc2 (v := 524288) hx hb hown (hts (.constantLong RX4 58 (524288)) (by decide +kernel)) dX4_array_45 ?_
        refine W.lcmp hx hb dX4_array_48 ?_
        refine lv_if_le (tgt := 55) hx hb dX4_array_49 (by decide) (fun c49 => ?_) (fun c49 => ?_)
        · refine lv_aload_n hx hb dX4_array_55 rfl (lv_at hl 2 rfl) ?_
          refine lv_iconst (v := 2) hx hb dX4_array_56 (by decide) ?_
          refine lv_iload_n hx hb dX4_array_57 rfl (lv_at hl 3 rfl) ?_
          refine lv_iload_n hx hb dX4_array_58 rfl (lv_at hl 4 rfl) ?_
          refine w_call (va_runV (As := [.int 2, .int t, .int n]) (rest := []) ⟨hx, hb, hml, hown, hts⟩ (c_find l g h x kl ka ty hd hL 2 t n (DR_ty hR0) H.size) (cwV 3 hts gX4_array_X4_find rfl rfl rfl (by decide +kernel) ⟨Nat.le_of_ble_eq_true rfl, Nat.le_of_ble_eq_true rfl⟩) ⟨pr_blind, w_recv hw hd rfl, pr_of hw⟩ rfl rfl hl.1 rfl (lv_room (Nat.le_of_ble_eq_true rfl)) dX4_array_59 ⟨Nat.le_of_ble_eq_true rfl, Nat.le_of_ble_eq_true rfl⟩) hw (fun v h' H locs hp hw => ?_)
          have et : t = nI t.toNatClampNeg := (lk_lt ht (by have := hS.2.1; omega)).2.1
          obtain ⟨rfl, ⟨i9, hi9, rfl, hi2, hi3⟩ | ⟨rfl, hno9⟩⟩ := hp
          · refine W.eq (g2 := F0 m 62 ls [.int (nI i9)]) rfl ?_
            have hf9 : fnd S 2 t.toNatClampNeg n.toNatClampNeg = some i9 := DR_fndS hR0 hS (Or.inr rfl) (by have := lk_lt ht (by have := hS.2.1; omega); have := hS.2.1; omega) (by omega) hi9 (by rw [← et, ← en]; exact hi2) (by rw [← et, ← en]; exact hi3)
            refine lv_istore (lv' := [(6, .int (nI i9)), (4, .long b8), (3, .ref a), (0, .ref x), (1, .int t), (2, .int n)]) hx hb dX4_array_62 hl (by decide) rfl (fun ls hl => ?_)
            refine lv_iload hx hb dX4_array_64 (lv_at hl 0 rfl) ?_
            refine lv_iconst (v := (-1)) hx hb dX4_array_66 (by decide) ?_
            refine lv_icmp_eq (tgt := 73) hx hb dX4_array_67 (by decide) (fun c67 => ?_) (fun c67 => ?_)
            · exact absurd c67 (fun z => by have := nI_pos (n := i9) (by omega); rw [z] at this; exact this (by decide))
            · refine lv_iload hx hb dX4_array_70 (lv_at hl 0 rfl) ?_
              have e9 : fArr S t n = (nI i9, S) := by simp [fArr, ht, (show ¬ (n < 1 ∨ 524288 < n) from fun z => z.elim c12 (fun z => Int32.not_lt.mpr c18 z)), show ¬ tSz T = 0 from fun z => c27 (by rw [z]; exact nI_0), show ¬ 524288 < tSz T * n.toNatClampNeg from Nat.not_lt.mpr (hb8.2.mp c49), hf9]
              exact r_int hx hb hr hlocks hw dX4_array_72 (Nat.le_of_ble_eq_true rfl) (Nat.le_of_ble_eq_true rfl) (⟨by rw [e9], by rw [e9]; exact ⟨kl, ka, ty, ml, ma, mb, hR0⟩⟩)
          · refine W.eq (g2 := F0 m 62 ls [.int (-1)]) rfl ?_
            have hf9 : fnd S 2 t.toNatClampNeg n.toNatClampNeg = none := DR_fndN hR0 hS (Or.inr rfl) (by have := lk_lt ht (by have := hS.2.1; omega); have := hS.2.1; omega) (by omega) (by rw [← et, ← en]; exact hno9)
            refine lv_istore (lv' := [(6, .int (-1)), (4, .long b8), (3, .ref a), (0, .ref x), (1, .int t), (2, .int n)]) hx hb dX4_array_62 hl (by decide) rfl (fun ls hl => ?_)
            refine lv_iload hx hb dX4_array_64 (lv_at hl 0 rfl) ?_
            refine lv_iconst (v := (-1)) hx hb dX4_array_66 (by decide) ?_
            refine lv_icmp_eq (tgt := 73) hx hb dX4_array_67 (by decide) (fun c67 => ?_) (fun c67 => ?_)
            · refine lv_aload_n hx hb dX4_array_73 rfl (lv_at hl 3 rfl) ?_
              refine w_call (va_runV (As := []) (rest := []) ⟨hx, hb, hml, hown, hts⟩ (c_isFull l g h x kl ka ty hd hL H.size) (cwV 0 hts gX4_array_X4_isFull rfl rfl rfl (by decide +kernel) ⟨Nat.le_of_ble_eq_true rfl, Nat.le_of_ble_eq_true rfl⟩) ⟨pr_blind, w_recv hw hd rfl, pr_of hw⟩ rfl rfl hl.1 rfl (lv_room (Nat.le_of_ble_eq_true rfl)) dX4_array_74 ⟨Nat.le_of_ble_eq_true rfl, Nat.le_of_ble_eq_true rfl⟩) hw (fun v h' H locs hp hw => ?_)
              obtain ⟨rfl, rfl⟩ := hp
              refine W.eq (g2 := F0 m 77 ls [.int (if 300 ≤ ty.length then 1 else 0)]) rfl ?_
              refine lv_if_eq (tgt := 83) hx hb dX4_array_77 (by decide) (fun c77 => ?_) (fun c77 => ?_)
              · have hnf : ¬ 300 ≤ S.length := fun z => by rw [← hlen] at z; rw [if_pos z] at c77; exact absurd c77 (by decide)
                refine lv_aload_n hx hb dX4_array_83 rfl (lv_at hl 3 rfl) ?_
                refine w_new (ci := 3) (C := RX2) (T := TX2) (N := 5) (fs := [.int 0, .int 0, .int 0, .int 0, .int 0]) hx hb hts in_X4_array_3 tyX2 tyX2_ok hown (hts (.classLink RX4 20 RX2) (by decide +kernel)) (hts (.instantiable RX2 5) (by decide +kernel)) (hts (.initialized RX2) (by decide +kernel)) hw rfl (fun j hj => by rcases (show j = 0 ∨ j = 1 ∨ j = 2 ∨ j = 3 ∨ j = 4 by omega) with rfl | rfl | rfl | rfl | rfl <;> rfl) (Nat.le_of_ble_eq_true rfl) (Nat.le_of_ble_eq_true rfl) dX4_array_84 (fun q H hq hw => ?_)
                refine lv_dup hx hb dX4_array_87 rfl ?_
                refine lv_iconst (v := 2) hx hb dX4_array_88 (by decide) ?_
                refine lv_iload_n hx hb dX4_array_89 rfl (lv_at hl 4 rfl) ?_
                refine lv_iload_n hx hb dX4_array_90 rfl (lv_at hl 5 rfl) ?_
                refine lv_lload hx hb dX4_array_91 (lv_at hl 1 rfl) ?_
                refine lv_l2i (v := b8.toInt32) hx hb dX4_array_93 rfl ?_
                refine lv_aload_n hx hb dX4_array_94 rfl (lv_at hl 2 rfl) ?_
                refine w_get (ci := 1) (C := RX0) (T := TX0) (N := 8) (ref := "LayoutDesk$Type") hx hb hts in_X4_array_1 hown hw ((wu_n (ne_n ha hq)).trans ha) rfl 1 (by decide) (hts (.fieldLink RX4 60 "LayoutDesk$Type" "alignment" "I") (by decide +kernel)) (fun _ h9 => h9) rfl dX4_array_95 ?_
                refine w_call (va_runI (As := [.int 2, .int t, .int n, .int b8.toInt32, .int (nI (tAl T))]) (rest := [.ref q, .ref x]) ⟨hx, hb, hml, hown, hts⟩ (c_Simple_init l g (wu h q (.inr (3, [.int 0, .int 0, .int 0, .int 0, .int 0]))) q 0 0 0 0 0 2 t n b8.toInt32 (nI (tAl T)) (wu_s _ _ _) H.size) (cwI 5 hts gX4_array_X2_init rfl rfl rfl (hts (.initialized RX2) (by decide +kernel)) (hts (.methodLink RX4 28 yX2_init) (by decide +kernel)) (hts (.instanceMethod yX2_init) (by decide +kernel)) rfl (by decide +kernel) ⟨Nat.le_of_ble_eq_true rfl, Nat.le_of_ble_eq_true rfl⟩) ⟨pr_blind, pr_of hw⟩ rfl rfl hl.1 rfl (lv_room (Nat.le_of_ble_eq_true rfl)) dX4_array_98 ⟨Nat.le_of_ble_eq_true rfl, Nat.le_of_ble_eq_true rfl⟩) hw (fun v h' H locs hp hw => ?_)
                obtain ⟨rfl, rfl⟩ := hp
                refine W.eq (g2 := F0 m 101 ls [.ref q, .ref x]) rfl ?_
                have hR1 : DR0 g (wu (wu h q (.inr (3, [.int 0, .int 0, .int 0, .int 0, .int 0]))) q (.inr (3, [.int b8.toInt32, .int (nI (tAl T)), .int 2, .int t, .int n]))) x S kl ka ty ml ma mb := DR_ext hR0 (ext_re (ext_new hq) hq) (w_z hw)
                refine w_call (va_runV (As := [.ref q]) (rest := []) ⟨hx, hb, hml, hown, hts⟩ (c_enter l g (wu (wu h q (.inr (3, [.int 0, .int 0, .int 0, .int 0, .int 0]))) q (.inr (3, [.int b8.toInt32, .int (nI (tAl T)), .int 2, .int t, .int n]))) x kl ka ty hR1.1 hR1.2.2.1.1 q ⟨3, _, wu_s _ _ _, by decide, by decide⟩ (by omega) H.size) (cwV 1 hts gX4_array_X4_enter rfl rfl rfl (by decide +kernel) ⟨Nat.le_of_ble_eq_true rfl, Nat.le_of_ble_eq_true rfl⟩) ⟨pr_blind, w_recv hw hR1.1 rfl, pr_of hw⟩ rfl rfl hl.1 rfl (lv_room (Nat.le_of_ble_eq_true rfl)) dX4_array_101 ⟨Nat.le_of_ble_eq_true rfl, Nat.le_of_ble_eq_true rfl⟩) hw (fun v h' H locs hp hw => ?_)
                obtain ⟨ka', rfl, q1, q2, q3⟩ := hp
                refine W.eq (g2 := F0 m 104 ls [.int (nI ty.length)]) rfl ?_
                have e9 : fArr S t n = (nI S.length, S ++ [(2, t.toNatClampNeg, n.toNatClampNeg, tSz T * n.toNatClampNeg, tAl T, [], false)]) := by simp [fArr, ht, (show ¬ (n < 1 ∨ 524288 < n) from fun z => z.elim c12 (fun z => Int32.not_lt.mpr c18 z)), show ¬ tSz T = 0 from fun z => c27 (by rw [z]; exact nI_0), show ¬ 524288 < tSz T * n.toNatClampNeg from Nat.not_lt.mpr (hb8.2.mp c49), hf9, hnf]
                have hc9 : cX (wu (wu h q (.inr (3, [.int 0, .int 0, .int 0, .int 0, .int 0]))) q (.inr (3, [.int b8.toInt32, .int (nI (tAl T)), .int 2, .int t, .int n]))) q (2, t.toNatClampNeg, n.toNatClampNeg, tSz T * n.toNatClampNeg, tAl T, [], false) 0 [] := Or.inl ⟨show 2 < 3 by decide, by
                  show wu _ _ _ _ = some (oSi (nI (tSz T * n.toNatClampNeg)) (nI (tAl T)) (nI 2) (nI t.toNatClampNeg) (nI n.toNatClampNeg))
                  rw [wu_s, ← et, ← en, hb8.1, lN_i]
                  rfl⟩
                exact r_int hx hb hr hlocks hw dX4_array_104 (Nat.le_of_ble_eq_true rfl) (Nat.le_of_ble_eq_true rfl) (⟨by rw [e9, hlen], by rw [e9]; exact ⟨_, _, _, _, _, _, DR_app 0 hR1 (w_z hw) (ty_fresh (DR_ty hR0) hq) hc9 (fun z => absurd (show 3 ≤ 2 from z) (by decide)) q1 q2 q3⟩⟩)
              · have hfu : 300 ≤ S.length := by
                  rw [← hlen]
                  by_cases z : 300 ≤ ty.length
                  · exact z
                  · rw [if_neg z] at c77
                    exact absurd rfl c77
                refine lv_bipush (v := (-4)) hx hb dX4_array_80 (by decide) ?_
                have e9 : fArr S t n = (-4, S) := by simp [fArr, ht, (show ¬ (n < 1 ∨ 524288 < n) from fun z => z.elim c12 (fun z => Int32.not_lt.mpr c18 z)), show ¬ tSz T = 0 from fun z => c27 (by rw [z]; exact nI_0), show ¬ 524288 < tSz T * n.toNatClampNeg from Nat.not_lt.mpr (hb8.2.mp c49), hf9, hfu]
                exact r_int hx hb hr hlocks hw dX4_array_82 (Nat.le_of_ble_eq_true rfl) (Nat.le_of_ble_eq_true rfl) (⟨by rw [e9], by rw [e9]; exact ⟨kl, ka, ty, ml, ma, mb, hR0⟩⟩)
            · exact absurd rfl c67
        · refine lv_bipush (v := (-3)) hx hb dX4_array_52 (by decide) ?_
          have e9 : fArr S t n = (-3, S) := by simp [fArr, ht, (show ¬ (n < 1 ∨ 524288 < n) from fun z => z.elim c12 (fun z => Int32.not_lt.mpr c18 z)), show ¬ tSz T = 0 from fun z => c27 (by rw [z]; exact nI_0), show 524288 < tSz T * n.toNatClampNeg from Nat.lt_of_not_le (fun z => c49 (hb8.2.mpr z))]
          exact r_int hx hb hr hlocks hw dX4_array_54 (Nat.le_of_ble_eq_true rfl) (Nat.le_of_ble_eq_true rfl) (⟨by rw [e9], by rw [e9]; exact ⟨kl, ka, ty, ml, ma, mb, hR0⟩⟩)
      · refine lv_bipush (v := (-2)) hx hb dX4_array_30 (by decide) ?_
        have e9 : fArr S t n = (-2, S) := by simp [fArr, ht, (show ¬ (n < 1 ∨ 524288 < n) from fun z => z.elim c12 (fun z => Int32.not_lt.mpr c18 z)), show tSz T = 0 from (nI_eq (b := 0) (by have := (hS.2.2 _ _ ha3).1.2.2.2.1; omega) (by decide)).mp (c27.trans nI_0.symm)]
        exact r_int hx hb hr hlocks hw dX4_array_32 (Nat.le_of_ble_eq_true rfl) (Nat.le_of_ble_eq_true rfl) (⟨by rw [e9], by rw [e9]; exact ⟨kl, ka, ty, ml, ma, mb, hR0⟩⟩)
    · refine lv_iconst (v := (-1)) hx hb dX4_array_21 (by decide) ?_
      have e9 : fArr S t n = (-1, S) := by simp [fArr, ht, Int32.not_le.mp c18]
      exact r_int hx hb hr hlocks hw dX4_array_22 (Nat.le_of_ble_eq_true rfl) (Nat.le_of_ble_eq_true rfl) (⟨by rw [e9], by rw [e9]; exact ⟨kl, ka, ty, ml, ma, mb, hR0⟩⟩)
theorem d_array (l : Launch) (g : GG) (h : Nat → Option va_E) (x : Nat) (S : List TyS) (N : Nat) (hR : DR g h x S) (hS : wfS N S) (t n : Int32) : Con l yX4_array wsX4_array 8 192 2 805 [.ref x, .int t, .int n] g h (fun v h' => v = some (.int (fArr S t n).1) ∧ DR g h' x (fArr S t n).2) := by
  cases ht : lk S t with
  | none => exact d_array_N l g h x S N hR hS t n ht
  | some T =>
    rcases Nat.lt_or_ge (tK T) 3 with hk | hk
    · exact d_array_S l g h x S N hR hS t n T ht hk
    · exact d_array_C l g h x S N hR hS t n T ht hk
theorem in_X4_record_1 : ∀ w ∈ u_ws RX0 TX0 8, w ∈ wsX4_record := by decide +kernel
set_option maxHeartbeats 4000000 in
set_option maxRecDepth 100000 in
theorem d_record (l : Launch) (g : GG) (h : Nat → Option va_E) (x : Nat) (S : List TyS) (N : Nat) (hR : DR g h x S) (hS : wfS N S) (k : Int32) : Con l yX4_record wsX4_record 8 192 3 811 [.ref x, .int k] g h (fun v h' => v = some (.int (fRec S k).1) ∧ DR g h' x (fRec S k).2) := by
  obtain ⟨kl, ka, ty, ml, ma, mb, hR0⟩ := hR
  obtain ⟨hd, hz9, hG, hlen, -⟩ := id hR0
  have hL := hG.1
  have hn9 := AL_len hL
  obtain ⟨⟨mck, hk0⟩, -, -⟩ := id hL
  refine m_start (cc := cX4_record) (maxL := 2) (ret := (some .int)) (by decide) rfl (Nat.le_of_ble_eq_true rfl) ?_
  intro p e s m below meth c A ls hx hb hr hml hts hown hlocks hin hw hl
  have hl : lv_has ls 2 [(0, .ref x), (1, .int k)] := hl
  have hown : s.vm.findClass RX4 = some m.cls := hown
  refine lv_iload_n hx hb dX4_record_0 rfl (lv_at hl 1 rfl) ?_
  refine lv_if_eq (tgt := 11) hx hb dX4_record_1 (by decide) (fun c1 => ?_) (fun c1 => ?_)
  · refine lv_aload_n hx hb dX4_record_11 rfl (lv_at hl 0 rfl) ?_
    refine w_call (va_runV (As := []) (rest := []) ⟨hx, hb, hml, hown, hts⟩ (c_isFull l g h x kl ka ty hd hL s.heap.size) (cwV 0 hts gX4_record_X4_isFull rfl rfl rfl (by decide +kernel) ⟨Nat.le_of_ble_eq_true rfl, Nat.le_of_ble_eq_true rfl⟩) ⟨pr_blind, w_recv hw hd rfl, pr_of hw⟩ rfl rfl hl.1 rfl (lv_room (Nat.le_of_ble_eq_true rfl)) dX4_record_12 ⟨Nat.le_of_ble_eq_true rfl, Nat.le_of_ble_eq_true rfl⟩) hw (fun v h' H locs hp hw => ?_)
    obtain ⟨rfl, rfl⟩ := hp
    refine W.eq (g2 := F0 m 15 ls [.int (if 300 ≤ ty.length then 1 else 0)]) rfl ?_
    refine lv_if_eq (tgt := 21) hx hb dX4_record_15 (by decide) (fun c15 => ?_) (fun c15 => ?_)
    · have hnf : ¬ 300 ≤ S.length := fun z => by rw [← hlen] at z; rw [if_pos z] at c15; exact absurd c15 (by decide)
      refine lv_aload_n hx hb dX4_record_21 rfl (lv_at hl 0 rfl) ?_
      refine w_new (ci := 1) (C := RX0) (T := TX0) (N := 8) (fs := [.int 0, .int 0, .int 0, .null, .int 0, .int 0, .int 0, .int 0]) hx hb hts in_X4_record_1 tyX0 tyX0_ok hown (hts (.classLink RX4 63 RX0) (by decide +kernel)) (hts (.instantiable RX0 8) (by decide +kernel)) (hts (.initialized RX0) (by decide +kernel)) hw rfl (fun j hj => by rcases (show j = 0 ∨ j = 1 ∨ j = 2 ∨ j = 3 ∨ j = 4 ∨ j = 5 ∨ j = 6 ∨ j = 7 by omega) with rfl | rfl | rfl | rfl | rfl | rfl | rfl | rfl <;> rfl) (Nat.le_of_ble_eq_true rfl) (Nat.le_of_ble_eq_true rfl) dX4_record_22 (fun q H hq hw => ?_)
      refine lv_dup hx hb dX4_record_25 rfl ?_
      refine lv_iload_n hx hb dX4_record_26 rfl (lv_at hl 1 rfl) ?_
      refine lv_iconst (v := 1) hx hb dX4_record_27 (by decide) ?_
      refine lv_icmp_ne (tgt := 35) hx hb dX4_record_28 (by decide) (fun c28 => ?_) (fun c28 => ?_)
      · refine lv_iconst (v := 0) hx hb dX4_record_35 (by decide) ?_
        refine w_call (va_runI (As := [.int 0]) (rest := [.ref q, .ref x]) ⟨hx, hb, hml, hown, hts⟩ (c_Comp_init l g (wu h q (.inr (1, [.int 0, .int 0, .int 0, .null, .int 0, .int 0, .int 0, .int 0]))) q 0 (by decide) (wu_s _ _ _) H.size) (cwI 1 hts gX4_record_X0_init rfl rfl rfl (hts (.initialized RX0) (by decide +kernel)) (hts (.methodLink RX4 65 yX0_init) (by decide +kernel)) (hts (.instanceMethod yX0_init) (by decide +kernel)) rfl (by decide +kernel) ⟨Nat.le_of_ble_eq_true rfl, Nat.le_of_ble_eq_true rfl⟩) ⟨pr_blind, pr_of hw⟩ rfl rfl hl.1 rfl (lv_room (Nat.le_of_ble_eq_true rfl)) dX4_record_36 ⟨Nat.le_of_ble_eq_true rfl, Nat.le_of_ble_eq_true rfl⟩) hw (fun v k' H locs hp hw => ?_)
        obtain ⟨ql, rfl, w1, w2, w3, w4⟩ := hp
        refine W.eq (g2 := F0 m 39 ls [.ref q, .ref x]) rfl ?_
        have nqq : ql ≠ q := fun z => by rw [z, wu_s] at w1; cases w1
        have hql : h ql = none := (wu_n nqq).symm.trans w1
        have hex : ext h k' := fun z e9 hz => (w4 z (ne_n hz hq) (ne_n hz hql)).trans ((wu_n (ne_n hz hq)).trans hz)
        have hR1 : DR0 g k' x S kl ka ty ml ma mb := DR_ext hR0 hex (w_z hw)
        have hALq : AL g k' ql (gZ g) [] := ⟨⟨0, w3⟩, fun z hz => (by cases hz), Or.inr ⟨rfl, w_z hw, rfl⟩⟩
        have hc9 : cX k' q (3, 0, 0, 0, 0, [], false) ql [] := Or.inr ⟨by decide, ⟨0, 0, w2, Or.inr (Or.inl ⟨rfl, rfl, rfl⟩)⟩, rfl, fun j y m hj => (by cases hj)⟩
        refine w_call (va_runV (As := [.ref q]) (rest := []) ⟨hx, hb, hml, hown, hts⟩ (c_enter l g k' x kl ka ty hR1.1 hR1.2.2.1.1 q ⟨1, _, w2, by decide, by decide⟩ (by omega) H.size) (cwV 1 hts gX4_record_X4_enter rfl rfl rfl (by decide +kernel) ⟨Nat.le_of_ble_eq_true rfl, Nat.le_of_ble_eq_true rfl⟩) ⟨pr_blind, w_recv hw hR1.1 rfl, pr_of hw⟩ rfl rfl hl.1 rfl (lv_room (Nat.le_of_ble_eq_true rfl)) dX4_record_39 ⟨Nat.le_of_ble_eq_true rfl, Nat.le_of_ble_eq_true rfl⟩) hw (fun v h' H locs hp hw => ?_)
        obtain ⟨ka', rfl, q1, q2, q3⟩ := hp
        refine W.eq (g2 := F0 m 42 ls [.int (nI ty.length)]) rfl ?_
        subst c1
        have e9 : fRec S 0 = (nI S.length, S ++ [(3, 0, 0, 0, 0, [], false)]) := by
          unfold fRec
          rw [if_neg (by decide), if_neg hnf]
          rfl
        exact r_int hx hb hr hlocks hw dX4_record_42 (Nat.le_of_ble_eq_true rfl) (Nat.le_of_ble_eq_true rfl) (⟨by rw [e9, hlen], by rw [e9]; exact ⟨_, _, _, _, _, _, DR_app ql hR1 (w_z hw) (ty_fresh (DR_ty hR0) hq) hc9 (fun _ => ⟨hALq, (ne_n hk0 hql).symm, fun k9 hk9 hr9 => by obtain ⟨⟨m9, z9⟩, -, -⟩ := (hG.2.2.1 k9 hk9 hr9).1; exact (ne_n z9 hql).symm⟩) q1 q2 q3⟩⟩)
      · exact absurd (c1.symm.trans c28) (by decide)
    · have hfu : 300 ≤ S.length := by
        rw [← hlen]
        by_cases z : 300 ≤ ty.length
        · exact z
        · rw [if_neg z] at c15
          exact absurd rfl c15
      refine lv_bipush (v := (-2)) hx hb dX4_record_18 (by decide) ?_
      subst c1
      have e9 : fRec S 0 = (-2, S) := by
        unfold fRec
        rw [if_neg (by decide), if_pos hfu]
      exact r_int hx hb hr hlocks hw dX4_record_20 (Nat.le_of_ble_eq_true rfl) (Nat.le_of_ble_eq_true rfl) (⟨by rw [e9], by rw [e9]; exact ⟨kl, ka, ty, ml, ma, mb, hR0⟩⟩)
  · refine lv_iload_n hx hb dX4_record_4 rfl (lv_at hl 1 rfl) ?_
    refine lv_iconst (v := 1) hx hb dX4_record_5 (by decide) ?_
    refine lv_icmp_eq (tgt := 11) hx hb dX4_record_6 (by decide) (fun c6 => ?_) (fun c6 => ?_)
    · refine lv_aload_n hx hb dX4_record_11 rfl (lv_at hl 0 rfl) ?_
      refine w_call (va_runV (As := []) (rest := []) ⟨hx, hb, hml, hown, hts⟩ (c_isFull l g h x kl ka ty hd hL s.heap.size) (cwV 0 hts gX4_record_X4_isFull rfl rfl rfl (by decide +kernel) ⟨Nat.le_of_ble_eq_true rfl, Nat.le_of_ble_eq_true rfl⟩) ⟨pr_blind, w_recv hw hd rfl, pr_of hw⟩ rfl rfl hl.1 rfl (lv_room (Nat.le_of_ble_eq_true rfl)) dX4_record_12 ⟨Nat.le_of_ble_eq_true rfl, Nat.le_of_ble_eq_true rfl⟩) hw (fun v h' H locs hp hw => ?_)
      obtain ⟨rfl, rfl⟩ := hp
      refine W.eq (g2 := F0 m 15 ls [.int (if 300 ≤ ty.length then 1 else 0)]) rfl ?_
      refine lv_if_eq (tgt := 21) hx hb dX4_record_15 (by decide) (fun c15 => ?_) (fun c15 => ?_)
      · have hnf : ¬ 300 ≤ S.length := fun z => by rw [← hlen] at z; rw [if_pos z] at c15; exact absurd c15 (by decide)
        refine lv_aload_n hx hb dX4_record_21 rfl (lv_at hl 0 rfl) ?_
        refine w_new (ci := 1) (C := RX0) (T := TX0) (N := 8) (fs := [.int 0, .int 0, .int 0, .null, .int 0, .int 0, .int 0, .int 0]) hx hb hts in_X4_record_1 tyX0 tyX0_ok hown (hts (.classLink RX4 63 RX0) (by decide +kernel)) (hts (.instantiable RX0 8) (by decide +kernel)) (hts (.initialized RX0) (by decide +kernel)) hw rfl (fun j hj => by rcases (show j = 0 ∨ j = 1 ∨ j = 2 ∨ j = 3 ∨ j = 4 ∨ j = 5 ∨ j = 6 ∨ j = 7 by omega) with rfl | rfl | rfl | rfl | rfl | rfl | rfl | rfl <;> rfl) (Nat.le_of_ble_eq_true rfl) (Nat.le_of_ble_eq_true rfl) dX4_record_22 (fun q H hq hw => ?_)
        refine lv_dup hx hb dX4_record_25 rfl ?_
        refine lv_iload_n hx hb dX4_record_26 rfl (lv_at hl 1 rfl) ?_
        refine lv_iconst (v := 1) hx hb dX4_record_27 (by decide) ?_
        refine lv_icmp_ne (tgt := 35) hx hb dX4_record_28 (by decide) (fun c28 => ?_) (fun c28 => ?_)
        · exact absurd c6 c28
        · refine lv_iconst (v := 1) hx hb dX4_record_31 (by decide) ?_
          refine lv_goto (tgt := 36) hx hb dX4_record_32 (by decide) ?_
          refine w_call (va_runI (As := [.int 1]) (rest := [.ref q, .ref x]) ⟨hx, hb, hml, hown, hts⟩ (c_Comp_init l g (wu h q (.inr (1, [.int 0, .int 0, .int 0, .null, .int 0, .int 0, .int 0, .int 0]))) q 1 (by decide) (wu_s _ _ _) H.size) (cwI 1 hts gX4_record_X0_init rfl rfl rfl (hts (.initialized RX0) (by decide +kernel)) (hts (.methodLink RX4 65 yX0_init) (by decide +kernel)) (hts (.instanceMethod yX0_init) (by decide +kernel)) rfl (by decide +kernel) ⟨Nat.le_of_ble_eq_true rfl, Nat.le_of_ble_eq_true rfl⟩) ⟨pr_blind, pr_of hw⟩ rfl rfl hl.1 rfl (lv_room (Nat.le_of_ble_eq_true rfl)) dX4_record_36 ⟨Nat.le_of_ble_eq_true rfl, Nat.le_of_ble_eq_true rfl⟩) hw (fun v k' H locs hp hw => ?_)
          obtain ⟨ql, rfl, w1, w2, w3, w4⟩ := hp
          refine W.eq (g2 := F0 m 39 ls [.ref q, .ref x]) rfl ?_
          have nqq : ql ≠ q := fun z => by rw [z, wu_s] at w1; cases w1
          have hql : h ql = none := (wu_n nqq).symm.trans w1
          have hex : ext h k' := fun z e9 hz => (w4 z (ne_n hz hq) (ne_n hz hql)).trans ((wu_n (ne_n hz hq)).trans hz)
          have hR1 : DR0 g k' x S kl ka ty ml ma mb := DR_ext hR0 hex (w_z hw)
          have hALq : AL g k' ql (gZ g) [] := ⟨⟨0, w3⟩, fun z hz => (by cases hz), Or.inr ⟨rfl, w_z hw, rfl⟩⟩
          have hc9 : cX k' q (4, 0, 0, 0, 0, [], false) ql [] := Or.inr ⟨by decide, ⟨0, 0, w2, Or.inl ⟨rfl, rfl⟩⟩, rfl, fun j y m hj => (by cases hj)⟩
          refine w_call (va_runV (As := [.ref q]) (rest := []) ⟨hx, hb, hml, hown, hts⟩ (c_enter l g k' x kl ka ty hR1.1 hR1.2.2.1.1 q ⟨1, _, w2, by decide, by decide⟩ (by omega) H.size) (cwV 1 hts gX4_record_X4_enter rfl rfl rfl (by decide +kernel) ⟨Nat.le_of_ble_eq_true rfl, Nat.le_of_ble_eq_true rfl⟩) ⟨pr_blind, w_recv hw hR1.1 rfl, pr_of hw⟩ rfl rfl hl.1 rfl (lv_room (Nat.le_of_ble_eq_true rfl)) dX4_record_39 ⟨Nat.le_of_ble_eq_true rfl, Nat.le_of_ble_eq_true rfl⟩) hw (fun v h' H locs hp hw => ?_)
          obtain ⟨ka', rfl, q1, q2, q3⟩ := hp
          refine W.eq (g2 := F0 m 42 ls [.int (nI ty.length)]) rfl ?_
          subst c6
          have e9 : fRec S 1 = (nI S.length, S ++ [(4, 0, 0, 0, 0, [], false)]) := by
            unfold fRec
            rw [if_neg (by decide), if_neg hnf]
            rfl
          exact r_int hx hb hr hlocks hw dX4_record_42 (Nat.le_of_ble_eq_true rfl) (Nat.le_of_ble_eq_true rfl) (⟨by rw [e9, hlen], by rw [e9]; exact ⟨_, _, _, _, _, _, DR_app ql hR1 (w_z hw) (ty_fresh (DR_ty hR0) hq) hc9 (fun _ => ⟨hALq, (ne_n hk0 hql).symm, fun k9 hk9 hr9 => by obtain ⟨⟨m9, z9⟩, -, -⟩ := (hG.2.2.1 k9 hk9 hr9).1; exact (ne_n z9 hql).symm⟩) q1 q2 q3⟩⟩)
      · have hfu : 300 ≤ S.length := by
          rw [← hlen]
          by_cases z : 300 ≤ ty.length
          · exact z
          · rw [if_neg z] at c15
            exact absurd rfl c15
        refine lv_bipush (v := (-2)) hx hb dX4_record_18 (by decide) ?_
        subst c6
        have e9 : fRec S 1 = (-2, S) := by
          unfold fRec
          rw [if_neg (by decide), if_pos hfu]
        exact r_int hx hb hr hlocks hw dX4_record_20 (Nat.le_of_ble_eq_true rfl) (Nat.le_of_ble_eq_true rfl) (⟨by rw [e9], by rw [e9]; exact ⟨kl, ka, ty, ml, ma, mb, hR0⟩⟩)
    · refine lv_iconst (v := (-1)) hx hb dX4_record_9 (by decide) ?_
      have e9 : fRec S k = (-1, S) := by simp [fRec, c1, c6]
      exact r_int hx hb hr hlocks hw dX4_record_10 (Nat.le_of_ble_eq_true rfl) (Nat.le_of_ble_eq_true rfl) (⟨by rw [e9], by rw [e9]; exact ⟨kl, ka, ty, ml, ma, mb, hR0⟩⟩)
