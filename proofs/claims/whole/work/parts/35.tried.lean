/-! the model: tried, field, bits -/
theorem in_X7_tried_5 : ∀ w ∈ u_ws RX5 TX5 3, w ∈ wsX7_tried := by decide +kernel
theorem in_X7_tried_6 : ∀ w ∈ u_ws RX6 TX6 7, w ∈ wsX7_tried := by decide +kernel
theorem in_X7_tried_7 : ∀ w ∈ u_ws RX7 TX7 8, w ∈ wsX7_tried := by decide +kernel
set_option maxHeartbeats 4000000 in
set_option maxRecDepth 100000 in
theorem c_tried (l : Launch) (g : GG) (h : Nat → Option va_E) (mo a : Nat) (S : List TyS) (N : Nat) (tl ta : Nat) (ty : List Nat) (al aa : Nat → Nat) (ab : Nat → List Nat) (P : P4) (hR0 : MR0 g h mo S tl ta ty al aa ab P) (hS : wfS N S) (hN : N ≤ 520) (r : Nat) (T : TyS) (ha3 : S[r]? = some T) (ha2 : ty[r]? = some a) (hk : 3 ≤ tK T) (hfi : tFi T = false) (d : AdS) (t w nm : Int32) (et : t = adT d) (ew : w = nI d.2.1) (en : (nm = 1 ∧ d.2.2.1 = true) ∨ (nm = 0 ∧ d.2.2.1 = false)) (hd9 : adOK S d) (hb1 : (ly (tPush T d)).1 ≤ 1100000) (hb2 : (ly (tPush T d)).2.2.2.length ≤ 100) (hb3 : (ly (tPush T d)).2.2.2.length = (ly T).2.2.2.length + if d.2.2.1 = true then 1 else 0) : Con l yX7_tried wsX7_tried 7 171 2 803 [.ref mo, .ref a, .int t, .int w, .int nm] g h (fun v h' => (524288 < (ly (tPush T d)).1 ∧ v = some (.int (-4)) ∧ MR g h' mo S) ∨ ((ly (tPush T d)).1 ≤ 524288 ∧ v = some (.int (if nm = 1 then nI (ly T).2.2.2.length else 100)) ∧ MR g h' mo (S.set r (tPush T d)))) := by
  obtain ⟨⟨mem, rea, ali, hm⟩, hs, hd, hz9, hG, hlen, hcc⟩ := id hR0
  have hL := hG.1
  have hc := hcc r T a ha3 ha2
  have ha := hc.1
  obtain ⟨hw1, hw2, hw3, hw4, hw5, hw6, hw7, hw8⟩ := (hS.2.2 _ _ ha3).1
  have hrl := (List.getElem?_eq_some_iff.mp ha2).1
  obtain ⟨hAL, hal1, -⟩ := hG.2.2.1 r (by omega) trivial
  obtain ⟨⟨mca, hal0⟩, -, -⟩ := id hAL
  have hm0 : mAl T = 0 := if_pos ⟨hk, hfi⟩
  refine m_start (cc := cX7_tried) (maxL := 6) (ret := (some .int)) (by decide) rfl (Nat.le_of_ble_eq_true rfl) ?_
  intro p e s m below meth c A ls hx hb hr hml hts hown hlocks hin hw hl
  have hl : lv_has ls 6 [(0, .ref mo), (1, .ref a), (2, .int t), (3, .int w), (4, .int nm)] := hl
  have hown : s.vm.findClass RX7 = some m.cls := hown
  refine lv_aload_n hx hb dX7_tried_0 rfl (lv_at hl 1 rfl) ?_
  refine w_get (ci := 6) (C := RX6) (T := TX6) (N := 7) (ref := "LayoutDeskModel$Type") hx hb hts in_X7_tried_6 hown hw ha rfl 5 (by decide) (hts (.fieldLink RX7 95 "LayoutDeskModel$Type" "added" "Ljava/util/ArrayList;") (by decide +kernel)) (fun _ h9 => h9) rfl dX7_tried_1 ?_
  refine w_new (ci := 5) (C := RX5) (T := TX5) (N := 3) (fs := [.int 0, .int 0, .int 0]) hx hb hts in_X7_tried_5 tyX5 tyX5_ok hown (hts (.classLink RX7 98 RX5) (by decide +kernel)) (hts (.instantiable RX5 3) (by decide +kernel)) (hts (.initialized RX5) (by decide +kernel)) hw rfl (fun j hj => by rcases (show j = 0 ∨ j = 1 ∨ j = 2 by omega) with rfl | rfl | rfl <;> rfl) (Nat.le_of_ble_eq_true rfl) (Nat.le_of_ble_eq_true rfl) dX7_tried_4 (fun q H hq hw => ?_)
  refine lv_dup hx hb dX7_tried_7 rfl ?_
  refine lv_iload_n hx hb dX7_tried_8 rfl (lv_at hl 2 rfl) ?_
  refine lv_iload_n hx hb dX7_tried_9 rfl (lv_at hl 3 rfl) ?_
  refine lv_iload hx hb dX7_tried_10 (lv_at hl 4 rfl) ?_
  refine lv_iconst (v := 1) hx hb dX7_tried_12 (by decide) ?_
  refine lv_icmp_ne (tgt := 20) hx hb dX7_tried_13 (by decide) (fun c13 => ?_) (fun c13 => ?_)
  · refine lv_iconst (v := 0) hx hb dX7_tried_20 (by decide) ?_
    refine w_call (va_runI (As := [.int t, .int w, .int 0]) (rest := [.ref q, .ref (al r)]) ⟨hx, hb, hml, hown, hts⟩ (c_Added_init l g (wu h q (.inr (5, [.int 0, .int 0, .int 0]))) q 0 0 0 t w 0 (by decide) (wu_s _ _ _) H.size) (cwI 3 hts gX7_tried_X5_init rfl rfl rfl (hts (.initialized RX5) (by decide +kernel)) (hts (.methodLink RX7 123 yX5_init) (by decide +kernel)) (hts (.instanceMethod yX5_init) (by decide +kernel)) rfl (by decide +kernel) ⟨Nat.le_of_ble_eq_true rfl, Nat.le_of_ble_eq_true rfl⟩) ⟨pr_blind, pr_of hw⟩ rfl rfl hl.1 rfl (lv_room (Nat.le_of_ble_eq_true rfl)) dX7_tried_21 ⟨Nat.le_of_ble_eq_true rfl, Nat.le_of_ble_eq_true rfl⟩) hw (fun v h' H locs hp hw => ?_)
    obtain ⟨rfl, rfl⟩ := hp
    refine W.eq (g2 := F0 m 24 ls [.ref q, .ref (al r)]) rfl ?_
    have hmb : d.2.2.1 = false := by
      rcases en with ⟨z1, z2⟩ | ⟨z1, z2⟩
      · exact absurd z1 c13
      · exact z2
    have hexq : ext h (wu (wu h q (.inr (5, [.int 0, .int 0, .int 0]))) q (.inr (5, [.int t, .int w, .int 0]))) := ext_re (ext_new hq) hq
    have hR1 : MR0 g (wu (wu h q (.inr (5, [.int 0, .int 0, .int 0]))) q (.inr (5, [.int t, .int w, .int 0]))) mo S tl ta ty al aa ab P := MR_ext hR0 hexq (w_z hw)
    have hAL1 := (hR1.2.2.2.2.1.2.2.1 r (by have := (List.getElem?_eq_some_iff.mp ha2).1; omega) trivial).1
    refine w_call (va_runV (As := [.ref q]) (rest := []) ⟨hx, hb, hml, hown, hts⟩ (c_AL_add l g (wu (wu h q (.inr (5, [.int 0, .int 0, .int 0]))) q (.inr (5, [.int t, .int w, .int 0]))) (al r) (aa r) q (ab r) hAL1 ⟨5, _, wu_s _ _ _, by decide, by decide⟩ (by rw [hc.2.1]; omega) H.size) (cwV 1 hts gX7_tried_Jx4a65c_add_9ea2d rfl rfl rfl (by decide +kernel) ⟨Nat.le_of_ble_eq_true rfl, Nat.le_of_ble_eq_true rfl⟩) ⟨pr_blind, w_recv hw (hexq _ _ hal0) rfl, pr_of hw⟩ rfl rfl hl.1 rfl (lv_room (Nat.le_of_ble_eq_true rfl)) dX7_tried_24 ⟨Nat.le_of_ble_eq_true rfl, Nat.le_of_ble_eq_true rfl⟩) hw (fun v k' H locs hp hw => ?_)
    obtain ⟨m', rfl, q1, q2, q3⟩ := hp
    refine W.eq (g2 := F0 m 27 ls [.int 1]) rfl ?_
    have keep : ∀ z ci fs, (wu (wu h q (.inr (5, [.int 0, .int 0, .int 0]))) q (.inr (5, [.int t, .int w, .int 0]))) z = some (.inr (ci, fs)) → ci ≠ 0 → k' z = (wu (wu h q (.inr (5, [.int 0, .int 0, .int 0]))) q (.inr (5, [.int t, .int w, .int 0]))) z := fun z ci fs e1 e2 => add_keep hAL1 q1 q3 e1 e2
    have hc2 : cM k' a (tPush T d) (al r) (ab r ++ [q]) := ⟨(keep a _ _ (hexq _ _ ha) (by decide)).trans ((hexq _ _ ha).trans (by rw [hm0]; show _ = some (oTy (nI (tK T)) (nI (tTo T)) (nI (tLn T)) (nI (tSz T)) (mAl (tPush T d)) (al r) (if tFi T = true then 1 else 0)); rw [show mAl (tPush T d) = 0 from if_pos ⟨hk, hfi⟩])), by rw [List.length_append, hc.2.1]; show _ = (tAd T ++ [_]).length; rw [List.length_append]; rfl, fun j y d9 hj hd9 => by
      have hd9 : (tAd T ++ [d])[j]? = some d9 := hd9
      rcases Nat.lt_or_ge j (ab r).length with c9 | c9
      · rw [List.getElem?_append_left c9] at hj
        rw [List.getElem?_append_left (by rw [← hc.2.1]; exact c9)] at hd9
        have e8 := hexq _ _ (hc.2.2 j y d9 hj hd9)
        exact (keep y _ _ e8 (by decide)).trans e8
      · rw [List.getElem?_append_right c9] at hj
        rw [List.getElem?_append_right (by rw [← hc.2.1]; exact c9), ← hc.2.1] at hd9
        have e0 : j - (ab r).length = 0 := by
          have := (List.getElem?_eq_some_iff.mp hj).1
          simp at this
          omega
        rw [e0] at hj hd9
        cases hj
        cases hd9
        exact (keep q _ _ (wu_s _ _ _) (by decide)).trans ((wu_s _ _ _).trans (by rw [et, ew, hmb]; rfl))⟩
    have hR2 := MR_list hR1 (w_z hw) ha3 ha2 q1 q2 q3 hc2
    refine lv_pop hx hb dX7_tried_27 rfl ?_
    refine lv_aload_n hx hb dX7_tried_28 rfl (lv_at hl 0 rfl) ?_
    refine lv_aload_n hx hb dX7_tried_29 rfl (lv_at hl 1 rfl) ?_
    have hS2 : ∀ (t : Nat) (T' : TyS), S[t]? = some T' → tSz T' ≠ 0 → (S.set r (tPush T d))[t]? = some T' ∧ (tK T' < 3 ∨ tFi T' = true) := fun t9 T9 z1 z2 => by
      have z3 := wf_szS hS t9 T9 z1 z2
      refine ⟨?_, z3.2⟩
      have n9 : r ≠ t9 := fun e => by
        subst e
        rw [ha3] at z1
        cases z1
        rcases z3.2 with z | z
        · omega
        · rw [hfi] at z; cases z
      rw [List.getElem?_set_ne n9]
      exact z1
    have has2 : ∀ d9 ∈ tAd T ++ [d], adOK S d9 := fun d9 hd8 => by
      rcases List.mem_append.mp hd8 with z | z
      · exact (hS.2.2 _ _ ha3).2.2 d9 z
      · rw [List.mem_singleton] at z; subst z; exact hd9
    refine w_call (va_runV (As := [.ref a]) (rest := []) ⟨hx, hb, hml, hown, hts⟩ (c_lay l g k' mo a tl ta (al r) m' (tK (tPush T d)) P ty (ab r ++ [q]) (tAd T ++ [d]) (nI (tTo (tPush T d))) (nI (tLn (tPush T d))) (nI (tSz (tPush T d))) (mAl (tPush T d)) (if tFi (tPush T d) = true then 1 else 0) hR2.1 hR2.2.1 hR2.2.2.1 hR2.2.2.2.2.1.1 hw1 hc2.1 q2 hc2.2.1 hc2.2.2 (layTy hR2 hS2 has2) (fun d9 z => ⟨(has2 d9 z).1, (has2 d9 z).2.2.1⟩) (fun d9 z => (has2 d9 z).2.1) hb1 hb2 H.size) (cwV 1 hts gX7_tried_X7_lay rfl rfl rfl (by decide +kernel) ⟨Nat.le_of_ble_eq_true rfl, Nat.le_of_ble_eq_true rfl⟩) ⟨pr_blind, w_recv hw hR2.1.choose_spec.choose_spec.choose_spec rfl, pr_of hw⟩ rfl rfl hl.1 rfl (lv_room (Nat.le_of_ble_eq_true rfl)) dX7_tried_30 ⟨Nat.le_of_ble_eq_true rfl, Nat.le_of_ble_eq_true rfl⟩) hw (fun v k2' H locs hp hw => ?_)
    obtain ⟨rfl, hLW⟩ := hp
    refine W.eq (g2 := F0 m 33 ls []) rfl ?_
    have hLW : LW g k' k2' mo tl P (ly (tPush T d)) := hLW
    have hR3 := MR_lay hR2 hLW
    have ha' := (sf_obj hR2.1 hR2.2.1 hLW.2.1 hc2.1 (by decide)).trans hc2.1
    refine lv_aload_n hx hb dX7_tried_33 rfl (lv_at hl 0 rfl) ?_
    refine w_get (ci := 7) (C := RX7) (T := TX7) (N := 8) (ref := "LayoutDeskModel") hx hb hts in_X7_tried_7 hown hw hLW.1 rfl 6 (by decide) (hts (.fieldLink RX7 91 "LayoutDeskModel" "reach" "I") (by decide +kernel)) (fun _ h9 => h9) rfl dX7_tried_34 ?_
    refine lv_ldc (v := 524288) hx hb hown (hts (.constant RX7 76 (524288)) (by decide +kernel)) dX7_tried_37 ?_
    refine lv_icmp_le (tgt := 66) hx hb dX7_tried_39 (by decide) (fun c39 => ?_) (fun c39 => ?_)
    · refine lv_iload hx hb dX7_tried_66 (lv_at hl 4 rfl) ?_
      refine lv_iconst (v := 1) hx hb dX7_tried_68 (by decide) ?_
      refine lv_icmp_ne (tgt := 81) hx hb dX7_tried_69 (by decide) (fun c69 => ?_) (fun c69 => ?_)
      · refine lv_bipush (v := 100) hx hb dX7_tried_81 (by decide) ?_
        exact r_int hx hb hr hlocks hw dX7_tried_83 (Nat.le_of_ble_eq_true rfl) (Nat.le_of_ble_eq_true rfl) (Or.inr ⟨(nI_leI (b := 524288) (by omega) (by decide)).mp c39, by rw [if_neg c69], _, _, _, _, _, _, _, hR3⟩)
      · refine lv_aload_n hx hb dX7_tried_72 rfl (lv_at hl 0 rfl) ?_
        refine w_get (ci := 7) (C := RX7) (T := TX7) (N := 8) (ref := "LayoutDeskModel") hx hb hts in_X7_tried_7 hown hw hLW.1 rfl 5 (by decide) (hts (.fieldLink RX7 88 "LayoutDeskModel" "members" "I") (by decide +kernel)) (fun _ h9 => h9) rfl dX7_tried_73 ?_
        refine lv_iconst (v := 1) hx hb dX7_tried_76 (by decide) ?_
        refine lv_isub hx hb dX7_tried_77 ?_
        refine lv_goto (tgt := 83) hx hb dX7_tried_78 (by decide) ?_
        have hm8 : d.2.2.1 = true := by
          rcases en with ⟨z1, z2⟩ | ⟨z1, z2⟩
          · exact z2
          · rw [z1] at c69; exact absurd c69 (by decide)
        exact r_int hx hb hr hlocks hw dX7_tried_83 (Nat.le_of_ble_eq_true rfl) (Nat.le_of_ble_eq_true rfl) (Or.inr ⟨(nI_leI (b := 524288) (by omega) (by decide)).mp c39, by rw [if_pos c69, hb3, hm8]; exact congrArg (fun z => some (Value.int z)) (nI_pred (ly T).2.2.2.length), _, _, _, _, _, _, _, hR3⟩)
    · refine lv_aload_n hx hb dX7_tried_42 rfl (lv_at hl 1 rfl) ?_
      refine w_get (ci := 6) (C := RX6) (T := TX6) (N := 7) (ref := "LayoutDeskModel$Type") hx hb hts in_X7_tried_6 hown hw ha' rfl 5 (by decide) (hts (.fieldLink RX7 95 "LayoutDeskModel$Type" "added" "Ljava/util/ArrayList;") (by decide +kernel)) (fun _ h9 => h9) rfl dX7_tried_43 ?_
      refine lv_aload_n hx hb dX7_tried_46 rfl (lv_at hl 1 rfl) ?_
      refine w_get (ci := 6) (C := RX6) (T := TX6) (N := 7) (ref := "LayoutDeskModel$Type") hx hb hts in_X7_tried_6 hown hw ha' rfl 5 (by decide) (hts (.fieldLink RX7 95 "LayoutDeskModel$Type" "added" "Ljava/util/ArrayList;") (by decide +kernel)) (fun _ h9 => h9) rfl dX7_tried_47 ?_
      have hALk : AL g k2' (al r) m' (ab r ++ [q]) := by
        have z := (hR3.2.2.2.2.1.2.2.1 r (by omega) trivial).1
        rw [va_up_self, va_up_self] at z
        exact z
      obtain ⟨mc9, cap9, f9, e1, e2, e3, e4, e5, e6⟩ := AL_last hALk
      refine w_call (va_runV (As := []) (rest := [.ref (al r)]) ⟨hx, hb, hml, hown, hts⟩ (c_sizeL l g k2' (al r) m' (ab r ++ [q]) hALk H.size) (cwV 0 hts gX7_tried_Jx4a65c_size_8abf5 rfl rfl rfl (by decide +kernel) ⟨Nat.le_of_ble_eq_true rfl, Nat.le_of_ble_eq_true rfl⟩) ⟨pr_blind, w_recv hw e1 rfl, pr_of hw⟩ rfl rfl hl.1 rfl (lv_room (Nat.le_of_ble_eq_true rfl)) dX7_tried_50 ⟨Nat.le_of_ble_eq_true rfl, Nat.le_of_ble_eq_true rfl⟩) hw (fun v h' H locs hp hw => ?_)
      obtain ⟨rfl, rfl⟩ := hp
      refine W.eq (g2 := F0 m 53 ls [.int (nI (ab r ++ [q]).length), .ref (al r)]) rfl ?_
      refine lv_iconst (v := 1) hx hb dX7_tried_53 (by decide) ?_
      refine lv_isub hx hb dX7_tried_54 ?_
      refine W.eq (g2 := F0 m 55 ls [.int (nI (ab r).length), .ref (al r)]) (by rw [List.length_append, List.length_singleton, nI_pred]) ?_
      refine w_call (va_runV (As := [.int (nI (ab r).length)]) (rest := []) ⟨hx, hb, hml, hown, hts⟩ (c_AL_removeR l g k2' mc9 (al r) m' (ab r).length cap9 q f9 e1 e2 e3 e4 e5 H.size) (cwV 1 hts gX7_tried_Jx4a65c_remove_915e3 rfl rfl rfl (by decide +kernel) ⟨Nat.le_of_ble_eq_true rfl, Nat.le_of_ble_eq_true rfl⟩) ⟨pr_blind, w_recv hw e1 rfl, pr_of hw⟩ rfl rfl hl.1 rfl (lv_room (Nat.le_of_ble_eq_true rfl)) dX7_tried_55 ⟨Nat.le_of_ble_eq_true rfl, Nat.le_of_ble_eq_true rfl⟩) hw (fun v h' H locs hp hw => ?_)
      obtain ⟨rfl, rfl⟩ := hp
      refine W.eq (g2 := F0 m 58 ls [.ref q]) rfl ?_
      have keep3 : ∀ z ci fs, k2' z = some (.inr (ci, fs)) → ci ≠ 0 → (wu (wu k2' (al r) (oAL (mc9 + 1) m' (nI (ab r).length))) m' (arO g cap9 (va_up f9 (ab r).length none))) z = k2' z := fun z ci fs z1 z2 => by
        rw [wu_n (ne_e z1 e2 ne_rl), wu_n (ne_e z1 e1 (ne_c z2))]
      have hc3 := hR3.2.2.2.2.2.2 r (tPush T d) a (List.getElem?_set_self (by omega)) ha2
      rw [va_up_self] at hc3
      have hq3 := hc3.2.2 (ab r).length q d (by simp) (by show (tAd T ++ [d])[(ab r).length]? = some d; rw [hc.2.1]; simp)
      have hq4 := (keep3 q _ _ hq3 (by decide)).trans hq3
      refine va_castY (C := RX5) hx hb hown (hts (.classLink RX7 98 "LayoutDeskModel$Added") (by decide +kernel)) (w_nwN hw (by decide +kernel)) (w_recv hw hq4 rfl) dX7_tried_58 ?_
      refine lv_astore (lv' := [(5, .ref q), (0, .ref mo), (1, .ref a), (2, .int t), (3, .int w), (4, .int nm)]) hx hb dX7_tried_61 hl (by decide) rfl (fun ls hl => ?_)
      refine lv_bipush (v := (-4)) hx hb dX7_tried_63 (by decide) ?_
      have hc4 : cM (wu (wu k2' (al r) (oAL (mc9 + 1) m' (nI (ab r).length))) m' (arO g cap9 (va_up f9 (ab r).length none))) a T (al r) (ab r) := ⟨(keep3 a _ _ ha' (by decide)).trans (ha'.trans (by rw [show mAl (tPush T d) = mAl T from (if_pos ⟨hk, hfi⟩ : mAl (tPush T d) = 0).trans hm0.symm]; rfl)), hc.2.1, fun j y d8 hj hd8 => by
        have hjl := (List.getElem?_eq_some_iff.mp hj).1
        have e8 := hc3.2.2 j y d8 (by rw [List.getElem?_append_left hjl]; exact hj) (by show (tAd T ++ [d])[j]? = some d8; rw [List.getElem?_append_left (by rw [← hc.2.1]; exact hjl)]; exact hd8)
        exact (keep3 y _ _ e8 (by decide)).trans e8⟩
      have hR4 := MR_list (r := r) (T' := T) (m' := m') hR3 (w_z hw) (List.getElem?_set_self (by omega)) ha2 (Or.inl (va_up_self _ _ _).symm) (AL_rm hALk e1 e2 e3 e4 e6) (fun z z1 z2 => by rw [wu_n z2, wu_n z1]) hc4
      rw [set_back ha3] at hR4
      exact r_int hx hb hr hlocks hw dX7_tried_65 (Nat.le_of_ble_eq_true rfl) (Nat.le_of_ble_eq_true rfl) (Or.inl ⟨Nat.lt_of_not_le (fun z => c39 (nI_le (b := 524288) z (by decide))), rfl, _, _, _, _, _, _, _, hR4⟩)
  · refine lv_iconst (v := 1) hx hb dX7_tried_16 (by decide) ?_
    refine lv_goto (tgt := 21) hx hb dX7_tried_17 (by decide) ?_
    refine w_call (va_runI (As := [.int t, .int w, .int 1]) (rest := [.ref q, .ref (al r)]) ⟨hx, hb, hml, hown, hts⟩ (c_Added_init l g (wu h q (.inr (5, [.int 0, .int 0, .int 0]))) q 0 0 0 t w 1 (by decide) (wu_s _ _ _) H.size) (cwI 3 hts gX7_tried_X5_init rfl rfl rfl (hts (.initialized RX5) (by decide +kernel)) (hts (.methodLink RX7 123 yX5_init) (by decide +kernel)) (hts (.instanceMethod yX5_init) (by decide +kernel)) rfl (by decide +kernel) ⟨Nat.le_of_ble_eq_true rfl, Nat.le_of_ble_eq_true rfl⟩) ⟨pr_blind, pr_of hw⟩ rfl rfl hl.1 rfl (lv_room (Nat.le_of_ble_eq_true rfl)) dX7_tried_21 ⟨Nat.le_of_ble_eq_true rfl, Nat.le_of_ble_eq_true rfl⟩) hw (fun v h' H locs hp hw => ?_)
    obtain ⟨rfl, rfl⟩ := hp
    refine W.eq (g2 := F0 m 24 ls [.ref q, .ref (al r)]) rfl ?_
    have hmb : d.2.2.1 = true := by
      rcases en with ⟨z1, z2⟩ | ⟨z1, z2⟩
      · exact z2
      · rw [z1] at c13; exact absurd c13 (by decide)
    have hexq : ext h (wu (wu h q (.inr (5, [.int 0, .int 0, .int 0]))) q (.inr (5, [.int t, .int w, .int 1]))) := ext_re (ext_new hq) hq
    have hR1 : MR0 g (wu (wu h q (.inr (5, [.int 0, .int 0, .int 0]))) q (.inr (5, [.int t, .int w, .int 1]))) mo S tl ta ty al aa ab P := MR_ext hR0 hexq (w_z hw)
    have hAL1 := (hR1.2.2.2.2.1.2.2.1 r (by have := (List.getElem?_eq_some_iff.mp ha2).1; omega) trivial).1
    refine w_call (va_runV (As := [.ref q]) (rest := []) ⟨hx, hb, hml, hown, hts⟩ (c_AL_add l g (wu (wu h q (.inr (5, [.int 0, .int 0, .int 0]))) q (.inr (5, [.int t, .int w, .int 1]))) (al r) (aa r) q (ab r) hAL1 ⟨5, _, wu_s _ _ _, by decide, by decide⟩ (by rw [hc.2.1]; omega) H.size) (cwV 1 hts gX7_tried_Jx4a65c_add_9ea2d rfl rfl rfl (by decide +kernel) ⟨Nat.le_of_ble_eq_true rfl, Nat.le_of_ble_eq_true rfl⟩) ⟨pr_blind, w_recv hw (hexq _ _ hal0) rfl, pr_of hw⟩ rfl rfl hl.1 rfl (lv_room (Nat.le_of_ble_eq_true rfl)) dX7_tried_24 ⟨Nat.le_of_ble_eq_true rfl, Nat.le_of_ble_eq_true rfl⟩) hw (fun v k' H locs hp hw => ?_)
    obtain ⟨m', rfl, q1, q2, q3⟩ := hp
    refine W.eq (g2 := F0 m 27 ls [.int 1]) rfl ?_
    have keep : ∀ z ci fs, (wu (wu h q (.inr (5, [.int 0, .int 0, .int 0]))) q (.inr (5, [.int t, .int w, .int 1]))) z = some (.inr (ci, fs)) → ci ≠ 0 → k' z = (wu (wu h q (.inr (5, [.int 0, .int 0, .int 0]))) q (.inr (5, [.int t, .int w, .int 1]))) z := fun z ci fs e1 e2 => add_keep hAL1 q1 q3 e1 e2
    have hc2 : cM k' a (tPush T d) (al r) (ab r ++ [q]) := ⟨(keep a _ _ (hexq _ _ ha) (by decide)).trans ((hexq _ _ ha).trans (by rw [hm0]; show _ = some (oTy (nI (tK T)) (nI (tTo T)) (nI (tLn T)) (nI (tSz T)) (mAl (tPush T d)) (al r) (if tFi T = true then 1 else 0)); rw [show mAl (tPush T d) = 0 from if_pos ⟨hk, hfi⟩])), by rw [List.length_append, hc.2.1]; show _ = (tAd T ++ [_]).length; rw [List.length_append]; rfl, fun j y d9 hj hd9 => by
      have hd9 : (tAd T ++ [d])[j]? = some d9 := hd9
      rcases Nat.lt_or_ge j (ab r).length with c9 | c9
      · rw [List.getElem?_append_left c9] at hj
        rw [List.getElem?_append_left (by rw [← hc.2.1]; exact c9)] at hd9
        have e8 := hexq _ _ (hc.2.2 j y d9 hj hd9)
        exact (keep y _ _ e8 (by decide)).trans e8
      · rw [List.getElem?_append_right c9] at hj
        rw [List.getElem?_append_right (by rw [← hc.2.1]; exact c9), ← hc.2.1] at hd9
        have e0 : j - (ab r).length = 0 := by
          have := (List.getElem?_eq_some_iff.mp hj).1
          simp at this
          omega
        rw [e0] at hj hd9
        cases hj
        cases hd9
        exact (keep q _ _ (wu_s _ _ _) (by decide)).trans ((wu_s _ _ _).trans (by rw [et, ew, hmb]; rfl))⟩
    have hR2 := MR_list hR1 (w_z hw) ha3 ha2 q1 q2 q3 hc2
    refine lv_pop hx hb dX7_tried_27 rfl ?_
    refine lv_aload_n hx hb dX7_tried_28 rfl (lv_at hl 0 rfl) ?_
    refine lv_aload_n hx hb dX7_tried_29 rfl (lv_at hl 1 rfl) ?_
    have hS2 : ∀ (t : Nat) (T' : TyS), S[t]? = some T' → tSz T' ≠ 0 → (S.set r (tPush T d))[t]? = some T' ∧ (tK T' < 3 ∨ tFi T' = true) := fun t9 T9 z1 z2 => by
      have z3 := wf_szS hS t9 T9 z1 z2
      refine ⟨?_, z3.2⟩
      have n9 : r ≠ t9 := fun e => by
        subst e
        rw [ha3] at z1
        cases z1
        rcases z3.2 with z | z
        · omega
        · rw [hfi] at z; cases z
      rw [List.getElem?_set_ne n9]
      exact z1
    have has2 : ∀ d9 ∈ tAd T ++ [d], adOK S d9 := fun d9 hd8 => by
      rcases List.mem_append.mp hd8 with z | z
      · exact (hS.2.2 _ _ ha3).2.2 d9 z
      · rw [List.mem_singleton] at z; subst z; exact hd9
    refine w_call (va_runV (As := [.ref a]) (rest := []) ⟨hx, hb, hml, hown, hts⟩ (c_lay l g k' mo a tl ta (al r) m' (tK (tPush T d)) P ty (ab r ++ [q]) (tAd T ++ [d]) (nI (tTo (tPush T d))) (nI (tLn (tPush T d))) (nI (tSz (tPush T d))) (mAl (tPush T d)) (if tFi (tPush T d) = true then 1 else 0) hR2.1 hR2.2.1 hR2.2.2.1 hR2.2.2.2.2.1.1 hw1 hc2.1 q2 hc2.2.1 hc2.2.2 (layTy hR2 hS2 has2) (fun d9 z => ⟨(has2 d9 z).1, (has2 d9 z).2.2.1⟩) (fun d9 z => (has2 d9 z).2.1) hb1 hb2 H.size) (cwV 1 hts gX7_tried_X7_lay rfl rfl rfl (by decide +kernel) ⟨Nat.le_of_ble_eq_true rfl, Nat.le_of_ble_eq_true rfl⟩) ⟨pr_blind, w_recv hw hR2.1.choose_spec.choose_spec.choose_spec rfl, pr_of hw⟩ rfl rfl hl.1 rfl (lv_room (Nat.le_of_ble_eq_true rfl)) dX7_tried_30 ⟨Nat.le_of_ble_eq_true rfl, Nat.le_of_ble_eq_true rfl⟩) hw (fun v k2' H locs hp hw => ?_)
    obtain ⟨rfl, hLW⟩ := hp
    refine W.eq (g2 := F0 m 33 ls []) rfl ?_
    have hLW : LW g k' k2' mo tl P (ly (tPush T d)) := hLW
    have hR3 := MR_lay hR2 hLW
    have ha' := (sf_obj hR2.1 hR2.2.1 hLW.2.1 hc2.1 (by decide)).trans hc2.1
    refine lv_aload_n hx hb dX7_tried_33 rfl (lv_at hl 0 rfl) ?_
    refine w_get (ci := 7) (C := RX7) (T := TX7) (N := 8) (ref := "LayoutDeskModel") hx hb hts in_X7_tried_7 hown hw hLW.1 rfl 6 (by decide) (hts (.fieldLink RX7 91 "LayoutDeskModel" "reach" "I") (by decide +kernel)) (fun _ h9 => h9) rfl dX7_tried_34 ?_
    refine lv_ldc (v := 524288) hx hb hown (hts (.constant RX7 76 (524288)) (by decide +kernel)) dX7_tried_37 ?_
    refine lv_icmp_le (tgt := 66) hx hb dX7_tried_39 (by decide) (fun c39 => ?_) (fun c39 => ?_)
    · refine lv_iload hx hb dX7_tried_66 (lv_at hl 4 rfl) ?_
      refine lv_iconst (v := 1) hx hb dX7_tried_68 (by decide) ?_
      refine lv_icmp_ne (tgt := 81) hx hb dX7_tried_69 (by decide) (fun c69 => ?_) (fun c69 => ?_)
      · refine lv_bipush (v := 100) hx hb dX7_tried_81 (by decide) ?_
        exact r_int hx hb hr hlocks hw dX7_tried_83 (Nat.le_of_ble_eq_true rfl) (Nat.le_of_ble_eq_true rfl) (Or.inr ⟨(nI_leI (b := 524288) (by omega) (by decide)).mp c39, by rw [if_neg c69], _, _, _, _, _, _, _, hR3⟩)
      · refine lv_aload_n hx hb dX7_tried_72 rfl (lv_at hl 0 rfl) ?_
        refine w_get (ci := 7) (C := RX7) (T := TX7) (N := 8) (ref := "LayoutDeskModel") hx hb hts in_X7_tried_7 hown hw hLW.1 rfl 5 (by decide) (hts (.fieldLink RX7 88 "LayoutDeskModel" "members" "I") (by decide +kernel)) (fun _ h9 => h9) rfl dX7_tried_73 ?_
        refine lv_iconst (v := 1) hx hb dX7_tried_76 (by decide) ?_
        refine lv_isub hx hb dX7_tried_77 ?_
        refine lv_goto (tgt := 83) hx hb dX7_tried_78 (by decide) ?_
        have hm8 : d.2.2.1 = true := by
          rcases en with ⟨z1, z2⟩ | ⟨z1, z2⟩
          · exact z2
          · rw [z1] at c69; exact absurd c69 (by decide)
        exact r_int hx hb hr hlocks hw dX7_tried_83 (Nat.le_of_ble_eq_true rfl) (Nat.le_of_ble_eq_true rfl) (Or.inr ⟨(nI_leI (b := 524288) (by omega) (by decide)).mp c39, by rw [if_pos c69, hb3, hm8]; exact congrArg (fun z => some (Value.int z)) (nI_pred (ly T).2.2.2.length), _, _, _, _, _, _, _, hR3⟩)
    · refine lv_aload_n hx hb dX7_tried_42 rfl (lv_at hl 1 rfl) ?_
      refine w_get (ci := 6) (C := RX6) (T := TX6) (N := 7) (ref := "LayoutDeskModel$Type") hx hb hts in_X7_tried_6 hown hw ha' rfl 5 (by decide) (hts (.fieldLink RX7 95 "LayoutDeskModel$Type" "added" "Ljava/util/ArrayList;") (by decide +kernel)) (fun _ h9 => h9) rfl dX7_tried_43 ?_
      refine lv_aload_n hx hb dX7_tried_46 rfl (lv_at hl 1 rfl) ?_
      refine w_get (ci := 6) (C := RX6) (T := TX6) (N := 7) (ref := "LayoutDeskModel$Type") hx hb hts in_X7_tried_6 hown hw ha' rfl 5 (by decide) (hts (.fieldLink RX7 95 "LayoutDeskModel$Type" "added" "Ljava/util/ArrayList;") (by decide +kernel)) (fun _ h9 => h9) rfl dX7_tried_47 ?_
      have hALk : AL g k2' (al r) m' (ab r ++ [q]) := by
        have z := (hR3.2.2.2.2.1.2.2.1 r (by omega) trivial).1
        rw [va_up_self, va_up_self] at z
        exact z
      obtain ⟨mc9, cap9, f9, e1, e2, e3, e4, e5, e6⟩ := AL_last hALk
      refine w_call (va_runV (As := []) (rest := [.ref (al r)]) ⟨hx, hb, hml, hown, hts⟩ (c_sizeL l g k2' (al r) m' (ab r ++ [q]) hALk H.size) (cwV 0 hts gX7_tried_Jx4a65c_size_8abf5 rfl rfl rfl (by decide +kernel) ⟨Nat.le_of_ble_eq_true rfl, Nat.le_of_ble_eq_true rfl⟩) ⟨pr_blind, w_recv hw e1 rfl, pr_of hw⟩ rfl rfl hl.1 rfl (lv_room (Nat.le_of_ble_eq_true rfl)) dX7_tried_50 ⟨Nat.le_of_ble_eq_true rfl, Nat.le_of_ble_eq_true rfl⟩) hw (fun v h' H locs hp hw => ?_)
      obtain ⟨rfl, rfl⟩ := hp
      refine W.eq (g2 := F0 m 53 ls [.int (nI (ab r ++ [q]).length), .ref (al r)]) rfl ?_
      refine lv_iconst (v := 1) hx hb dX7_tried_53 (by decide) ?_
      refine lv_isub hx hb dX7_tried_54 ?_
      refine W.eq (g2 := F0 m 55 ls [.int (nI (ab r).length), .ref (al r)]) (by rw [List.length_append, List.length_singleton, nI_pred]) ?_
      refine w_call (va_runV (As := [.int (nI (ab r).length)]) (rest := []) ⟨hx, hb, hml, hown, hts⟩ (c_AL_removeR l g k2' mc9 (al r) m' (ab r).length cap9 q f9 e1 e2 e3 e4 e5 H.size) (cwV 1 hts gX7_tried_Jx4a65c_remove_915e3 rfl rfl rfl (by decide +kernel) ⟨Nat.le_of_ble_eq_true rfl, Nat.le_of_ble_eq_true rfl⟩) ⟨pr_blind, w_recv hw e1 rfl, pr_of hw⟩ rfl rfl hl.1 rfl (lv_room (Nat.le_of_ble_eq_true rfl)) dX7_tried_55 ⟨Nat.le_of_ble_eq_true rfl, Nat.le_of_ble_eq_true rfl⟩) hw (fun v h' H locs hp hw => ?_)
      obtain ⟨rfl, rfl⟩ := hp
      refine W.eq (g2 := F0 m 58 ls [.ref q]) rfl ?_
      have keep3 : ∀ z ci fs, k2' z = some (.inr (ci, fs)) → ci ≠ 0 → (wu (wu k2' (al r) (oAL (mc9 + 1) m' (nI (ab r).length))) m' (arO g cap9 (va_up f9 (ab r).length none))) z = k2' z := fun z ci fs z1 z2 => by
        rw [wu_n (ne_e z1 e2 ne_rl), wu_n (ne_e z1 e1 (ne_c z2))]
      have hc3 := hR3.2.2.2.2.2.2 r (tPush T d) a (List.getElem?_set_self (by omega)) ha2
      rw [va_up_self] at hc3
      have hq3 := hc3.2.2 (ab r).length q d (by simp) (by show (tAd T ++ [d])[(ab r).length]? = some d; rw [hc.2.1]; simp)
      have hq4 := (keep3 q _ _ hq3 (by decide)).trans hq3
      refine va_castY (C := RX5) hx hb hown (hts (.classLink RX7 98 "LayoutDeskModel$Added") (by decide +kernel)) (w_nwN hw (by decide +kernel)) (w_recv hw hq4 rfl) dX7_tried_58 ?_
      refine lv_astore (lv' := [(5, .ref q), (0, .ref mo), (1, .ref a), (2, .int t), (3, .int w), (4, .int nm)]) hx hb dX7_tried_61 hl (by decide) rfl (fun ls hl => ?_)
      refine lv_bipush (v := (-4)) hx hb dX7_tried_63 (by decide) ?_
      have hc4 : cM (wu (wu k2' (al r) (oAL (mc9 + 1) m' (nI (ab r).length))) m' (arO g cap9 (va_up f9 (ab r).length none))) a T (al r) (ab r) := ⟨(keep3 a _ _ ha' (by decide)).trans (ha'.trans (by rw [show mAl (tPush T d) = mAl T from (if_pos ⟨hk, hfi⟩ : mAl (tPush T d) = 0).trans hm0.symm]; rfl)), hc.2.1, fun j y d8 hj hd8 => by
        have hjl := (List.getElem?_eq_some_iff.mp hj).1
        have e8 := hc3.2.2 j y d8 (by rw [List.getElem?_append_left hjl]; exact hj) (by show (tAd T ++ [d])[j]? = some d8; rw [List.getElem?_append_left (by rw [← hc.2.1]; exact hjl)]; exact hd8)
        exact (keep3 y _ _ e8 (by decide)).trans e8⟩
      have hR4 := MR_list (r := r) (T' := T) (m' := m') hR3 (w_z hw) (List.getElem?_set_self (by omega)) ha2 (Or.inl (va_up_self _ _ _).symm) (AL_rm hALk e1 e2 e3 e4 e6) (fun z z1 z2 => by rw [wu_n z2, wu_n z1]) hc4
      rw [set_back ha3] at hR4
      exact r_int hx hb hr hlocks hw dX7_tried_65 (Nat.le_of_ble_eq_true rfl) (Nat.le_of_ble_eq_true rfl) (Or.inl ⟨Nat.lt_of_not_le (fun z => c39 (nI_le (b := 524288) z (by decide))), rfl, _, _, _, _, _, _, _, hR4⟩)
