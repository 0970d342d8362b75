/-! the model: lay -/
theorem in_X7_lay_6 : ∀ w ∈ u_ws RX6 TX6 7, w ∈ wsX7_lay := by decide +kernel
theorem in_X7_lay_5 : ∀ w ∈ u_ws RX5 TX5 3, w ∈ wsX7_lay := by decide +kernel
theorem in_X7_lay_7 : ∀ w ∈ u_ws RX7 TX7 8, w ∈ wsX7_lay := by decide +kernel
set_option maxHeartbeats 8000000 in
set_option maxRecDepth 100000 in
theorem lay_loop {p : Program} {e : Env} {s : State} {m : MethodId} {below : List Frame} {meth : Method} {c : Code} {A : Nat → Prop} (l : Launch) (g : GG) (h : Nat → Option va_E) (mo a tl ta ad aa K : Nat) (P : P4) (ty ab : List Nat) (as : List AdS) (to_ le si al fi : Int32) (hm : ∃ mem rea ali : Int32, h mo = some (oMo tl P.1 P.2.1 P.2.2.1 P.2.2.2 mem rea ali)) (hs : scr g h P) (hd : apart4 P) (hT : AL g h tl ta ty) (hK : K ≤ 4) (ha : h a = some (oTy (nI K) to_ le si al ad fi)) (hA : AL g h ad aa ab) (hlen : ab.length = as.length) (hit : ∀ (j y : Nat) (d : AdS), ab[j]? = some y → as[j]? = some d → h y = some (oAd (adT d) (nI d.2.1) (if d.2.2.1 = true then 1 else 0))) (hty : ∀ d ∈ as, ∀ t, d.1 = some t → t < 300 ∧ (d.2.1 = 0 → ∃ (b : Nat) (k2 t2 l2 : Int32) (ad2 : Nat) (f2 : Int32), ty[t]? = some b ∧ h b = some (oTy k2 t2 l2 (nI d.2.2.2.1) (nI d.2.2.2.2) ad2 f2))) (hbd : ∀ d ∈ as, d.2.1 ≤ 32 ∧ d.2.2.2.2 ≤ 4) (hbs : ∀ d ∈ as, d.2.2.2.1 ≤ 524288) (hb1 : (lay (K == 4) as).1 ≤ 1100000) (hb2 : (lay (K == 4) as).2.2.2.length ≤ 100) (hx : p.tables.exec = Jvm.exec) (hb : c.code = cX7_lay) (hr : meth.sig.returnType = none) (hml : c.maxLocals = 9) (hts : ∀ w ∈ wsX7_lay, w.before ([.ref mo, .ref a] : List Value).toArray s = true) (hown : s.vm.findClass RX7 = some m.cls) (hlocks : meth.locks = false) :
    ∀ (n i : Nat), i + n = as.length → ∀ (hh : Nat → Option va_E) (H : Heap) (locs : List Loc) (ls : Array Slot) (un us : Int32), LW g h hh mo tl P (lay (K == 4) (as.take i)) → uM (lay (K == 4) (as.take i)).2.2.1 un us → wd g A s hh H locs → lv_has ls 9 [(4, .int (nI i)), (0, .ref mo), (1, .ref a), (2, .int un), (3, .int us)] → W p l e { frames := 3, cells := 0, slots := 0, locals := 70 } s m ([.ref mo, .ref a] : List Value).toArray below meth c H locs 0 0 (MQ below (cQ g A (fun v h' => v = none ∧ LW g h h' mo tl P (lay (K == 4) as))) ([.ref mo, .ref a] : List Value).toArray s 0 0 A) (F0 m 22 ls []) := by
  have hnA := AL_len hA
  have hnT := AL_len hT
  intro n
  induction n with
  | zero =>
    intro i hi hh H locs ls un us hLW huM hw hl
    obtain ⟨L, eL⟩ : ∃ L, L = lay (K == 4) (as.take i) := ⟨_, rfl⟩
    rw [← eL] at hLW huM
    have hB := lay_bound hbd hb1 hb2 i
    rw [← eL] at hB
    obtain ⟨hB1, hB2, hB3, hB4⟩ := hB
    obtain ⟨hW1, hsf, hWz, f0, f1, f2, f3, g0, g1, g2, g3, hcon⟩ := id hLW
    have hs8 : scr g hh P := ⟨f0, f1, f2, f3, g0, g1, g2, g3⟩
    have hk9 := kq_sf hm hs hsf ⟨_, _, _, hW1⟩ hWz
    have hA' := AL_kq hk9 hA
    have hT' := AL_kq hk9 hT
    have ha' := (sf_obj hm hs hsf ha (by decide)).trans ha
    obtain ⟨⟨mcA, hA0⟩, -, -⟩ := id hA'
    obtain ⟨⟨mcT, hT0⟩, -, -⟩ := id hT'
    refine lv_iload hx hb dX7_lay_22 (lv_at hl 0 rfl) ?_
    refine lv_aload_n hx hb dX7_lay_24 rfl (lv_at hl 2 rfl) ?_
    refine w_get (ci := 6) (C := RX6) (T := TX6) (N := 7) (ref := "LayoutDeskModel$Type") hx hb hts in_X7_lay_6 hown hw ha' rfl 5 (by decide) (hts (.fieldLink RX7 95 "LayoutDeskModel$Type" "added" "Ljava/util/ArrayList;") (by decide +kernel)) (fun _ h9 => h9) rfl dX7_lay_25 ?_
    refine w_call (va_runV (As := []) (rest := [.int (nI i)]) ⟨hx, hb, hml, hown, hts⟩ (c_sizeL l g hh ad aa ab hA' H.size) (cwV 0 hts gX7_lay_Jx4a65c_size_8abf5 rfl rfl rfl (by decide +kernel) ⟨Nat.le_of_ble_eq_true rfl, Nat.le_of_ble_eq_true rfl⟩) ⟨pr_blind, w_recv hw hA0 rfl, pr_of hw⟩ rfl rfl hl.1 rfl (lv_room (Nat.le_of_ble_eq_true rfl)) dX7_lay_28 ⟨Nat.le_of_ble_eq_true rfl, Nat.le_of_ble_eq_true rfl⟩) hw (fun v h' H locs hp hw => ?_)
    obtain ⟨rfl, rfl⟩ := hp
    refine W.eq (g2 := F0 m 31 ls [.int (nI ab.length), .int (nI i)]) rfl ?_
    refine lv_icmp_ge (tgt := 271) hx hb dX7_lay_31 (by decide) (fun c31 => ?_) (fun c31 => ?_)
    · exact r_void hx hb hr hlocks hw dX7_lay_271 (Nat.le_of_ble_eq_true rfl) (Nat.le_of_ble_eq_true rfl) (⟨rfl, by rw [eL, List.take_of_length_le (by omega)] at hLW; exact hLW⟩)
    · exact absurd (nI_le (by omega) (by omega)) c31
  | succ n ih =>
    intro i hi hh H locs ls un us hLW huM hw hl
    obtain ⟨L, eL⟩ : ∃ L, L = lay (K == 4) (as.take i) := ⟨_, rfl⟩
    rw [← eL] at hLW huM
    have hB := lay_bound hbd hb1 hb2 i
    rw [← eL] at hB
    obtain ⟨hB1, hB2, hB3, hB4⟩ := hB
    obtain ⟨hW1, hsf, hWz, f0, f1, f2, f3, g0, g1, g2, g3, hcon⟩ := id hLW
    have hs8 : scr g hh P := ⟨f0, f1, f2, f3, g0, g1, g2, g3⟩
    have hk9 := kq_sf hm hs hsf ⟨_, _, _, hW1⟩ hWz
    have hA' := AL_kq hk9 hA
    have hT' := AL_kq hk9 hT
    have ha' := (sf_obj hm hs hsf ha (by decide)).trans ha
    obtain ⟨⟨mcA, hA0⟩, -, -⟩ := id hA'
    obtain ⟨⟨mcT, hT0⟩, -, -⟩ := id hT'
    refine lv_iload hx hb dX7_lay_22 (lv_at hl 0 rfl) ?_
    refine lv_aload_n hx hb dX7_lay_24 rfl (lv_at hl 2 rfl) ?_
    refine w_get (ci := 6) (C := RX6) (T := TX6) (N := 7) (ref := "LayoutDeskModel$Type") hx hb hts in_X7_lay_6 hown hw ha' rfl 5 (by decide) (hts (.fieldLink RX7 95 "LayoutDeskModel$Type" "added" "Ljava/util/ArrayList;") (by decide +kernel)) (fun _ h9 => h9) rfl dX7_lay_25 ?_
    refine w_call (va_runV (As := []) (rest := [.int (nI i)]) ⟨hx, hb, hml, hown, hts⟩ (c_sizeL l g hh ad aa ab hA' H.size) (cwV 0 hts gX7_lay_Jx4a65c_size_8abf5 rfl rfl rfl (by decide +kernel) ⟨Nat.le_of_ble_eq_true rfl, Nat.le_of_ble_eq_true rfl⟩) ⟨pr_blind, w_recv hw hA0 rfl, pr_of hw⟩ rfl rfl hl.1 rfl (lv_room (Nat.le_of_ble_eq_true rfl)) dX7_lay_28 ⟨Nat.le_of_ble_eq_true rfl, Nat.le_of_ble_eq_true rfl⟩) hw (fun v h' H locs hp hw => ?_)
    obtain ⟨rfl, rfl⟩ := hp
    refine W.eq (g2 := F0 m 31 ls [.int (nI ab.length), .int (nI i)]) rfl ?_
    refine lv_icmp_ge (tgt := 271) hx hb dX7_lay_31 (by decide) (fun c31 => ?_) (fun c31 => ?_)
    · exact absurd ((nI_leI (by omega) (by omega)).mp c31) (by omega)
    · obtain ⟨y, hy9⟩ : ∃ y, ab[i]? = some y := ⟨ab[i]'(by omega), List.getElem?_eq_getElem (by omega)⟩
      obtain ⟨d, hd9⟩ : ∃ d, as[i]? = some d := ⟨as[i]'(by omega), List.getElem?_eq_getElem (by omega)⟩
      have hdm := List.mem_of_getElem? hd9
      have hy0 := hit i y d hy9 hd9
      have hy := (sf_obj hm hs hsf hy0 (by decide)).trans hy0
      have eT := lay_take (U := (K == 4)) hd9
      rw [← eL] at eT
      have hB5 := lay_bound hbd hb1 hb2 (i + 1)
      rw [eT] at hB5
      have hda := hbd d hdm
      have hds := hbs d hdm
      refine lv_aload_n hx hb dX7_lay_34 rfl (lv_at hl 2 rfl) ?_
      refine w_get (ci := 6) (C := RX6) (T := TX6) (N := 7) (ref := "LayoutDeskModel$Type") hx hb hts in_X7_lay_6 hown hw ha' rfl 5 (by decide) (hts (.fieldLink RX7 95 "LayoutDeskModel$Type" "added" "Ljava/util/ArrayList;") (by decide +kernel)) (fun _ h9 => h9) rfl dX7_lay_35 ?_
      refine lv_iload hx hb dX7_lay_38 (lv_at hl 0 rfl) ?_
      refine w_call (va_runV (As := [.int (nI i)]) (rest := []) ⟨hx, hb, hml, hown, hts⟩ (c_getL l g hh ad aa ab hA' (nI i) y ((lk_nI (by omega)).trans hy9) H.size) (cwV 1 hts gX7_lay_Jx4a65c_get_915e3 rfl rfl rfl (by decide +kernel) ⟨Nat.le_of_ble_eq_true rfl, Nat.le_of_ble_eq_true rfl⟩) ⟨pr_blind, w_recv hw hA0 rfl, pr_of hw⟩ rfl rfl hl.1 rfl (lv_room (Nat.le_of_ble_eq_true rfl)) dX7_lay_40 ⟨Nat.le_of_ble_eq_true rfl, Nat.le_of_ble_eq_true rfl⟩) hw (fun v h' H locs hp hw => ?_)
      obtain ⟨rfl, rfl⟩ := hp
      refine W.eq (g2 := F0 m 43 ls [.ref y]) rfl ?_
      refine va_castY (C := RX5) hx hb hown (hts (.classLink RX7 98 "LayoutDeskModel$Added") (by decide +kernel)) (w_nwN hw (by decide +kernel)) (w_recv hw hy rfl) dX7_lay_43 ?_
      refine lv_astore (lv' := [(5, .ref y), (4, .int (nI i)), (0, .ref mo), (1, .ref a), (2, .int un), (3, .int us)]) hx hb dX7_lay_46 hl (by decide) rfl (fun ls hl => ?_)
      refine lv_aload hx hb dX7_lay_48 (lv_at hl 0 rfl) ?_
      rcases ad_cases d with hd1 | ⟨t, hd1, hd0⟩ | ⟨t, hd1, hd0⟩
      · have hy2 : hh y = some (oAd (-1) (nI d.2.1) (if d.2.2.1 = true then 1 else 0)) := by rw [hy]; simp only [adT, hd1]
        refine w_get (ci := 5) (C := RX5) (T := TX5) (N := 3) (ref := "LayoutDeskModel$Added") hx hb hts in_X7_lay_5 hown hw hy2 rfl 0 (by decide) (hts (.fieldLink RX7 100 "LayoutDeskModel$Added" "type" "I") (by decide +kernel)) (fun _ h9 => h9) rfl dX7_lay_50 ?_
        refine lv_istore (lv' := [(6, .int (-1)), (5, .ref y), (4, .int (nI i)), (0, .ref mo), (1, .ref a), (2, .int un), (3, .int us)]) hx hb dX7_lay_53 hl (by decide) rfl (fun ls hl => ?_)
        refine lv_iload hx hb dX7_lay_55 (lv_at hl 0 rfl) ?_
        refine lv_if_ge (tgt := 65) hx hb dX7_lay_57 (by decide) (fun c57 => ?_) (fun c57 => ?_)
        · exact absurd c57 (by decide)
        · refine lv_iconst (v := (-1)) hx hb dX7_lay_60 (by decide) ?_
          refine lv_istore_n (lv' := [(2, .int (-1)), (6, .int (-1)), (5, .ref y), (4, .int (nI i)), (0, .ref mo), (1, .ref a), (3, .int us)]) hx hb dX7_lay_61 rfl hl (by decide) rfl (fun ls hl => ?_)
          refine lv_goto (tgt := 265) hx hb dX7_lay_62 (by decide) ?_
          obtain ⟨z265, ez265⟩ : ∃ y : Int32, y = (nI i) + 1 := ⟨_, rfl⟩
          refine lv_iinc (v := z265) (lv' := [(4, .int z265), (2, .int (-1)), (6, .int (-1)), (5, .ref y), (0, .ref mo), (1, .ref a), (3, .int us)]) hx hb dX7_lay_265 hl (k := 3) rfl (by rw [ez265]; rfl) (by decide) rfl (fun ls hl => ?_)
          refine lv_goto (tgt := 22) hx hb dX7_lay_268 (by decide) ?_
          have ez : z265 = nI (i + 1) := ez265.trans (nI_1 i)
          subst ez
          exact ih (i + 1) (by omega) hh _ _ ls (-1) us (by rw [eT, lyS_brk hd1]; exact LW_u hLW none) (by rw [eT, lyS_brk hd1]; exact Or.inl ⟨rfl, rfl⟩) hw (lv_sub hl [0, 4, 5, 1, 6] rfl)
      · have hy2 : hh y = some (oAd (nI t) 0 (if d.2.2.1 = true then 1 else 0)) := by rw [hy]; simp only [adT, hd1, hd0]; rfl
        obtain ⟨ht3, htb⟩ := hty d hdm t hd1
        obtain ⟨b, k2, t2, l2, ad2, f2_, hb9, hb0⟩ := htb hd0
        have hb8 := (sf_obj hm hs hsf hb0 (by decide)).trans hb0
        rw [lyS_fld hd1 hd0] at hB5
        have hn100 : L.2.2.2.length < 100 := by have := hB5.2.1; simp at this; omega
        refine w_get (ci := 5) (C := RX5) (T := TX5) (N := 3) (ref := "LayoutDeskModel$Added") hx hb hts in_X7_lay_5 hown hw hy2 rfl 0 (by decide) (hts (.fieldLink RX7 100 "LayoutDeskModel$Added" "type" "I") (by decide +kernel)) (fun _ h9 => h9) rfl dX7_lay_50 ?_
        refine lv_istore (lv' := [(6, .int (nI t)), (5, .ref y), (4, .int (nI i)), (0, .ref mo), (1, .ref a), (2, .int un), (3, .int us)]) hx hb dX7_lay_53 hl (by decide) rfl (fun ls hl => ?_)
        refine lv_iload hx hb dX7_lay_55 (lv_at hl 0 rfl) ?_
        refine lv_if_ge (tgt := 65) hx hb dX7_lay_57 (by decide) (fun c57 => ?_) (fun c57 => ?_)
        · refine lv_aload hx hb dX7_lay_65 (lv_at hl 1 rfl) ?_
          refine w_get (ci := 5) (C := RX5) (T := TX5) (N := 3) (ref := "LayoutDeskModel$Added") hx hb hts in_X7_lay_5 hown hw hy2 rfl 1 (by decide) (hts (.fieldLink RX7 103 "LayoutDeskModel$Added" "width" "I") (by decide +kernel)) (fun _ h9 => h9) rfl dX7_lay_67 ?_
          refine lv_if_ne (tgt := 163) hx hb dX7_lay_70 (by decide) (fun c70 => ?_) (fun c70 => ?_)
          · exact absurd rfl c70
          · refine lv_aload_n hx hb dX7_lay_73 rfl (lv_at hl 3 rfl) ?_
            refine w_get (ci := 7) (C := RX7) (T := TX7) (N := 8) (ref := "LayoutDeskModel") hx hb hts in_X7_lay_7 hown hw hW1 rfl 0 (by decide) (hts (.fieldLink RX7 10 "LayoutDeskModel" "types" "Ljava/util/ArrayList;") (by decide +kernel)) (fun _ h9 => h9) rfl dX7_lay_74 ?_
            refine lv_iload hx hb dX7_lay_77 (lv_at hl 0 rfl) ?_
            refine w_call (va_runV (As := [.int (nI t)]) (rest := []) ⟨hx, hb, hml, hown, hts⟩ (c_getL l g hh tl ta ty hT' (nI t) b ((lk_nI (by omega)).trans hb9) H.size) (cwV 1 hts gX7_lay_Jx4a65c_get_915e3 rfl rfl rfl (by decide +kernel) ⟨Nat.le_of_ble_eq_true rfl, Nat.le_of_ble_eq_true rfl⟩) ⟨pr_blind, w_recv hw hT0 rfl, pr_of hw⟩ rfl rfl hl.1 rfl (lv_room (Nat.le_of_ble_eq_true rfl)) dX7_lay_79 ⟨Nat.le_of_ble_eq_true rfl, Nat.le_of_ble_eq_true rfl⟩) hw (fun v h' H locs hp hw => ?_)
            obtain ⟨rfl, rfl⟩ := hp
            refine W.eq (g2 := F0 m 82 ls [.ref b]) rfl ?_
            refine va_castY (C := RX6) hx hb hown (hts (.classLink RX7 29 "LayoutDeskModel$Type") (by decide +kernel)) (w_nwN hw (by decide +kernel)) (w_recv hw hb8 rfl) dX7_lay_82 ?_
            refine lv_astore (lv' := [(7, .ref b), (6, .int (nI t)), (5, .ref y), (4, .int (nI i)), (0, .ref mo), (1, .ref a), (2, .int un), (3, .int us)]) hx hb dX7_lay_85 hl (by decide) rfl (fun ls hl => ?_)
            refine lv_aload_n hx hb dX7_lay_87 rfl (lv_at hl 5 rfl) ?_
            refine w_get (ci := 6) (C := RX6) (T := TX6) (N := 7) (ref := "LayoutDeskModel$Type") hx hb hts in_X7_lay_6 hown hw ha' rfl 0 (by decide) (hts (.fieldLink RX7 58 "LayoutDeskModel$Type" "kind" "I") (by decide +kernel)) (fun _ h9 => h9) rfl dX7_lay_88 ?_
            refine lv_iconst (v := 4) hx hb dX7_lay_91 (by decide) ?_
            refine lv_icmp_ne (tgt := 99) hx hb dX7_lay_92 (by decide) (fun c92 => ?_) (fun c92 => ?_)
            · have hU0 := kU_f c92
              refine lv_aload_n hx hb dX7_lay_99 rfl (lv_at hl 4 rfl) ?_
              refine w_get (ci := 7) (C := RX7) (T := TX7) (N := 8) (ref := "LayoutDeskModel") hx hb hts in_X7_lay_7 hown hw hW1 rfl 6 (by decide) (hts (.fieldLink RX7 91 "LayoutDeskModel" "reach" "I") (by decide +kernel)) (fun _ h9 => h9) rfl dX7_lay_100 ?_
              refine lv_aload hx hb dX7_lay_103 (lv_at hl 0 rfl) ?_
              refine w_get (ci := 6) (C := RX6) (T := TX6) (N := 7) (ref := "LayoutDeskModel$Type") hx hb hts in_X7_lay_6 hown hw hb8 rfl 4 (by decide) (hts (.fieldLink RX7 85 "LayoutDeskModel$Type" "align" "I") (by decide +kernel)) (fun _ h9 => h9) rfl dX7_lay_105 ?_
              refine w_call (va_runS (As := [.int (nI L.1), .int (nI d.2.2.2.2)]) (rest := []) ⟨hx, hb, hml, hown, hts⟩ (c_up l g hh L.1 d.2.2.2.2 (by omega) hda.2 H.size) (va_cwS 2 hts gX7_lay_X7_up rfl rfl rfl (by decide +kernel) ⟨Nat.le_of_ble_eq_true rfl, Nat.le_of_ble_eq_true rfl⟩) ⟨pr_blind, pr_of hw⟩ rfl rfl hl.1 rfl (lv_room (Nat.le_of_ble_eq_true rfl)) dX7_lay_108 ⟨Nat.le_of_ble_eq_true rfl, Nat.le_of_ble_eq_true rfl⟩) hw (fun v h' H locs hp hw => ?_)
              obtain ⟨rfl, rfl⟩ := hp
              refine W.eq (g2 := F0 m 111 ls [.int (nI (rup L.1 d.2.2.2.2))]) rfl ?_
              obtain ⟨pl, epl⟩ : ∃ p : Nat, p = (if (K == 4) = true then 0 else rup L.1 d.2.2.2.2) := ⟨_, rfl⟩
              refine W.eq (g2 := F0 m 111 ls [.int (nI pl)]) (by rw [epl, if_neg (by rw [hU0]; decide)]) ?_
              have hpl : pl ≤ 1100004 := by { rw [epl]; have := rup_le L.1 d.2.2.2.2; split <;> omega }
              rw [← epl] at hB5
              refine lv_istore (lv' := [(8, .int (nI pl)), (7, .ref b), (6, .int (nI t)), (5, .ref y), (4, .int (nI i)), (0, .ref mo), (1, .ref a), (2, .int un), (3, .int us)]) hx hb dX7_lay_111 hl (by decide) rfl (fun ls hl => ?_)
              refine lv_aload_n hx hb dX7_lay_113 rfl (lv_at hl 5 rfl) ?_
              refine lv_iload hx hb dX7_lay_114 (lv_at hl 0 rfl) ?_
              refine lv_iload hx hb dX7_lay_116 (lv_at hl 2 rfl) ?_
              refine lv_iconst (v := 0) hx hb dX7_lay_118 (by decide) ?_
              refine lv_iconst (v := 0) hx hb dX7_lay_119 (by decide) ?_
              refine w_call (va_runV (As := [.int (nI pl), .int (nI t), .int 0, .int 0]) (rest := []) ⟨hx, hb, hml, hown, hts⟩ (c_put l g hh mo tl P.1 P.2.1 P.2.2.1 P.2.2.2 L.2.2.2.length (nI L.1) (nI L.2.1) (nI pl) (nI t) 0 0 f0 f1 f2 f3 hW1 g0 g1 g2 g3 hd.1 hd.2.1 hd.2.2.1 hd.2.2.2.1 hd.2.2.2.2.1 hd.2.2.2.2.2 hn100 H.size) (cwV 4 hts gX7_lay_X7_put rfl rfl rfl (by decide +kernel) ⟨Nat.le_of_ble_eq_true rfl, Nat.le_of_ble_eq_true rfl⟩) ⟨pr_blind, w_recv hw hW1 rfl, pr_of hw⟩ rfl rfl hl.1 rfl (lv_room (Nat.le_of_ble_eq_true rfl)) dX7_lay_120 ⟨Nat.le_of_ble_eq_true rfl, Nat.le_of_ble_eq_true rfl⟩) hw (fun v k' H locs hp hw => ?_)
              obtain ⟨rfl, w1, w2, w3, w4, w5, w6⟩ := hp
              refine W.eq (g2 := F0 m 123 ls []) rfl ?_
              have hb7 := (w6 b (ne_e hb8 hW1 (ne_c (by decide))) (scr_obj hs8 hb8).1 (scr_obj hs8 hb8).2.1 (scr_obj hs8 hb8).2.2.1 (scr_obj hs8 hb8).2.2.2).trans hb8
              have hLW2 := LW_put none (pl, t, 0, 0) hLW hcon w1 w2 w3 w4 w5 w6 (w_z hw) rfl rfl rfl rfl
              refine lv_aload_n hx hb dX7_lay_123 rfl (lv_at hl 5 rfl) ?_
              refine lv_aload_n hx hb dX7_lay_124 rfl (lv_at hl 5 rfl) ?_
              refine w_get (ci := 7) (C := RX7) (T := TX7) (N := 8) (ref := "LayoutDeskModel") hx hb hts in_X7_lay_7 hown hw w1 rfl 6 (by decide) (hts (.fieldLink RX7 91 "LayoutDeskModel" "reach" "I") (by decide +kernel)) (fun _ h9 => h9) rfl dX7_lay_125 ?_
              refine lv_iload hx hb dX7_lay_128 (lv_at hl 0 rfl) ?_
              refine lv_aload hx hb dX7_lay_130 (lv_at hl 1 rfl) ?_
              refine w_get (ci := 6) (C := RX6) (T := TX6) (N := 7) (ref := "LayoutDeskModel$Type") hx hb hts in_X7_lay_6 hown hw hb7 rfl 3 (by decide) (hts (.fieldLink RX7 113 "LayoutDeskModel$Type" "size" "I") (by decide +kernel)) (fun _ h9 => h9) rfl dX7_lay_132 ?_
              refine lv_iadd hx hb dX7_lay_135 ?_
              refine va_mmax hx hb (hml.trans hl.1.symm) hown (hts (.methodLink RX7 115 Lib.Math.max.name) (by decide +kernel)) (hts (.static Lib.Math.max.name) (by decide +kernel)) (hts (.initialized "java/lang/Math") (by decide +kernel)) (hts _ (List.mem_of_getElem? (i := 16) rfl)) (Nat.le_of_ble_eq_true rfl) (Nat.le_of_ble_eq_true rfl) (Nat.le_of_ble_eq_true rfl) (Nat.le_of_ble_eq_true rfl) dX7_lay_136 ?_
              refine lv_topi (fun x8 ex8 => ?_)
              have ex8 : x8 = nI (max L.1 (pl + d.2.2.2.1)) := ex8.trans (by rw [nI_add]; exact mx_nI (by omega) (by omega))
              subst ex8
              refine w_put (ci := 7) (C := RX7) (T := TX7) (N := 8) (ref := "LayoutDeskModel") (ty := .int) (fs' := [.ref tl, .ref P.1, .ref P.2.1, .ref P.2.2.1, .ref P.2.2.2, .int (nI (L.2.2.2.length + 1)), .int (nI (max L.1 (pl + d.2.2.2.1))), .int (nI L.2.1)]) hx hb hts in_X7_lay_7 tyX7 tyX7_ok nmX7 hown hw w1 rfl 6 (by decide) (hts (.fieldLink RX7 91 "LayoutDeskModel" "reach" "I") (by decide +kernel)) (fun _ h9 => h9) rfl (by decide +kernel) rfl rfl (Nat.le_of_ble_eq_true rfl) rfl dX7_lay_139 (fun H locs hw => ?_)
              refine lv_aload_n hx hb dX7_lay_142 rfl (lv_at hl 5 rfl) ?_
              refine lv_aload_n hx hb dX7_lay_143 rfl (lv_at hl 5 rfl) ?_
              refine w_get (ci := 7) (C := RX7) (T := TX7) (N := 8) (ref := "LayoutDeskModel") hx hb hts in_X7_lay_7 hown hw (wu_s _ _ _) rfl 7 (by decide) (hts (.fieldLink RX7 94 "LayoutDeskModel" "align" "I") (by decide +kernel)) (fun _ h9 => h9) rfl dX7_lay_144 ?_
              refine lv_aload hx hb dX7_lay_147 (lv_at hl 1 rfl) ?_
              refine w_get (ci := 6) (C := RX6) (T := TX6) (N := 7) (ref := "LayoutDeskModel$Type") hx hb hts in_X7_lay_6 hown hw ((wu_n (ne_e hb7 w1 (ne_c (by decide)))).trans hb7) rfl 4 (by decide) (hts (.fieldLink RX7 85 "LayoutDeskModel$Type" "align" "I") (by decide +kernel)) (fun _ h9 => h9) rfl dX7_lay_149 ?_
              refine va_mmax hx hb (hml.trans hl.1.symm) hown (hts (.methodLink RX7 115 Lib.Math.max.name) (by decide +kernel)) (hts (.static Lib.Math.max.name) (by decide +kernel)) (hts (.initialized "java/lang/Math") (by decide +kernel)) (hts _ (List.mem_of_getElem? (i := 16) rfl)) (Nat.le_of_ble_eq_true rfl) (Nat.le_of_ble_eq_true rfl) (Nat.le_of_ble_eq_true rfl) (Nat.le_of_ble_eq_true rfl) dX7_lay_152 ?_
              refine lv_topi (fun x9 ex9 => ?_)
              have ex9 : x9 = nI (max L.2.1 d.2.2.2.2) := ex9.trans (mx_nI (by omega) (by omega))
              subst ex9
              refine w_put (ci := 7) (C := RX7) (T := TX7) (N := 8) (ref := "LayoutDeskModel") (ty := .int) (fs' := [.ref tl, .ref P.1, .ref P.2.1, .ref P.2.2.1, .ref P.2.2.2, .int (nI (L.2.2.2.length + 1)), .int (nI (max L.1 (pl + d.2.2.2.1))), .int (nI (max L.2.1 d.2.2.2.2))]) hx hb hts in_X7_lay_7 tyX7 tyX7_ok nmX7 hown hw (wu_s _ _ _) rfl 7 (by decide) (hts (.fieldLink RX7 94 "LayoutDeskModel" "align" "I") (by decide +kernel)) (fun _ h9 => h9) rfl (by decide +kernel) rfl rfl (Nat.le_of_ble_eq_true rfl) rfl dX7_lay_155 (fun H locs hw => ?_)
              refine lv_iconst (v := (-1)) hx hb dX7_lay_158 (by decide) ?_
              refine lv_istore_n (lv' := [(2, .int (-1)), (8, .int (nI pl)), (7, .ref b), (6, .int (nI t)), (5, .ref y), (4, .int (nI i)), (0, .ref mo), (1, .ref a), (3, .int us)]) hx hb dX7_lay_159 rfl hl (by decide) rfl (fun ls hl => ?_)
              refine lv_goto (tgt := 265) hx hb dX7_lay_160 (by decide) ?_
              obtain ⟨z265, ez265⟩ : ∃ y : Int32, y = (nI i) + 1 := ⟨_, rfl⟩
              refine lv_iinc (v := z265) (lv' := [(4, .int z265), (2, .int (-1)), (8, .int (nI pl)), (7, .ref b), (6, .int (nI t)), (5, .ref y), (0, .ref mo), (1, .ref a), (3, .int us)]) hx hb dX7_lay_265 hl (k := 5) rfl (by rw [ez265]; rfl) (by decide) rfl (fun ls hl => ?_)
              refine lv_goto (tgt := 22) hx hb dX7_lay_268 (by decide) ?_
              have ez : z265 = nI (i + 1) := ez265.trans (nI_1 i)
              subst ez
              have hLW3 := LW_mo (W := (wu (wu k' mo (.inr (7, [.ref tl, .ref P.1, .ref P.2.1, .ref P.2.2.1, .ref P.2.2.2, .int (nI (L.2.2.2.length + 1)), .int (nI (max L.1 (pl + d.2.2.2.1))), .int (nI L.2.1)]))) mo (.inr (7, [.ref tl, .ref P.1, .ref P.2.1, .ref P.2.2.1, .ref P.2.2.2, .int (nI (L.2.2.2.length + 1)), .int (nI (max L.1 (pl + d.2.2.2.1))), .int (nI (max L.2.1 d.2.2.2.2))])))) none hLW2 (by rw [wu_s]; show _ = some (oMo _ _ _ _ _ (nI (L.2.2.2 ++ [(pl, t, 0, 0)]).length) _ _); rw [List.length_append]; rfl) (fun q hq => by rw [wu_n hq, wu_n hq]) (w_z hw)
              exact ih (i + 1) (by omega) _ _ _ ls (-1) us (by rw [eT, lyS_fld hd1 hd0, ← epl]; exact hLW3) (by rw [eT, lyS_fld hd1 hd0]; exact Or.inl ⟨rfl, rfl⟩) hw (lv_sub hl [0, 6, 7, 1, 8] rfl)
            · have hU0 := kU_t hK c92
              refine lv_iconst (v := 0) hx hb dX7_lay_95 (by decide) ?_
              refine lv_goto (tgt := 111) hx hb dX7_lay_96 (by decide) ?_
              obtain ⟨pl, epl⟩ : ∃ p : Nat, p = (if (K == 4) = true then 0 else rup L.1 d.2.2.2.2) := ⟨_, rfl⟩
              refine W.eq (g2 := F0 m 111 ls [.int (nI pl)]) (by rw [epl, if_pos hU0]; rfl) ?_
              have hpl : pl ≤ 1100004 := by { rw [epl]; have := rup_le L.1 d.2.2.2.2; split <;> omega }
              rw [← epl] at hB5
              refine lv_istore (lv' := [(8, .int (nI pl)), (7, .ref b), (6, .int (nI t)), (5, .ref y), (4, .int (nI i)), (0, .ref mo), (1, .ref a), (2, .int un), (3, .int us)]) hx hb dX7_lay_111 hl (by decide) rfl (fun ls hl => ?_)
              refine lv_aload_n hx hb dX7_lay_113 rfl (lv_at hl 5 rfl) ?_
              refine lv_iload hx hb dX7_lay_114 (lv_at hl 0 rfl) ?_
              refine lv_iload hx hb dX7_lay_116 (lv_at hl 2 rfl) ?_
              refine lv_iconst (v := 0) hx hb dX7_lay_118 (by decide) ?_
              refine lv_iconst (v := 0) hx hb dX7_lay_119 (by decide) ?_
              refine w_call (va_runV (As := [.int (nI pl), .int (nI t), .int 0, .int 0]) (rest := []) ⟨hx, hb, hml, hown, hts⟩ (c_put l g hh mo tl P.1 P.2.1 P.2.2.1 P.2.2.2 L.2.2.2.length (nI L.1) (nI L.2.1) (nI pl) (nI t) 0 0 f0 f1 f2 f3 hW1 g0 g1 g2 g3 hd.1 hd.2.1 hd.2.2.1 hd.2.2.2.1 hd.2.2.2.2.1 hd.2.2.2.2.2 hn100 H.size) (cwV 4 hts gX7_lay_X7_put rfl rfl rfl (by decide +kernel) ⟨Nat.le_of_ble_eq_true rfl, Nat.le_of_ble_eq_true rfl⟩) ⟨pr_blind, w_recv hw hW1 rfl, pr_of hw⟩ rfl rfl hl.1 rfl (lv_room (Nat.le_of_ble_eq_true rfl)) dX7_lay_120 ⟨Nat.le_of_ble_eq_true rfl, Nat.le_of_ble_eq_true rfl⟩) hw (fun v k' H locs hp hw => ?_)
              obtain ⟨rfl, w1, w2, w3, w4, w5, w6⟩ := hp
              refine W.eq (g2 := F0 m 123 ls []) rfl ?_
              have hb7 := (w6 b (ne_e hb8 hW1 (ne_c (by decide))) (scr_obj hs8 hb8).1 (scr_obj hs8 hb8).2.1 (scr_obj hs8 hb8).2.2.1 (scr_obj hs8 hb8).2.2.2).trans hb8
              have hLW2 := LW_put none (pl, t, 0, 0) hLW hcon w1 w2 w3 w4 w5 w6 (w_z hw) rfl rfl rfl rfl
              refine lv_aload_n hx hb dX7_lay_123 rfl (lv_at hl 5 rfl) ?_
              refine lv_aload_n hx hb dX7_lay_124 rfl (lv_at hl 5 rfl) ?_
              refine w_get (ci := 7) (C := RX7) (T := TX7) (N := 8) (ref := "LayoutDeskModel") hx hb hts in_X7_lay_7 hown hw w1 rfl 6 (by decide) (hts (.fieldLink RX7 91 "LayoutDeskModel" "reach" "I") (by decide +kernel)) (fun _ h9 => h9) rfl dX7_lay_125 ?_
              refine lv_iload hx hb dX7_lay_128 (lv_at hl 0 rfl) ?_
              refine lv_aload hx hb dX7_lay_130 (lv_at hl 1 rfl) ?_
              refine w_get (ci := 6) (C := RX6) (T := TX6) (N := 7) (ref := "LayoutDeskModel$Type") hx hb hts in_X7_lay_6 hown hw hb7 rfl 3 (by decide) (hts (.fieldLink RX7 113 "LayoutDeskModel$Type" "size" "I") (by decide +kernel)) (fun _ h9 => h9) rfl dX7_lay_132 ?_
              refine lv_iadd hx hb dX7_lay_135 ?_
              refine va_mmax hx hb (hml.trans hl.1.symm) hown (hts (.methodLink RX7 115 Lib.Math.max.name) (by decide +kernel)) (hts (.static Lib.Math.max.name) (by decide +kernel)) (hts (.initialized "java/lang/Math") (by decide +kernel)) (hts _ (List.mem_of_getElem? (i := 16) rfl)) (Nat.le_of_ble_eq_true rfl) (Nat.le_of_ble_eq_true rfl) (Nat.le_of_ble_eq_true rfl) (Nat.le_of_ble_eq_true rfl) dX7_lay_136 ?_
              refine lv_topi (fun x8 ex8 => ?_)
              have ex8 : x8 = nI (max L.1 (pl + d.2.2.2.1)) := ex8.trans (by rw [nI_add]; exact mx_nI (by omega) (by omega))
              subst ex8
              refine w_put (ci := 7) (C := RX7) (T := TX7) (N := 8) (ref := "LayoutDeskModel") (ty := .int) (fs' := [.ref tl, .ref P.1, .ref P.2.1, .ref P.2.2.1, .ref P.2.2.2, .int (nI (L.2.2.2.length + 1)), .int (nI (max L.1 (pl + d.2.2.2.1))), .int (nI L.2.1)]) hx hb hts in_X7_lay_7 tyX7 tyX7_ok nmX7 hown hw w1 rfl 6 (by decide) (hts (.fieldLink RX7 91 "LayoutDeskModel" "reach" "I") (by decide +kernel)) (fun _ h9 => h9) rfl (by decide +kernel) rfl rfl (Nat.le_of_ble_eq_true rfl) rfl dX7_lay_139 (fun H locs hw => ?_)
              refine lv_aload_n hx hb dX7_lay_142 rfl (lv_at hl 5 rfl) ?_
              refine lv_aload_n hx hb dX7_lay_143 rfl (lv_at hl 5 rfl) ?_
              refine w_get (ci := 7) (C := RX7) (T := TX7) (N := 8) (ref := "LayoutDeskModel") hx hb hts in_X7_lay_7 hown hw (wu_s _ _ _) rfl 7 (by decide) (hts (.fieldLink RX7 94 "LayoutDeskModel" "align" "I") (by decide +kernel)) (fun _ h9 => h9) rfl dX7_lay_144 ?_
              refine lv_aload hx hb dX7_lay_147 (lv_at hl 1 rfl) ?_
              refine w_get (ci := 6) (C := RX6) (T := TX6) (N := 7) (ref := "LayoutDeskModel$Type") hx hb hts in_X7_lay_6 hown hw ((wu_n (ne_e hb7 w1 (ne_c (by decide)))).trans hb7) rfl 4 (by decide) (hts (.fieldLink RX7 85 "LayoutDeskModel$Type" "align" "I") (by decide +kernel)) (fun _ h9 => h9) rfl dX7_lay_149 ?_
              refine va_mmax hx hb (hml.trans hl.1.symm) hown (hts (.methodLink RX7 115 Lib.Math.max.name) (by decide +kernel)) (hts (.static Lib.Math.max.name) (by decide +kernel)) (hts (.initialized "java/lang/Math") (by decide +kernel)) (hts _ (List.mem_of_getElem? (i := 16) rfl)) (Nat.le_of_ble_eq_true rfl) (Nat.le_of_ble_eq_true rfl) (Nat.le_of_ble_eq_true rfl) (Nat.le_of_ble_eq_true rfl) dX7_lay_152 ?_
              refine lv_topi (fun x9 ex9 => ?_)
              have ex9 : x9 = nI (max L.2.1 d.2.2.2.2) := ex9.trans (mx_nI (by omega) (by omega))
              subst ex9
              refine w_put (ci := 7) (C := RX7) (T := TX7) (N := 8) (ref := "LayoutDeskModel") (ty := .int) (fs' := [.ref tl, .ref P.1, .ref P.2.1, .ref P.2.2.1, .ref P.2.2.2, .int (nI (L.2.2.2.length + 1)), .int (nI (max L.1 (pl + d.2.2.2.1))), .int (nI (max L.2.1 d.2.2.2.2))]) hx hb hts in_X7_lay_7 tyX7 tyX7_ok nmX7 hown hw (wu_s _ _ _) rfl 7 (by decide) (hts (.fieldLink RX7 94 "LayoutDeskModel" "align" "I") (by decide +kernel)) (fun _ h9 => h9) rfl (by decide +kernel) rfl rfl (Nat.le_of_ble_eq_true rfl) rfl dX7_lay_155 (fun H locs hw => ?_)
              refine lv_iconst (v := (-1)) hx hb dX7_lay_158 (by decide) ?_
              refine lv_istore_n (lv' := [(2, .int (-1)), (8, .int (nI pl)), (7, .ref b), (6, .int (nI t)), (5, .ref y), (4, .int (nI i)), (0, .ref mo), (1, .ref a), (3, .int us)]) hx hb dX7_lay_159 rfl hl (by decide) rfl (fun ls hl => ?_)
              refine lv_goto (tgt := 265) hx hb dX7_lay_160 (by decide) ?_
              obtain ⟨z265, ez265⟩ : ∃ y : Int32, y = (nI i) + 1 := ⟨_, rfl⟩
              refine lv_iinc (v := z265) (lv' := [(4, .int z265), (2, .int (-1)), (8, .int (nI pl)), (7, .ref b), (6, .int (nI t)), (5, .ref y), (0, .ref mo), (1, .ref a), (3, .int us)]) hx hb dX7_lay_265 hl (k := 5) rfl (by rw [ez265]; rfl) (by decide) rfl (fun ls hl => ?_)
              refine lv_goto (tgt := 22) hx hb dX7_lay_268 (by decide) ?_
              have ez : z265 = nI (i + 1) := ez265.trans (nI_1 i)
              subst ez
              have hLW3 := LW_mo (W := (wu (wu k' mo (.inr (7, [.ref tl, .ref P.1, .ref P.2.1, .ref P.2.2.1, .ref P.2.2.2, .int (nI (L.2.2.2.length + 1)), .int (nI (max L.1 (pl + d.2.2.2.1))), .int (nI L.2.1)]))) mo (.inr (7, [.ref tl, .ref P.1, .ref P.2.1, .ref P.2.2.1, .ref P.2.2.2, .int (nI (L.2.2.2.length + 1)), .int (nI (max L.1 (pl + d.2.2.2.1))), .int (nI (max L.2.1 d.2.2.2.2))])))) none hLW2 (by rw [wu_s]; show _ = some (oMo _ _ _ _ _ (nI (L.2.2.2 ++ [(pl, t, 0, 0)]).length) _ _); rw [List.length_append]; rfl) (fun q hq => by rw [wu_n hq, wu_n hq]) (w_z hw)
              exact ih (i + 1) (by omega) _ _ _ ls (-1) us (by rw [eT, lyS_fld hd1 hd0, ← epl]; exact hLW3) (by rw [eT, lyS_fld hd1 hd0]; exact Or.inl ⟨rfl, rfl⟩) hw (lv_sub hl [0, 6, 7, 1, 8] rfl)
        · exact absurd (nI_pos' (by omega)) c57
      · have hy2 : hh y = some (oAd (nI t) (nI d.2.1) (if d.2.2.1 = true then 1 else 0)) := by rw [hy]; simp only [adT, hd1]
        obtain ⟨ht3, -⟩ := hty d hdm t hd1
        refine w_get (ci := 5) (C := RX5) (T := TX5) (N := 3) (ref := "LayoutDeskModel$Added") hx hb hts in_X7_lay_5 hown hw hy2 rfl 0 (by decide) (hts (.fieldLink RX7 100 "LayoutDeskModel$Added" "type" "I") (by decide +kernel)) (fun _ h9 => h9) rfl dX7_lay_50 ?_
        refine lv_istore (lv' := [(6, .int (nI t)), (5, .ref y), (4, .int (nI i)), (0, .ref mo), (1, .ref a), (2, .int un), (3, .int us)]) hx hb dX7_lay_53 hl (by decide) rfl (fun ls hl => ?_)
        refine lv_iload hx hb dX7_lay_55 (lv_at hl 0 rfl) ?_
        refine lv_if_ge (tgt := 65) hx hb dX7_lay_57 (by decide) (fun c57 => ?_) (fun c57 => ?_)
        · refine lv_aload hx hb dX7_lay_65 (lv_at hl 1 rfl) ?_
          refine w_get (ci := 5) (C := RX5) (T := TX5) (N := 3) (ref := "LayoutDeskModel$Added") hx hb hts in_X7_lay_5 hown hw hy2 rfl 1 (by decide) (hts (.fieldLink RX7 103 "LayoutDeskModel$Added" "width" "I") (by decide +kernel)) (fun _ h9 => h9) rfl dX7_lay_67 ?_
          refine lv_if_ne (tgt := 163) hx hb dX7_lay_70 (by decide) (fun c70 => ?_) (fun c70 => ?_)
          · refine lv_aload_n hx hb dX7_lay_163 rfl (lv_at hl 4 rfl) ?_
            refine w_get (ci := 6) (C := RX6) (T := TX6) (N := 7) (ref := "LayoutDeskModel$Type") hx hb hts in_X7_lay_6 hown hw ha' rfl 0 (by decide) (hts (.fieldLink RX7 58 "LayoutDeskModel$Type" "kind" "I") (by decide +kernel)) (fun _ h9 => h9) rfl dX7_lay_164 ?_
            refine lv_iconst (v := 4) hx hb dX7_lay_167 (by decide) ?_
            refine lv_icmp_eq (tgt := 187) hx hb dX7_lay_168 (by decide) (fun c168 => ?_) (fun c168 => ?_)
            · have hU0 := kU_t hK c168
              have hU : lyU (K == 4) L.1 L.2.2.1 d.2.1 = (0, 0) := lyU_un hU0
              refine lv_aload_n hx hb dX7_lay_187 rfl (lv_at hl 4 rfl) ?_
              refine w_get (ci := 6) (C := RX6) (T := TX6) (N := 7) (ref := "LayoutDeskModel$Type") hx hb hts in_X7_lay_6 hown hw ha' rfl 0 (by decide) (hts (.fieldLink RX7 58 "LayoutDeskModel$Type" "kind" "I") (by decide +kernel)) (fun _ h9 => h9) rfl dX7_lay_188 ?_
              refine lv_iconst (v := 4) hx hb dX7_lay_191 (by decide) ?_
              refine lv_icmp_ne (tgt := 199) hx hb dX7_lay_192 (by decide) (fun c192 => ?_) (fun c192 => ?_)
              · exact absurd c168 c192
              · refine lv_iconst (v := 0) hx hb dX7_lay_195 (by decide) ?_
                refine lv_goto (tgt := 207) hx hb dX7_lay_196 (by decide) ?_
                refine lv_istore_n (lv' := [(2, .int 0), (6, .int (nI t)), (5, .ref y), (4, .int (nI i)), (0, .ref mo), (1, .ref a), (3, .int us)]) hx hb dX7_lay_207 rfl hl (by decide) rfl (fun ls hl => ?_)
                refine lv_iconst (v := 0) hx hb dX7_lay_208 (by decide) ?_
                refine lv_istore_n (lv' := [(3, .int 0), (2, .int 0), (6, .int (nI t)), (5, .ref y), (4, .int (nI i)), (0, .ref mo), (1, .ref a)]) hx hb dX7_lay_209 rfl hl (by decide) rfl (fun ls hl => ?_)
                have hrl4 := rup_le L.1 4
                rw [lyS_bits hd1 hd0 hU] at hB5
                refine lv_aload hx hb dX7_lay_210 (lv_at hl 3 rfl) ?_
                refine w_get (ci := 5) (C := RX5) (T := TX5) (N := 3) (ref := "LayoutDeskModel$Added") hx hb hts in_X7_lay_5 hown hw hy2 rfl 2 (by decide) (hts (.fieldLink RX7 120 "LayoutDeskModel$Added" "member" "Z") (by decide +kernel)) (fun _ h9 => h9) rfl dX7_lay_212 ?_
                refine lv_if_eq (tgt := 231) hx hb dX7_lay_215 (by decide) (fun c215 => ?_) (fun c215 => ?_)
                · have hmb : d.2.2.1 = false := by
                    cases hq9 : d.2.2.1 with
                    | false => rfl
                    | true => rw [hq9] at c215; exact absurd c215 (by decide)
                  refine lv_iload_n hx hb dX7_lay_231 rfl (lv_at hl 0 rfl) ?_
                  refine lv_aload hx hb dX7_lay_232 (lv_at hl 3 rfl) ?_
                  refine w_get (ci := 5) (C := RX5) (T := TX5) (N := 3) (ref := "LayoutDeskModel$Added") hx hb hts in_X7_lay_5 hown hw hy2 rfl 1 (by decide) (hts (.fieldLink RX7 103 "LayoutDeskModel$Added" "width" "I") (by decide +kernel)) (fun _ h9 => h9) rfl dX7_lay_234 ?_
                  refine lv_iadd hx hb dX7_lay_237 ?_
                  refine lv_topi (fun x3_ ex3_ => ?_)
                  have ex3_ : x3_ = nI (0 + d.2.1) := ex3_.trans (nI_add 0 d.2.1)
                  subst ex3_
                  refine lv_istore_n (lv' := [(3, .int (nI (0 + d.2.1))), (2, .int 0), (6, .int (nI t)), (5, .ref y), (4, .int (nI i)), (0, .ref mo), (1, .ref a)]) hx hb dX7_lay_238 rfl hl (by decide) rfl (fun ls hl => ?_)
                  refine lv_aload_n hx hb dX7_lay_239 rfl (lv_at hl 5 rfl) ?_
                  refine lv_aload_n hx hb dX7_lay_240 rfl (lv_at hl 5 rfl) ?_
                  refine w_get (ci := 7) (C := RX7) (T := TX7) (N := 8) (ref := "LayoutDeskModel") hx hb hts in_X7_lay_7 hown hw hW1 rfl 6 (by decide) (hts (.fieldLink RX7 91 "LayoutDeskModel" "reach" "I") (by decide +kernel)) (fun _ h9 => h9) rfl dX7_lay_241 ?_
                  refine lv_iload_n hx hb dX7_lay_244 rfl (lv_at hl 1 rfl) ?_
                  refine lv_iconst (v := 4) hx hb dX7_lay_245 (by decide) ?_
                  refine lv_iadd hx hb dX7_lay_246 ?_
                  refine va_mmax hx hb (hml.trans hl.1.symm) hown (hts (.methodLink RX7 115 Lib.Math.max.name) (by decide +kernel)) (hts (.static Lib.Math.max.name) (by decide +kernel)) (hts (.initialized "java/lang/Math") (by decide +kernel)) (hts _ (List.mem_of_getElem? (i := 16) rfl)) (Nat.le_of_ble_eq_true rfl) (Nat.le_of_ble_eq_true rfl) (Nat.le_of_ble_eq_true rfl) (Nat.le_of_ble_eq_true rfl) dX7_lay_247 ?_
                  refine lv_topi (fun x8 ex8 => ?_)
                  have ex8 : x8 = nI (max L.1 (0 + 4)) := ex8.trans (by rw [show (0 : Int32) + 4 = nI (0 + 4) from nI_add (0) 4]; exact mx_nI (by omega) (by omega))
                  subst ex8
                  refine w_put (ci := 7) (C := RX7) (T := TX7) (N := 8) (ref := "LayoutDeskModel") (ty := .int) (fs' := [.ref tl, .ref P.1, .ref P.2.1, .ref P.2.2.1, .ref P.2.2.2, .int (nI L.2.2.2.length), .int (nI (max L.1 (0 + 4))), .int (nI L.2.1)]) hx hb hts in_X7_lay_7 tyX7 tyX7_ok nmX7 hown hw hW1 rfl 6 (by decide) (hts (.fieldLink RX7 91 "LayoutDeskModel" "reach" "I") (by decide +kernel)) (fun _ h9 => h9) rfl (by decide +kernel) rfl rfl (Nat.le_of_ble_eq_true rfl) rfl dX7_lay_250 (fun H locs hw => ?_)
                  refine lv_aload_n hx hb dX7_lay_253 rfl (lv_at hl 5 rfl) ?_
                  refine lv_aload_n hx hb dX7_lay_254 rfl (lv_at hl 5 rfl) ?_
                  refine w_get (ci := 7) (C := RX7) (T := TX7) (N := 8) (ref := "LayoutDeskModel") hx hb hts in_X7_lay_7 hown hw (wu_s _ _ _) rfl 7 (by decide) (hts (.fieldLink RX7 94 "LayoutDeskModel" "align" "I") (by decide +kernel)) (fun _ h9 => h9) rfl dX7_lay_255 ?_
                  refine lv_iconst (v := 4) hx hb dX7_lay_258 (by decide) ?_
                  refine va_mmax hx hb (hml.trans hl.1.symm) hown (hts (.methodLink RX7 115 Lib.Math.max.name) (by decide +kernel)) (hts (.static Lib.Math.max.name) (by decide +kernel)) (hts (.initialized "java/lang/Math") (by decide +kernel)) (hts _ (List.mem_of_getElem? (i := 16) rfl)) (Nat.le_of_ble_eq_true rfl) (Nat.le_of_ble_eq_true rfl) (Nat.le_of_ble_eq_true rfl) (Nat.le_of_ble_eq_true rfl) dX7_lay_259 ?_
                  refine lv_topi (fun x9 ex9 => ?_)
                  have ex9 : x9 = nI (max L.2.1 4) := ex9.trans (mx_nI (b := 4) (by omega) (by decide))
                  subst ex9
                  refine w_put (ci := 7) (C := RX7) (T := TX7) (N := 8) (ref := "LayoutDeskModel") (ty := .int) (fs' := [.ref tl, .ref P.1, .ref P.2.1, .ref P.2.2.1, .ref P.2.2.2, .int (nI L.2.2.2.length), .int (nI (max L.1 (0 + 4))), .int (nI (max L.2.1 4))]) hx hb hts in_X7_lay_7 tyX7 tyX7_ok nmX7 hown hw (wu_s _ _ _) rfl 7 (by decide) (hts (.fieldLink RX7 94 "LayoutDeskModel" "align" "I") (by decide +kernel)) (fun _ h9 => h9) rfl (by decide +kernel) rfl rfl (Nat.le_of_ble_eq_true rfl) rfl dX7_lay_262 (fun H locs hw => ?_)
                  obtain ⟨z265, ez265⟩ : ∃ y : Int32, y = (nI i) + 1 := ⟨_, rfl⟩
                  refine lv_iinc (v := z265) (lv' := [(4, .int z265), (3, .int (nI (0 + d.2.1))), (2, .int 0), (6, .int (nI t)), (5, .ref y), (0, .ref mo), (1, .ref a)]) hx hb dX7_lay_265 hl (k := 4) rfl (by rw [ez265]; rfl) (by decide) rfl (fun ls hl => ?_)
                  refine lv_goto (tgt := 22) hx hb dX7_lay_268 (by decide) ?_
                  have ez : z265 = nI (i + 1) := ez265.trans (nI_1 i)
                  subst ez
                  have hLW3 := LW_mo (W := (wu (wu hh mo (.inr (7, [.ref tl, .ref P.1, .ref P.2.1, .ref P.2.2.1, .ref P.2.2.2, .int (nI L.2.2.2.length), .int (nI (max L.1 (0 + 4))), .int (nI L.2.1)]))) mo (.inr (7, [.ref tl, .ref P.1, .ref P.2.1, .ref P.2.2.1, .ref P.2.2.2, .int (nI L.2.2.2.length), .int (nI (max L.1 (0 + 4))), .int (nI (max L.2.1 4))])))) (some (0, 0 + d.2.1)) hLW (wu_s _ _ _) (fun q hq => by rw [wu_n hq, wu_n hq]) (w_z hw)
                  exact ih (i + 1) (by omega) _ _ _ ls 0 (nI (0 + d.2.1)) (by rw [eT, lyS_bits hd1 hd0 hU, hmb]; exact hLW3) (by rw [eT, lyS_bits hd1 hd0 hU]; exact Or.inr ⟨0, 0 + d.2.1, rfl, rfl, rfl⟩) hw (lv_sub hl [0, 5, 6, 2, 1] rfl)
                · have hmb : d.2.2.1 = true := by
                    cases hq9 : d.2.2.1 with
                    | true => rfl
                    | false => rw [hq9] at c215; exact absurd rfl c215
                  rw [hmb] at hB5
                  have hn100 : L.2.2.2.length < 100 := by have := hB5.2.1; simp at this; omega
                  refine lv_aload_n hx hb dX7_lay_218 rfl (lv_at hl 5 rfl) ?_
                  refine lv_iload_n hx hb dX7_lay_219 rfl (lv_at hl 1 rfl) ?_
                  refine lv_iload hx hb dX7_lay_220 (lv_at hl 2 rfl) ?_
                  refine lv_iload_n hx hb dX7_lay_222 rfl (lv_at hl 0 rfl) ?_
                  refine lv_aload hx hb dX7_lay_223 (lv_at hl 3 rfl) ?_
                  refine w_get (ci := 5) (C := RX5) (T := TX5) (N := 3) (ref := "LayoutDeskModel$Added") hx hb hts in_X7_lay_5 hown hw hy2 rfl 1 (by decide) (hts (.fieldLink RX7 103 "LayoutDeskModel$Added" "width" "I") (by decide +kernel)) (fun _ h9 => h9) rfl dX7_lay_225 ?_
                  refine w_call (va_runV (As := [.int 0, .int (nI t), .int 0, .int (nI d.2.1)]) (rest := []) ⟨hx, hb, hml, hown, hts⟩ (c_put l g hh mo tl P.1 P.2.1 P.2.2.1 P.2.2.2 L.2.2.2.length (nI L.1) (nI L.2.1) 0 (nI t) 0 (nI d.2.1) f0 f1 f2 f3 hW1 g0 g1 g2 g3 hd.1 hd.2.1 hd.2.2.1 hd.2.2.2.1 hd.2.2.2.2.1 hd.2.2.2.2.2 hn100 H.size) (cwV 4 hts gX7_lay_X7_put rfl rfl rfl (by decide +kernel) ⟨Nat.le_of_ble_eq_true rfl, Nat.le_of_ble_eq_true rfl⟩) ⟨pr_blind, w_recv hw hW1 rfl, pr_of hw⟩ rfl rfl hl.1 rfl (lv_room (Nat.le_of_ble_eq_true rfl)) dX7_lay_228 ⟨Nat.le_of_ble_eq_true rfl, Nat.le_of_ble_eq_true rfl⟩) hw (fun v k' H locs hp hw => ?_)
                  obtain ⟨rfl, w1, w2, w3, w4, w5, w6⟩ := hp
                  refine W.eq (g2 := F0 m 231 ls []) rfl ?_
                  have hy7 := (w6 y (ne_e hy2 hW1 (ne_c (by decide))) (scr_obj hs8 hy2).1 (scr_obj hs8 hy2).2.1 (scr_obj hs8 hy2).2.2.1 (scr_obj hs8 hy2).2.2.2).trans hy2
                  have hLW2 := LW_put none (0, t, 0, d.2.1) hLW hcon w1 w2 w3 w4 w5 w6 (w_z hw) rfl rfl rfl rfl
                  refine lv_iload_n hx hb dX7_lay_231 rfl (lv_at hl 0 rfl) ?_
                  refine lv_aload hx hb dX7_lay_232 (lv_at hl 3 rfl) ?_
                  refine w_get (ci := 5) (C := RX5) (T := TX5) (N := 3) (ref := "LayoutDeskModel$Added") hx hb hts in_X7_lay_5 hown hw hy7 rfl 1 (by decide) (hts (.fieldLink RX7 103 "LayoutDeskModel$Added" "width" "I") (by decide +kernel)) (fun _ h9 => h9) rfl dX7_lay_234 ?_
                  refine lv_iadd hx hb dX7_lay_237 ?_
                  refine lv_topi (fun x3_ ex3_ => ?_)
                  have ex3_ : x3_ = nI (0 + d.2.1) := ex3_.trans (nI_add 0 d.2.1)
                  subst ex3_
                  refine lv_istore_n (lv' := [(3, .int (nI (0 + d.2.1))), (2, .int 0), (6, .int (nI t)), (5, .ref y), (4, .int (nI i)), (0, .ref mo), (1, .ref a)]) hx hb dX7_lay_238 rfl hl (by decide) rfl (fun ls hl => ?_)
                  refine lv_aload_n hx hb dX7_lay_239 rfl (lv_at hl 5 rfl) ?_
                  refine lv_aload_n hx hb dX7_lay_240 rfl (lv_at hl 5 rfl) ?_
                  refine w_get (ci := 7) (C := RX7) (T := TX7) (N := 8) (ref := "LayoutDeskModel") hx hb hts in_X7_lay_7 hown hw w1 rfl 6 (by decide) (hts (.fieldLink RX7 91 "LayoutDeskModel" "reach" "I") (by decide +kernel)) (fun _ h9 => h9) rfl dX7_lay_241 ?_
                  refine lv_iload_n hx hb dX7_lay_244 rfl (lv_at hl 1 rfl) ?_
                  refine lv_iconst (v := 4) hx hb dX7_lay_245 (by decide) ?_
                  refine lv_iadd hx hb dX7_lay_246 ?_
                  refine va_mmax hx hb (hml.trans hl.1.symm) hown (hts (.methodLink RX7 115 Lib.Math.max.name) (by decide +kernel)) (hts (.static Lib.Math.max.name) (by decide +kernel)) (hts (.initialized "java/lang/Math") (by decide +kernel)) (hts _ (List.mem_of_getElem? (i := 16) rfl)) (Nat.le_of_ble_eq_true rfl) (Nat.le_of_ble_eq_true rfl) (Nat.le_of_ble_eq_true rfl) (Nat.le_of_ble_eq_true rfl) dX7_lay_247 ?_
                  refine lv_topi (fun x8 ex8 => ?_)
                  have ex8 : x8 = nI (max L.1 (0 + 4)) := ex8.trans (by rw [show (0 : Int32) + 4 = nI (0 + 4) from nI_add (0) 4]; exact mx_nI (by omega) (by omega))
                  subst ex8
                  refine w_put (ci := 7) (C := RX7) (T := TX7) (N := 8) (ref := "LayoutDeskModel") (ty := .int) (fs' := [.ref tl, .ref P.1, .ref P.2.1, .ref P.2.2.1, .ref P.2.2.2, .int (nI (L.2.2.2.length + 1)), .int (nI (max L.1 (0 + 4))), .int (nI L.2.1)]) hx hb hts in_X7_lay_7 tyX7 tyX7_ok nmX7 hown hw w1 rfl 6 (by decide) (hts (.fieldLink RX7 91 "LayoutDeskModel" "reach" "I") (by decide +kernel)) (fun _ h9 => h9) rfl (by decide +kernel) rfl rfl (Nat.le_of_ble_eq_true rfl) rfl dX7_lay_250 (fun H locs hw => ?_)
                  refine lv_aload_n hx hb dX7_lay_253 rfl (lv_at hl 5 rfl) ?_
                  refine lv_aload_n hx hb dX7_lay_254 rfl (lv_at hl 5 rfl) ?_
                  refine w_get (ci := 7) (C := RX7) (T := TX7) (N := 8) (ref := "LayoutDeskModel") hx hb hts in_X7_lay_7 hown hw (wu_s _ _ _) rfl 7 (by decide) (hts (.fieldLink RX7 94 "LayoutDeskModel" "align" "I") (by decide +kernel)) (fun _ h9 => h9) rfl dX7_lay_255 ?_
                  refine lv_iconst (v := 4) hx hb dX7_lay_258 (by decide) ?_
                  refine va_mmax hx hb (hml.trans hl.1.symm) hown (hts (.methodLink RX7 115 Lib.Math.max.name) (by decide +kernel)) (hts (.static Lib.Math.max.name) (by decide +kernel)) (hts (.initialized "java/lang/Math") (by decide +kernel)) (hts _ (List.mem_of_getElem? (i := 16) rfl)) (Nat.le_of_ble_eq_true rfl) (Nat.le_of_ble_eq_true rfl) (Nat.le_of_ble_eq_true rfl) (Nat.le_of_ble_eq_true rfl) dX7_lay_259 ?_
                  refine lv_topi (fun x9 ex9 => ?_)
                  have ex9 : x9 = nI (max L.2.1 4) := ex9.trans (mx_nI (b := 4) (by omega) (by decide))
                  subst ex9
                  refine w_put (ci := 7) (C := RX7) (T := TX7) (N := 8) (ref := "LayoutDeskModel") (ty := .int) (fs' := [.ref tl, .ref P.1, .ref P.2.1, .ref P.2.2.1, .ref P.2.2.2, .int (nI (L.2.2.2.length + 1)), .int (nI (max L.1 (0 + 4))), .int (nI (max L.2.1 4))]) hx hb hts in_X7_lay_7 tyX7 tyX7_ok nmX7 hown hw (wu_s _ _ _) rfl 7 (by decide) (hts (.fieldLink RX7 94 "LayoutDeskModel" "align" "I") (by decide +kernel)) (fun _ h9 => h9) rfl (by decide +kernel) rfl rfl (Nat.le_of_ble_eq_true rfl) rfl dX7_lay_262 (fun H locs hw => ?_)
                  obtain ⟨z265, ez265⟩ : ∃ y : Int32, y = (nI i) + 1 := ⟨_, rfl⟩
                  refine lv_iinc (v := z265) (lv' := [(4, .int z265), (3, .int (nI (0 + d.2.1))), (2, .int 0), (6, .int (nI t)), (5, .ref y), (0, .ref mo), (1, .ref a)]) hx hb dX7_lay_265 hl (k := 4) rfl (by rw [ez265]; rfl) (by decide) rfl (fun ls hl => ?_)
                  refine lv_goto (tgt := 22) hx hb dX7_lay_268 (by decide) ?_
                  have ez : z265 = nI (i + 1) := ez265.trans (nI_1 i)
                  subst ez
                  have hLW3 := LW_mo (W := (wu (wu k' mo (.inr (7, [.ref tl, .ref P.1, .ref P.2.1, .ref P.2.2.1, .ref P.2.2.2, .int (nI (L.2.2.2.length + 1)), .int (nI (max L.1 (0 + 4))), .int (nI L.2.1)]))) mo (.inr (7, [.ref tl, .ref P.1, .ref P.2.1, .ref P.2.2.1, .ref P.2.2.2, .int (nI (L.2.2.2.length + 1)), .int (nI (max L.1 (0 + 4))), .int (nI (max L.2.1 4))])))) (some (0, 0 + d.2.1)) hLW2 (by rw [wu_s]; show _ = some (oMo _ _ _ _ _ (nI (L.2.2.2 ++ [(0, t, 0, d.2.1)]).length) _ _); rw [List.length_append]; rfl) (fun q hq => by rw [wu_n hq, wu_n hq]) (w_z hw)
                  exact ih (i + 1) (by omega) _ _ _ ls 0 (nI (0 + d.2.1)) (by rw [eT, lyS_bits hd1 hd0 hU, hmb]; exact hLW3) (by rw [eT, lyS_bits hd1 hd0 hU]; exact Or.inr ⟨0, 0 + d.2.1, rfl, rfl, rfl⟩) hw (lv_sub hl [0, 5, 6, 2, 1] rfl)
            · have hU0 := kU_f c168
              refine lv_iload_n hx hb dX7_lay_171 rfl (lv_at hl 5 rfl) ?_
              refine lv_if_lt (tgt := 187) hx hb dX7_lay_172 (by decide) (fun c172 => ?_) (fun c172 => ?_)
              · have hu : L.2.2.1 = none := by
                  rcases huM with z | ⟨p9, k9, z1, z2, z3⟩
                  · exact z.1
                  · exact absurd c172 (by rw [z2]; exact nI_pos (by have := (hB4 p9 k9 z1).2; omega))
                have hU : lyU (K == 4) L.1 L.2.2.1 d.2.1 = (rup L.1 4, 0) := lyU_new hU0 (Or.inl hu)
                refine lv_aload_n hx hb dX7_lay_187 rfl (lv_at hl 4 rfl) ?_
                refine w_get (ci := 6) (C := RX6) (T := TX6) (N := 7) (ref := "LayoutDeskModel$Type") hx hb hts in_X7_lay_6 hown hw ha' rfl 0 (by decide) (hts (.fieldLink RX7 58 "LayoutDeskModel$Type" "kind" "I") (by decide +kernel)) (fun _ h9 => h9) rfl dX7_lay_188 ?_
                refine lv_iconst (v := 4) hx hb dX7_lay_191 (by decide) ?_
                refine lv_icmp_ne (tgt := 199) hx hb dX7_lay_192 (by decide) (fun c192 => ?_) (fun c192 => ?_)
                · refine lv_aload_n hx hb dX7_lay_199 rfl (lv_at hl 3 rfl) ?_
                  refine w_get (ci := 7) (C := RX7) (T := TX7) (N := 8) (ref := "LayoutDeskModel") hx hb hts in_X7_lay_7 hown hw hW1 rfl 6 (by decide) (hts (.fieldLink RX7 91 "LayoutDeskModel" "reach" "I") (by decide +kernel)) (fun _ h9 => h9) rfl dX7_lay_200 ?_
                  refine lv_iconst (v := 4) hx hb dX7_lay_203 (by decide) ?_
                  refine w_call (va_runS (As := [.int (nI L.1), .int 4]) (rest := []) ⟨hx, hb, hml, hown, hts⟩ (c_up l g hh L.1 4 (by omega) (by decide) H.size) (va_cwS 2 hts gX7_lay_X7_up rfl rfl rfl (by decide +kernel) ⟨Nat.le_of_ble_eq_true rfl, Nat.le_of_ble_eq_true rfl⟩) ⟨pr_blind, pr_of hw⟩ rfl rfl hl.1 rfl (lv_room (Nat.le_of_ble_eq_true rfl)) dX7_lay_204 ⟨Nat.le_of_ble_eq_true rfl, Nat.le_of_ble_eq_true rfl⟩) hw (fun v h' H locs hp hw => ?_)
                  obtain ⟨rfl, rfl⟩ := hp
                  refine W.eq (g2 := F0 m 207 ls [.int (nI (rup L.1 4))]) rfl ?_
                  refine lv_istore_n (lv' := [(2, .int (nI (rup L.1 4))), (6, .int (nI t)), (5, .ref y), (4, .int (nI i)), (0, .ref mo), (1, .ref a), (3, .int us)]) hx hb dX7_lay_207 rfl hl (by decide) rfl (fun ls hl => ?_)
                  refine lv_iconst (v := 0) hx hb dX7_lay_208 (by decide) ?_
                  refine lv_istore_n (lv' := [(3, .int 0), (2, .int (nI (rup L.1 4))), (6, .int (nI t)), (5, .ref y), (4, .int (nI i)), (0, .ref mo), (1, .ref a)]) hx hb dX7_lay_209 rfl hl (by decide) rfl (fun ls hl => ?_)
                  have hrl4 := rup_le L.1 4
                  rw [lyS_bits hd1 hd0 hU] at hB5
                  refine lv_aload hx hb dX7_lay_210 (lv_at hl 3 rfl) ?_
                  refine w_get (ci := 5) (C := RX5) (T := TX5) (N := 3) (ref := "LayoutDeskModel$Added") hx hb hts in_X7_lay_5 hown hw hy2 rfl 2 (by decide) (hts (.fieldLink RX7 120 "LayoutDeskModel$Added" "member" "Z") (by decide +kernel)) (fun _ h9 => h9) rfl dX7_lay_212 ?_
                  refine lv_if_eq (tgt := 231) hx hb dX7_lay_215 (by decide) (fun c215 => ?_) (fun c215 => ?_)
                  · have hmb : d.2.2.1 = false := by
                      cases hq9 : d.2.2.1 with
                      | false => rfl
                      | true => rw [hq9] at c215; exact absurd c215 (by decide)
                    refine lv_iload_n hx hb dX7_lay_231 rfl (lv_at hl 0 rfl) ?_
                    refine lv_aload hx hb dX7_lay_232 (lv_at hl 3 rfl) ?_
                    refine w_get (ci := 5) (C := RX5) (T := TX5) (N := 3) (ref := "LayoutDeskModel$Added") hx hb hts in_X7_lay_5 hown hw hy2 rfl 1 (by decide) (hts (.fieldLink RX7 103 "LayoutDeskModel$Added" "width" "I") (by decide +kernel)) (fun _ h9 => h9) rfl dX7_lay_234 ?_
                    refine lv_iadd hx hb dX7_lay_237 ?_
                    refine lv_topi (fun x3_ ex3_ => ?_)
                    have ex3_ : x3_ = nI (0 + d.2.1) := ex3_.trans (nI_add 0 d.2.1)
                    subst ex3_
                    refine lv_istore_n (lv' := [(3, .int (nI (0 + d.2.1))), (2, .int (nI (rup L.1 4))), (6, .int (nI t)), (5, .ref y), (4, .int (nI i)), (0, .ref mo), (1, .ref a)]) hx hb dX7_lay_238 rfl hl (by decide) rfl (fun ls hl => ?_)
                    refine lv_aload_n hx hb dX7_lay_239 rfl (lv_at hl 5 rfl) ?_
                    refine lv_aload_n hx hb dX7_lay_240 rfl (lv_at hl 5 rfl) ?_
                    refine w_get (ci := 7) (C := RX7) (T := TX7) (N := 8) (ref := "LayoutDeskModel") hx hb hts in_X7_lay_7 hown hw hW1 rfl 6 (by decide) (hts (.fieldLink RX7 91 "LayoutDeskModel" "reach" "I") (by decide +kernel)) (fun _ h9 => h9) rfl dX7_lay_241 ?_
                    refine lv_iload_n hx hb dX7_lay_244 rfl (lv_at hl 1 rfl) ?_
                    refine lv_iconst (v := 4) hx hb dX7_lay_245 (by decide) ?_
                    refine lv_iadd hx hb dX7_lay_246 ?_
                    refine va_mmax hx hb (hml.trans hl.1.symm) hown (hts (.methodLink RX7 115 Lib.Math.max.name) (by decide +kernel)) (hts (.static Lib.Math.max.name) (by decide +kernel)) (hts (.initialized "java/lang/Math") (by decide +kernel)) (hts _ (List.mem_of_getElem? (i := 16) rfl)) (Nat.le_of_ble_eq_true rfl) (Nat.le_of_ble_eq_true rfl) (Nat.le_of_ble_eq_true rfl) (Nat.le_of_ble_eq_true rfl) dX7_lay_247 ?_
                    refine lv_topi (fun x8 ex8 => ?_)
                    have ex8 : x8 = nI (max L.1 (rup L.1 4 + 4)) := ex8.trans (by rw [show (nI (rup L.1 4) : Int32) + 4 = nI (rup L.1 4 + 4) from nI_add (rup L.1 4) 4]; exact mx_nI (by omega) (by omega))
                    subst ex8
                    refine w_put (ci := 7) (C := RX7) (T := TX7) (N := 8) (ref := "LayoutDeskModel") (ty := .int) (fs' := [.ref tl, .ref P.1, .ref P.2.1, .ref P.2.2.1, .ref P.2.2.2, .int (nI L.2.2.2.length), .int (nI (max L.1 (rup L.1 4 + 4))), .int (nI L.2.1)]) hx hb hts in_X7_lay_7 tyX7 tyX7_ok nmX7 hown hw hW1 rfl 6 (by decide) (hts (.fieldLink RX7 91 "LayoutDeskModel" "reach" "I") (by decide +kernel)) (fun _ h9 => h9) rfl (by decide +kernel) rfl rfl (Nat.le_of_ble_eq_true rfl) rfl dX7_lay_250 (fun H locs hw => ?_)
                    refine lv_aload_n hx hb dX7_lay_253 rfl (lv_at hl 5 rfl) ?_
                    refine lv_aload_n hx hb dX7_lay_254 rfl (lv_at hl 5 rfl) ?_
                    refine w_get (ci := 7) (C := RX7) (T := TX7) (N := 8) (ref := "LayoutDeskModel") hx hb hts in_X7_lay_7 hown hw (wu_s _ _ _) rfl 7 (by decide) (hts (.fieldLink RX7 94 "LayoutDeskModel" "align" "I") (by decide +kernel)) (fun _ h9 => h9) rfl dX7_lay_255 ?_
                    refine lv_iconst (v := 4) hx hb dX7_lay_258 (by decide) ?_
                    refine va_mmax hx hb (hml.trans hl.1.symm) hown (hts (.methodLink RX7 115 Lib.Math.max.name) (by decide +kernel)) (hts (.static Lib.Math.max.name) (by decide +kernel)) (hts (.initialized "java/lang/Math") (by decide +kernel)) (hts _ (List.mem_of_getElem? (i := 16) rfl)) (Nat.le_of_ble_eq_true rfl) (Nat.le_of_ble_eq_true rfl) (Nat.le_of_ble_eq_true rfl) (Nat.le_of_ble_eq_true rfl) dX7_lay_259 ?_
                    refine lv_topi (fun x9 ex9 => ?_)
                    have ex9 : x9 = nI (max L.2.1 4) := ex9.trans (mx_nI (b := 4) (by omega) (by decide))
                    subst ex9
                    refine w_put (ci := 7) (C := RX7) (T := TX7) (N := 8) (ref := "LayoutDeskModel") (ty := .int) (fs' := [.ref tl, .ref P.1, .ref P.2.1, .ref P.2.2.1, .ref P.2.2.2, .int (nI L.2.2.2.length), .int (nI (max L.1 (rup L.1 4 + 4))), .int (nI (max L.2.1 4))]) hx hb hts in_X7_lay_7 tyX7 tyX7_ok nmX7 hown hw (wu_s _ _ _) rfl 7 (by decide) (hts (.fieldLink RX7 94 "LayoutDeskModel" "align" "I") (by decide +kernel)) (fun _ h9 => h9) rfl (by decide +kernel) rfl rfl (Nat.le_of_ble_eq_true rfl) rfl dX7_lay_262 (fun H locs hw => ?_)
                    obtain ⟨z265, ez265⟩ : ∃ y : Int32, y = (nI i) + 1 := ⟨_, rfl⟩
                    refine lv_iinc (v := z265) (lv' := [(4, .int z265), (3, .int (nI (0 + d.2.1))), (2, .int (nI (rup L.1 4))), (6, .int (nI t)), (5, .ref y), (0, .ref mo), (1, .ref a)]) hx hb dX7_lay_265 hl (k := 4) rfl (by rw [ez265]; rfl) (by decide) rfl (fun ls hl => ?_)
                    refine lv_goto (tgt := 22) hx hb dX7_lay_268 (by decide) ?_
                    have ez : z265 = nI (i + 1) := ez265.trans (nI_1 i)
                    subst ez
                    have hLW3 := LW_mo (W := (wu (wu hh mo (.inr (7, [.ref tl, .ref P.1, .ref P.2.1, .ref P.2.2.1, .ref P.2.2.2, .int (nI L.2.2.2.length), .int (nI (max L.1 (rup L.1 4 + 4))), .int (nI L.2.1)]))) mo (.inr (7, [.ref tl, .ref P.1, .ref P.2.1, .ref P.2.2.1, .ref P.2.2.2, .int (nI L.2.2.2.length), .int (nI (max L.1 (rup L.1 4 + 4))), .int (nI (max L.2.1 4))])))) (some (rup L.1 4, 0 + d.2.1)) hLW (wu_s _ _ _) (fun q hq => by rw [wu_n hq, wu_n hq]) (w_z hw)
                    exact ih (i + 1) (by omega) _ _ _ ls (nI (rup L.1 4)) (nI (0 + d.2.1)) (by rw [eT, lyS_bits hd1 hd0 hU, hmb]; exact hLW3) (by rw [eT, lyS_bits hd1 hd0 hU]; exact Or.inr ⟨rup L.1 4, 0 + d.2.1, rfl, rfl, rfl⟩) hw (lv_sub hl [0, 5, 6, 2, 1] rfl)
                  · have hmb : d.2.2.1 = true := by
                      cases hq9 : d.2.2.1 with
                      | true => rfl
                      | false => rw [hq9] at c215; exact absurd rfl c215
                    rw [hmb] at hB5
                    have hn100 : L.2.2.2.length < 100 := by have := hB5.2.1; simp at this; omega
                    refine lv_aload_n hx hb dX7_lay_218 rfl (lv_at hl 5 rfl) ?_
                    refine lv_iload_n hx hb dX7_lay_219 rfl (lv_at hl 1 rfl) ?_
                    refine lv_iload hx hb dX7_lay_220 (lv_at hl 2 rfl) ?_
                    refine lv_iload_n hx hb dX7_lay_222 rfl (lv_at hl 0 rfl) ?_
                    refine lv_aload hx hb dX7_lay_223 (lv_at hl 3 rfl) ?_
                    refine w_get (ci := 5) (C := RX5) (T := TX5) (N := 3) (ref := "LayoutDeskModel$Added") hx hb hts in_X7_lay_5 hown hw hy2 rfl 1 (by decide) (hts (.fieldLink RX7 103 "LayoutDeskModel$Added" "width" "I") (by decide +kernel)) (fun _ h9 => h9) rfl dX7_lay_225 ?_
                    refine w_call (va_runV (As := [.int (nI (rup L.1 4)), .int (nI t), .int 0, .int (nI d.2.1)]) (rest := []) ⟨hx, hb, hml, hown, hts⟩ (c_put l g hh mo tl P.1 P.2.1 P.2.2.1 P.2.2.2 L.2.2.2.length (nI L.1) (nI L.2.1) (nI (rup L.1 4)) (nI t) 0 (nI d.2.1) f0 f1 f2 f3 hW1 g0 g1 g2 g3 hd.1 hd.2.1 hd.2.2.1 hd.2.2.2.1 hd.2.2.2.2.1 hd.2.2.2.2.2 hn100 H.size) (cwV 4 hts gX7_lay_X7_put rfl rfl rfl (by decide +kernel) ⟨Nat.le_of_ble_eq_true rfl, Nat.le_of_ble_eq_true rfl⟩) ⟨pr_blind, w_recv hw hW1 rfl, pr_of hw⟩ rfl rfl hl.1 rfl (lv_room (Nat.le_of_ble_eq_true rfl)) dX7_lay_228 ⟨Nat.le_of_ble_eq_true rfl, Nat.le_of_ble_eq_true rfl⟩) hw (fun v k' H locs hp hw => ?_)
                    obtain ⟨rfl, w1, w2, w3, w4, w5, w6⟩ := hp
                    refine W.eq (g2 := F0 m 231 ls []) rfl ?_
                    have hy7 := (w6 y (ne_e hy2 hW1 (ne_c (by decide))) (scr_obj hs8 hy2).1 (scr_obj hs8 hy2).2.1 (scr_obj hs8 hy2).2.2.1 (scr_obj hs8 hy2).2.2.2).trans hy2
                    have hLW2 := LW_put none (rup L.1 4, t, 0, d.2.1) hLW hcon w1 w2 w3 w4 w5 w6 (w_z hw) rfl rfl rfl rfl
                    refine lv_iload_n hx hb dX7_lay_231 rfl (lv_at hl 0 rfl) ?_
                    refine lv_aload hx hb dX7_lay_232 (lv_at hl 3 rfl) ?_
                    refine w_get (ci := 5) (C := RX5) (T := TX5) (N := 3) (ref := "LayoutDeskModel$Added") hx hb hts in_X7_lay_5 hown hw hy7 rfl 1 (by decide) (hts (.fieldLink RX7 103 "LayoutDeskModel$Added" "width" "I") (by decide +kernel)) (fun _ h9 => h9) rfl dX7_lay_234 ?_
                    refine lv_iadd hx hb dX7_lay_237 ?_
                    refine lv_topi (fun x3_ ex3_ => ?_)
                    have ex3_ : x3_ = nI (0 + d.2.1) := ex3_.trans (nI_add 0 d.2.1)
                    subst ex3_
                    refine lv_istore_n (lv' := [(3, .int (nI (0 + d.2.1))), (2, .int (nI (rup L.1 4))), (6, .int (nI t)), (5, .ref y), (4, .int (nI i)), (0, .ref mo), (1, .ref a)]) hx hb dX7_lay_238 rfl hl (by decide) rfl (fun ls hl => ?_)
                    refine lv_aload_n hx hb dX7_lay_239 rfl (lv_at hl 5 rfl) ?_
                    refine lv_aload_n hx hb dX7_lay_240 rfl (lv_at hl 5 rfl) ?_
                    refine w_get (ci := 7) (C := RX7) (T := TX7) (N := 8) (ref := "LayoutDeskModel") hx hb hts in_X7_lay_7 hown hw w1 rfl 6 (by decide) (hts (.fieldLink RX7 91 "LayoutDeskModel" "reach" "I") (by decide +kernel)) (fun _ h9 => h9) rfl dX7_lay_241 ?_
                    refine lv_iload_n hx hb dX7_lay_244 rfl (lv_at hl 1 rfl) ?_
                    refine lv_iconst (v := 4) hx hb dX7_lay_245 (by decide) ?_
                    refine lv_iadd hx hb dX7_lay_246 ?_
                    refine va_mmax hx hb (hml.trans hl.1.symm) hown (hts (.methodLink RX7 115 Lib.Math.max.name) (by decide +kernel)) (hts (.static Lib.Math.max.name) (by decide +kernel)) (hts (.initialized "java/lang/Math") (by decide +kernel)) (hts _ (List.mem_of_getElem? (i := 16) rfl)) (Nat.le_of_ble_eq_true rfl) (Nat.le_of_ble_eq_true rfl) (Nat.le_of_ble_eq_true rfl) (Nat.le_of_ble_eq_true rfl) dX7_lay_247 ?_
                    refine lv_topi (fun x8 ex8 => ?_)
                    have ex8 : x8 = nI (max L.1 (rup L.1 4 + 4)) := ex8.trans (by rw [show (nI (rup L.1 4) : Int32) + 4 = nI (rup L.1 4 + 4) from nI_add (rup L.1 4) 4]; exact mx_nI (by omega) (by omega))
                    subst ex8
                    refine w_put (ci := 7) (C := RX7) (T := TX7) (N := 8) (ref := "LayoutDeskModel") (ty := .int) (fs' := [.ref tl, .ref P.1, .ref P.2.1, .ref P.2.2.1, .ref P.2.2.2, .int (nI (L.2.2.2.length + 1)), .int (nI (max L.1 (rup L.1 4 + 4))), .int (nI L.2.1)]) hx hb hts in_X7_lay_7 tyX7 tyX7_ok nmX7 hown hw w1 rfl 6 (by decide) (hts (.fieldLink RX7 91 "LayoutDeskModel" "reach" "I") (by decide +kernel)) (fun _ h9 => h9) rfl (by decide +kernel) rfl rfl (Nat.le_of_ble_eq_true rfl) rfl dX7_lay_250 (fun H locs hw => ?_)
                    refine lv_aload_n hx hb dX7_lay_253 rfl (lv_at hl 5 rfl) ?_
                    refine lv_aload_n hx hb dX7_lay_254 rfl (lv_at hl 5 rfl) ?_
                    refine w_get (ci := 7) (C := RX7) (T := TX7) (N := 8) (ref := "LayoutDeskModel") hx hb hts in_X7_lay_7 hown hw (wu_s _ _ _) rfl 7 (by decide) (hts (.fieldLink RX7 94 "LayoutDeskModel" "align" "I") (by decide +kernel)) (fun _ h9 => h9) rfl dX7_lay_255 ?_
                    refine lv_iconst (v := 4) hx hb dX7_lay_258 (by decide) ?_
                    refine va_mmax hx hb (hml.trans hl.1.symm) hown (hts (.methodLink RX7 115 Lib.Math.max.name) (by decide +kernel)) (hts (.static Lib.Math.max.name) (by decide +kernel)) (hts (.initialized "java/lang/Math") (by decide +kernel)) (hts _ (List.mem_of_getElem? (i := 16) rfl)) (Nat.le_of_ble_eq_true rfl) (Nat.le_of_ble_eq_true rfl) (Nat.le_of_ble_eq_true rfl) (Nat.le_of_ble_eq_true rfl) dX7_lay_259 ?_
                    refine lv_topi (fun x9 ex9 => ?_)
                    have ex9 : x9 = nI (max L.2.1 4) := ex9.trans (mx_nI (b := 4) (by omega) (by decide))
                    subst ex9
                    refine w_put (ci := 7) (C := RX7) (T := TX7) (N := 8) (ref := "LayoutDeskModel") (ty := .int) (fs' := [.ref tl, .ref P.1, .ref P.2.1, .ref P.2.2.1, .ref P.2.2.2, .int (nI (L.2.2.2.length + 1)), .int (nI (max L.1 (rup L.1 4 + 4))), .int (nI (max L.2.1 4))]) hx hb hts in_X7_lay_7 tyX7 tyX7_ok nmX7 hown hw (wu_s _ _ _) rfl 7 (by decide) (hts (.fieldLink RX7 94 "LayoutDeskModel" "align" "I") (by decide +kernel)) (fun _ h9 => h9) rfl (by decide +kernel) rfl rfl (Nat.le_of_ble_eq_true rfl) rfl dX7_lay_262 (fun H locs hw => ?_)
                    obtain ⟨z265, ez265⟩ : ∃ y : Int32, y = (nI i) + 1 := ⟨_, rfl⟩
                    refine lv_iinc (v := z265) (lv' := [(4, .int z265), (3, .int (nI (0 + d.2.1))), (2, .int (nI (rup L.1 4))), (6, .int (nI t)), (5, .ref y), (0, .ref mo), (1, .ref a)]) hx hb dX7_lay_265 hl (k := 4) rfl (by rw [ez265]; rfl) (by decide) rfl (fun ls hl => ?_)
                    refine lv_goto (tgt := 22) hx hb dX7_lay_268 (by decide) ?_
                    have ez : z265 = nI (i + 1) := ez265.trans (nI_1 i)
                    subst ez
                    have hLW3 := LW_mo (W := (wu (wu k' mo (.inr (7, [.ref tl, .ref P.1, .ref P.2.1, .ref P.2.2.1, .ref P.2.2.2, .int (nI (L.2.2.2.length + 1)), .int (nI (max L.1 (rup L.1 4 + 4))), .int (nI L.2.1)]))) mo (.inr (7, [.ref tl, .ref P.1, .ref P.2.1, .ref P.2.2.1, .ref P.2.2.2, .int (nI (L.2.2.2.length + 1)), .int (nI (max L.1 (rup L.1 4 + 4))), .int (nI (max L.2.1 4))])))) (some (rup L.1 4, 0 + d.2.1)) hLW2 (by rw [wu_s]; show _ = some (oMo _ _ _ _ _ (nI (L.2.2.2 ++ [(rup L.1 4, t, 0, d.2.1)]).length) _ _); rw [List.length_append]; rfl) (fun q hq => by rw [wu_n hq, wu_n hq]) (w_z hw)
                    exact ih (i + 1) (by omega) _ _ _ ls (nI (rup L.1 4)) (nI (0 + d.2.1)) (by rw [eT, lyS_bits hd1 hd0 hU, hmb]; exact hLW3) (by rw [eT, lyS_bits hd1 hd0 hU]; exact Or.inr ⟨rup L.1 4, 0 + d.2.1, rfl, rfl, rfl⟩) hw (lv_sub hl [0, 5, 6, 2, 1] rfl)
                · exact absurd c192 c168
              · obtain ⟨p9, k9, hu, hun, hus⟩ : ∃ p k, L.2.2.1 = some (p, k) ∧ un = nI p ∧ us = nI k := by
                  rcases huM with ⟨-, z⟩ | z
                  · exact absurd (by rw [z]; decide) c172
                  · exact z
                have hpk := hB4 p9 k9 hu
                subst hun
                subst hus
                refine lv_iload_n hx hb dX7_lay_175 rfl (lv_at hl 6 rfl) ?_
                refine lv_aload hx hb dX7_lay_176 (lv_at hl 1 rfl) ?_
                refine w_get (ci := 5) (C := RX5) (T := TX5) (N := 3) (ref := "LayoutDeskModel$Added") hx hb hts in_X7_lay_5 hown hw hy2 rfl 1 (by decide) (hts (.fieldLink RX7 103 "LayoutDeskModel$Added" "width" "I") (by decide +kernel)) (fun _ h9 => h9) rfl dX7_lay_178 ?_
                refine lv_iadd hx hb dX7_lay_181 ?_
                refine lv_bipush (v := 32) hx hb dX7_lay_182 (by decide) ?_
                refine lv_icmp_le (tgt := 210) hx hb dX7_lay_184 (by decide) (fun c184 => ?_) (fun c184 => ?_)
                · have hle9 : k9 + d.2.1 ≤ 32 := (nI_leI (b := 32) (by omega) (by decide)).mp (by rw [← nI_add]; exact c184)
                  have hU : lyU (K == 4) L.1 L.2.2.1 d.2.1 = (p9, k9) := lyU_fit hU0 hu hle9
                  have hrl4 := rup_le L.1 4
                  rw [lyS_bits hd1 hd0 hU] at hB5
                  refine lv_aload hx hb dX7_lay_210 (lv_at hl 1 rfl) ?_
                  refine w_get (ci := 5) (C := RX5) (T := TX5) (N := 3) (ref := "LayoutDeskModel$Added") hx hb hts in_X7_lay_5 hown hw hy2 rfl 2 (by decide) (hts (.fieldLink RX7 120 "LayoutDeskModel$Added" "member" "Z") (by decide +kernel)) (fun _ h9 => h9) rfl dX7_lay_212 ?_
                  refine lv_if_eq (tgt := 231) hx hb dX7_lay_215 (by decide) (fun c215 => ?_) (fun c215 => ?_)
                  · have hmb : d.2.2.1 = false := by
                      cases hq9 : d.2.2.1 with
                      | false => rfl
                      | true => rw [hq9] at c215; exact absurd c215 (by decide)
                    refine lv_iload_n hx hb dX7_lay_231 rfl (lv_at hl 6 rfl) ?_
                    refine lv_aload hx hb dX7_lay_232 (lv_at hl 1 rfl) ?_
                    refine w_get (ci := 5) (C := RX5) (T := TX5) (N := 3) (ref := "LayoutDeskModel$Added") hx hb hts in_X7_lay_5 hown hw hy2 rfl 1 (by decide) (hts (.fieldLink RX7 103 "LayoutDeskModel$Added" "width" "I") (by decide +kernel)) (fun _ h9 => h9) rfl dX7_lay_234 ?_
                    refine lv_iadd hx hb dX7_lay_237 ?_
                    refine lv_topi (fun x3_ ex3_ => ?_)
                    have ex3_ : x3_ = nI (k9 + d.2.1) := ex3_.trans (nI_add k9 d.2.1)
                    subst ex3_
                    refine lv_istore_n (lv' := [(3, .int (nI (k9 + d.2.1))), (6, .int (nI t)), (5, .ref y), (4, .int (nI i)), (0, .ref mo), (1, .ref a), (2, .int (nI p9))]) hx hb dX7_lay_238 rfl hl (by decide) rfl (fun ls hl => ?_)
                    refine lv_aload_n hx hb dX7_lay_239 rfl (lv_at hl 4 rfl) ?_
                    refine lv_aload_n hx hb dX7_lay_240 rfl (lv_at hl 4 rfl) ?_
                    refine w_get (ci := 7) (C := RX7) (T := TX7) (N := 8) (ref := "LayoutDeskModel") hx hb hts in_X7_lay_7 hown hw hW1 rfl 6 (by decide) (hts (.fieldLink RX7 91 "LayoutDeskModel" "reach" "I") (by decide +kernel)) (fun _ h9 => h9) rfl dX7_lay_241 ?_
                    refine lv_iload_n hx hb dX7_lay_244 rfl (lv_at hl 6 rfl) ?_
                    refine lv_iconst (v := 4) hx hb dX7_lay_245 (by decide) ?_
                    refine lv_iadd hx hb dX7_lay_246 ?_
                    refine va_mmax hx hb (hml.trans hl.1.symm) hown (hts (.methodLink RX7 115 Lib.Math.max.name) (by decide +kernel)) (hts (.static Lib.Math.max.name) (by decide +kernel)) (hts (.initialized "java/lang/Math") (by decide +kernel)) (hts _ (List.mem_of_getElem? (i := 16) rfl)) (Nat.le_of_ble_eq_true rfl) (Nat.le_of_ble_eq_true rfl) (Nat.le_of_ble_eq_true rfl) (Nat.le_of_ble_eq_true rfl) dX7_lay_247 ?_
                    refine lv_topi (fun x8 ex8 => ?_)
                    have ex8 : x8 = nI (max L.1 (p9 + 4)) := ex8.trans (by rw [show (nI p9 : Int32) + 4 = nI (p9 + 4) from nI_add (p9) 4]; exact mx_nI (by omega) (by omega))
                    subst ex8
                    refine w_put (ci := 7) (C := RX7) (T := TX7) (N := 8) (ref := "LayoutDeskModel") (ty := .int) (fs' := [.ref tl, .ref P.1, .ref P.2.1, .ref P.2.2.1, .ref P.2.2.2, .int (nI L.2.2.2.length), .int (nI (max L.1 (p9 + 4))), .int (nI L.2.1)]) hx hb hts in_X7_lay_7 tyX7 tyX7_ok nmX7 hown hw hW1 rfl 6 (by decide) (hts (.fieldLink RX7 91 "LayoutDeskModel" "reach" "I") (by decide +kernel)) (fun _ h9 => h9) rfl (by decide +kernel) rfl rfl (Nat.le_of_ble_eq_true rfl) rfl dX7_lay_250 (fun H locs hw => ?_)
                    refine lv_aload_n hx hb dX7_lay_253 rfl (lv_at hl 4 rfl) ?_
                    refine lv_aload_n hx hb dX7_lay_254 rfl (lv_at hl 4 rfl) ?_
                    refine w_get (ci := 7) (C := RX7) (T := TX7) (N := 8) (ref := "LayoutDeskModel") hx hb hts in_X7_lay_7 hown hw (wu_s _ _ _) rfl 7 (by decide) (hts (.fieldLink RX7 94 "LayoutDeskModel" "align" "I") (by decide +kernel)) (fun _ h9 => h9) rfl dX7_lay_255 ?_
                    refine lv_iconst (v := 4) hx hb dX7_lay_258 (by decide) ?_
                    refine va_mmax hx hb (hml.trans hl.1.symm) hown (hts (.methodLink RX7 115 Lib.Math.max.name) (by decide +kernel)) (hts (.static Lib.Math.max.name) (by decide +kernel)) (hts (.initialized "java/lang/Math") (by decide +kernel)) (hts _ (List.mem_of_getElem? (i := 16) rfl)) (Nat.le_of_ble_eq_true rfl) (Nat.le_of_ble_eq_true rfl) (Nat.le_of_ble_eq_true rfl) (Nat.le_of_ble_eq_true rfl) dX7_lay_259 ?_
                    refine lv_topi (fun x9 ex9 => ?_)
                    have ex9 : x9 = nI (max L.2.1 4) := ex9.trans (mx_nI (b := 4) (by omega) (by decide))
                    subst ex9
                    refine w_put (ci := 7) (C := RX7) (T := TX7) (N := 8) (ref := "LayoutDeskModel") (ty := .int) (fs' := [.ref tl, .ref P.1, .ref P.2.1, .ref P.2.2.1, .ref P.2.2.2, .int (nI L.2.2.2.length), .int (nI (max L.1 (p9 + 4))), .int (nI (max L.2.1 4))]) hx hb hts in_X7_lay_7 tyX7 tyX7_ok nmX7 hown hw (wu_s _ _ _) rfl 7 (by decide) (hts (.fieldLink RX7 94 "LayoutDeskModel" "align" "I") (by decide +kernel)) (fun _ h9 => h9) rfl (by decide +kernel) rfl rfl (Nat.le_of_ble_eq_true rfl) rfl dX7_lay_262 (fun H locs hw => ?_)
                    obtain ⟨z265, ez265⟩ : ∃ y : Int32, y = (nI i) + 1 := ⟨_, rfl⟩
                    refine lv_iinc (v := z265) (lv' := [(4, .int z265), (3, .int (nI (k9 + d.2.1))), (6, .int (nI t)), (5, .ref y), (0, .ref mo), (1, .ref a), (2, .int (nI p9))]) hx hb dX7_lay_265 hl (k := 3) rfl (by rw [ez265]; rfl) (by decide) rfl (fun ls hl => ?_)
                    refine lv_goto (tgt := 22) hx hb dX7_lay_268 (by decide) ?_
                    have ez : z265 = nI (i + 1) := ez265.trans (nI_1 i)
                    subst ez
                    have hLW3 := LW_mo (W := (wu (wu hh mo (.inr (7, [.ref tl, .ref P.1, .ref P.2.1, .ref P.2.2.1, .ref P.2.2.2, .int (nI L.2.2.2.length), .int (nI (max L.1 (p9 + 4))), .int (nI L.2.1)]))) mo (.inr (7, [.ref tl, .ref P.1, .ref P.2.1, .ref P.2.2.1, .ref P.2.2.2, .int (nI L.2.2.2.length), .int (nI (max L.1 (p9 + 4))), .int (nI (max L.2.1 4))])))) (some (p9, k9 + d.2.1)) hLW (wu_s _ _ _) (fun q hq => by rw [wu_n hq, wu_n hq]) (w_z hw)
                    exact ih (i + 1) (by omega) _ _ _ ls (nI p9) (nI (k9 + d.2.1)) (by rw [eT, lyS_bits hd1 hd0 hU, hmb]; exact hLW3) (by rw [eT, lyS_bits hd1 hd0 hU]; exact Or.inr ⟨p9, k9 + d.2.1, rfl, rfl, rfl⟩) hw (lv_sub hl [0, 4, 5, 6, 1] rfl)
                  · have hmb : d.2.2.1 = true := by
                      cases hq9 : d.2.2.1 with
                      | true => rfl
                      | false => rw [hq9] at c215; exact absurd rfl c215
                    rw [hmb] at hB5
                    have hn100 : L.2.2.2.length < 100 := by have := hB5.2.1; simp at this; omega
                    refine lv_aload_n hx hb dX7_lay_218 rfl (lv_at hl 3 rfl) ?_
                    refine lv_iload_n hx hb dX7_lay_219 rfl (lv_at hl 5 rfl) ?_
                    refine lv_iload hx hb dX7_lay_220 (lv_at hl 0 rfl) ?_
                    refine lv_iload_n hx hb dX7_lay_222 rfl (lv_at hl 6 rfl) ?_
                    refine lv_aload hx hb dX7_lay_223 (lv_at hl 1 rfl) ?_
                    refine w_get (ci := 5) (C := RX5) (T := TX5) (N := 3) (ref := "LayoutDeskModel$Added") hx hb hts in_X7_lay_5 hown hw hy2 rfl 1 (by decide) (hts (.fieldLink RX7 103 "LayoutDeskModel$Added" "width" "I") (by decide +kernel)) (fun _ h9 => h9) rfl dX7_lay_225 ?_
                    refine w_call (va_runV (As := [.int (nI p9), .int (nI t), .int (nI k9), .int (nI d.2.1)]) (rest := []) ⟨hx, hb, hml, hown, hts⟩ (c_put l g hh mo tl P.1 P.2.1 P.2.2.1 P.2.2.2 L.2.2.2.length (nI L.1) (nI L.2.1) (nI p9) (nI t) (nI k9) (nI d.2.1) f0 f1 f2 f3 hW1 g0 g1 g2 g3 hd.1 hd.2.1 hd.2.2.1 hd.2.2.2.1 hd.2.2.2.2.1 hd.2.2.2.2.2 hn100 H.size) (cwV 4 hts gX7_lay_X7_put rfl rfl rfl (by decide +kernel) ⟨Nat.le_of_ble_eq_true rfl, Nat.le_of_ble_eq_true rfl⟩) ⟨pr_blind, w_recv hw hW1 rfl, pr_of hw⟩ rfl rfl hl.1 rfl (lv_room (Nat.le_of_ble_eq_true rfl)) dX7_lay_228 ⟨Nat.le_of_ble_eq_true rfl, Nat.le_of_ble_eq_true rfl⟩) hw (fun v k' H locs hp hw => ?_)
                    obtain ⟨rfl, w1, w2, w3, w4, w5, w6⟩ := hp
                    refine W.eq (g2 := F0 m 231 ls []) rfl ?_
                    have hy7 := (w6 y (ne_e hy2 hW1 (ne_c (by decide))) (scr_obj hs8 hy2).1 (scr_obj hs8 hy2).2.1 (scr_obj hs8 hy2).2.2.1 (scr_obj hs8 hy2).2.2.2).trans hy2
                    have hLW2 := LW_put none (p9, t, k9, d.2.1) hLW hcon w1 w2 w3 w4 w5 w6 (w_z hw) rfl rfl rfl rfl
                    refine lv_iload_n hx hb dX7_lay_231 rfl (lv_at hl 6 rfl) ?_
                    refine lv_aload hx hb dX7_lay_232 (lv_at hl 1 rfl) ?_
                    refine w_get (ci := 5) (C := RX5) (T := TX5) (N := 3) (ref := "LayoutDeskModel$Added") hx hb hts in_X7_lay_5 hown hw hy7 rfl 1 (by decide) (hts (.fieldLink RX7 103 "LayoutDeskModel$Added" "width" "I") (by decide +kernel)) (fun _ h9 => h9) rfl dX7_lay_234 ?_
                    refine lv_iadd hx hb dX7_lay_237 ?_
                    refine lv_topi (fun x3_ ex3_ => ?_)
                    have ex3_ : x3_ = nI (k9 + d.2.1) := ex3_.trans (nI_add k9 d.2.1)
                    subst ex3_
                    refine lv_istore_n (lv' := [(3, .int (nI (k9 + d.2.1))), (6, .int (nI t)), (5, .ref y), (4, .int (nI i)), (0, .ref mo), (1, .ref a), (2, .int (nI p9))]) hx hb dX7_lay_238 rfl hl (by decide) rfl (fun ls hl => ?_)
                    refine lv_aload_n hx hb dX7_lay_239 rfl (lv_at hl 4 rfl) ?_
                    refine lv_aload_n hx hb dX7_lay_240 rfl (lv_at hl 4 rfl) ?_
                    refine w_get (ci := 7) (C := RX7) (T := TX7) (N := 8) (ref := "LayoutDeskModel") hx hb hts in_X7_lay_7 hown hw w1 rfl 6 (by decide) (hts (.fieldLink RX7 91 "LayoutDeskModel" "reach" "I") (by decide +kernel)) (fun _ h9 => h9) rfl dX7_lay_241 ?_
                    refine lv_iload_n hx hb dX7_lay_244 rfl (lv_at hl 6 rfl) ?_
                    refine lv_iconst (v := 4) hx hb dX7_lay_245 (by decide) ?_
                    refine lv_iadd hx hb dX7_lay_246 ?_
                    refine va_mmax hx hb (hml.trans hl.1.symm) hown (hts (.methodLink RX7 115 Lib.Math.max.name) (by decide +kernel)) (hts (.static Lib.Math.max.name) (by decide +kernel)) (hts (.initialized "java/lang/Math") (by decide +kernel)) (hts _ (List.mem_of_getElem? (i := 16) rfl)) (Nat.le_of_ble_eq_true rfl) (Nat.le_of_ble_eq_true rfl) (Nat.le_of_ble_eq_true rfl) (Nat.le_of_ble_eq_true rfl) dX7_lay_247 ?_
                    refine lv_topi (fun x8 ex8 => ?_)
                    have ex8 : x8 = nI (max L.1 (p9 + 4)) := ex8.trans (by rw [show (nI p9 : Int32) + 4 = nI (p9 + 4) from nI_add (p9) 4]; exact mx_nI (by omega) (by omega))
                    subst ex8
                    refine w_put (ci := 7) (C := RX7) (T := TX7) (N := 8) (ref := "LayoutDeskModel") (ty := .int) (fs' := [.ref tl, .ref P.1, .ref P.2.1, .ref P.2.2.1, .ref P.2.2.2, .int (nI (L.2.2.2.length + 1)), .int (nI (max L.1 (p9 + 4))), .int (nI L.2.1)]) hx hb hts in_X7_lay_7 tyX7 tyX7_ok nmX7 hown hw w1 rfl 6 (by decide) (hts (.fieldLink RX7 91 "LayoutDeskModel" "reach" "I") (by decide +kernel)) (fun _ h9 => h9) rfl (by decide +kernel) rfl rfl (Nat.le_of_ble_eq_true rfl) rfl dX7_lay_250 (fun H locs hw => ?_)
                    refine lv_aload_n hx hb dX7_lay_253 rfl (lv_at hl 4 rfl) ?_
                    refine lv_aload_n hx hb dX7_lay_254 rfl (lv_at hl 4 rfl) ?_
                    refine w_get (ci := 7) (C := RX7) (T := TX7) (N := 8) (ref := "LayoutDeskModel") hx hb hts in_X7_lay_7 hown hw (wu_s _ _ _) rfl 7 (by decide) (hts (.fieldLink RX7 94 "LayoutDeskModel" "align" "I") (by decide +kernel)) (fun _ h9 => h9) rfl dX7_lay_255 ?_
                    refine lv_iconst (v := 4) hx hb dX7_lay_258 (by decide) ?_
                    refine va_mmax hx hb (hml.trans hl.1.symm) hown (hts (.methodLink RX7 115 Lib.Math.max.name) (by decide +kernel)) (hts (.static Lib.Math.max.name) (by decide +kernel)) (hts (.initialized "java/lang/Math") (by decide +kernel)) (hts _ (List.mem_of_getElem? (i := 16) rfl)) (Nat.le_of_ble_eq_true rfl) (Nat.le_of_ble_eq_true rfl) (Nat.le_of_ble_eq_true rfl) (Nat.le_of_ble_eq_true rfl) dX7_lay_259 ?_
                    refine lv_topi (fun x9 ex9 => ?_)
                    have ex9 : x9 = nI (max L.2.1 4) := ex9.trans (mx_nI (b := 4) (by omega) (by decide))
                    subst ex9
                    refine w_put (ci := 7) (C := RX7) (T := TX7) (N := 8) (ref := "LayoutDeskModel") (ty := .int) (fs' := [.ref tl, .ref P.1, .ref P.2.1, .ref P.2.2.1, .ref P.2.2.2, .int (nI (L.2.2.2.length + 1)), .int (nI (max L.1 (p9 + 4))), .int (nI (max L.2.1 4))]) hx hb hts in_X7_lay_7 tyX7 tyX7_ok nmX7 hown hw (wu_s _ _ _) rfl 7 (by decide) (hts (.fieldLink RX7 94 "LayoutDeskModel" "align" "I") (by decide +kernel)) (fun _ h9 => h9) rfl (by decide +kernel) rfl rfl (Nat.le_of_ble_eq_true rfl) rfl dX7_lay_262 (fun H locs hw => ?_)
                    obtain ⟨z265, ez265⟩ : ∃ y : Int32, y = (nI i) + 1 := ⟨_, rfl⟩
                    refine lv_iinc (v := z265) (lv' := [(4, .int z265), (3, .int (nI (k9 + d.2.1))), (6, .int (nI t)), (5, .ref y), (0, .ref mo), (1, .ref a), (2, .int (nI p9))]) hx hb dX7_lay_265 hl (k := 3) rfl (by rw [ez265]; rfl) (by decide) rfl (fun ls hl => ?_)
                    refine lv_goto (tgt := 22) hx hb dX7_lay_268 (by decide) ?_
                    have ez : z265 = nI (i + 1) := ez265.trans (nI_1 i)
                    subst ez
                    have hLW3 := LW_mo (W := (wu (wu k' mo (.inr (7, [.ref tl, .ref P.1, .ref P.2.1, .ref P.2.2.1, .ref P.2.2.2, .int (nI (L.2.2.2.length + 1)), .int (nI (max L.1 (p9 + 4))), .int (nI L.2.1)]))) mo (.inr (7, [.ref tl, .ref P.1, .ref P.2.1, .ref P.2.2.1, .ref P.2.2.2, .int (nI (L.2.2.2.length + 1)), .int (nI (max L.1 (p9 + 4))), .int (nI (max L.2.1 4))])))) (some (p9, k9 + d.2.1)) hLW2 (by rw [wu_s]; show _ = some (oMo _ _ _ _ _ (nI (L.2.2.2 ++ [(p9, t, k9, d.2.1)]).length) _ _); rw [List.length_append]; rfl) (fun q hq => by rw [wu_n hq, wu_n hq]) (w_z hw)
                    exact ih (i + 1) (by omega) _ _ _ ls (nI p9) (nI (k9 + d.2.1)) (by rw [eT, lyS_bits hd1 hd0 hU, hmb]; exact hLW3) (by rw [eT, lyS_bits hd1 hd0 hU]; exact Or.inr ⟨p9, k9 + d.2.1, rfl, rfl, rfl⟩) hw (lv_sub hl [0, 4, 5, 6, 1] rfl)
                · have hgt9 : 32 < k9 + d.2.1 := Nat.lt_of_not_le (fun z => c184 (by rw [nI_add]; exact nI_le (b := 32) z (by decide)))
                  have hU : lyU (K == 4) L.1 L.2.2.1 d.2.1 = (rup L.1 4, 0) := lyU_new hU0 (Or.inr ⟨p9, k9, hu, hgt9⟩)
                  refine lv_aload_n hx hb dX7_lay_187 rfl (lv_at hl 4 rfl) ?_
                  refine w_get (ci := 6) (C := RX6) (T := TX6) (N := 7) (ref := "LayoutDeskModel$Type") hx hb hts in_X7_lay_6 hown hw ha' rfl 0 (by decide) (hts (.fieldLink RX7 58 "LayoutDeskModel$Type" "kind" "I") (by decide +kernel)) (fun _ h9 => h9) rfl dX7_lay_188 ?_
                  refine lv_iconst (v := 4) hx hb dX7_lay_191 (by decide) ?_
                  refine lv_icmp_ne (tgt := 199) hx hb dX7_lay_192 (by decide) (fun c192 => ?_) (fun c192 => ?_)
                  · refine lv_aload_n hx hb dX7_lay_199 rfl (lv_at hl 3 rfl) ?_
                    refine w_get (ci := 7) (C := RX7) (T := TX7) (N := 8) (ref := "LayoutDeskModel") hx hb hts in_X7_lay_7 hown hw hW1 rfl 6 (by decide) (hts (.fieldLink RX7 91 "LayoutDeskModel" "reach" "I") (by decide +kernel)) (fun _ h9 => h9) rfl dX7_lay_200 ?_
                    refine lv_iconst (v := 4) hx hb dX7_lay_203 (by decide) ?_
                    refine w_call (va_runS (As := [.int (nI L.1), .int 4]) (rest := []) ⟨hx, hb, hml, hown, hts⟩ (c_up l g hh L.1 4 (by omega) (by decide) H.size) (va_cwS 2 hts gX7_lay_X7_up rfl rfl rfl (by decide +kernel) ⟨Nat.le_of_ble_eq_true rfl, Nat.le_of_ble_eq_true rfl⟩) ⟨pr_blind, pr_of hw⟩ rfl rfl hl.1 rfl (lv_room (Nat.le_of_ble_eq_true rfl)) dX7_lay_204 ⟨Nat.le_of_ble_eq_true rfl, Nat.le_of_ble_eq_true rfl⟩) hw (fun v h' H locs hp hw => ?_)
                    obtain ⟨rfl, rfl⟩ := hp
                    refine W.eq (g2 := F0 m 207 ls [.int (nI (rup L.1 4))]) rfl ?_
                    refine lv_istore_n (lv' := [(2, .int (nI (rup L.1 4))), (6, .int (nI t)), (5, .ref y), (4, .int (nI i)), (0, .ref mo), (1, .ref a), (3, .int (nI k9))]) hx hb dX7_lay_207 rfl hl (by decide) rfl (fun ls hl => ?_)
                    refine lv_iconst (v := 0) hx hb dX7_lay_208 (by decide) ?_
                    refine lv_istore_n (lv' := [(3, .int 0), (2, .int (nI (rup L.1 4))), (6, .int (nI t)), (5, .ref y), (4, .int (nI i)), (0, .ref mo), (1, .ref a)]) hx hb dX7_lay_209 rfl hl (by decide) rfl (fun ls hl => ?_)
                    have hrl4 := rup_le L.1 4
                    rw [lyS_bits hd1 hd0 hU] at hB5
                    refine lv_aload hx hb dX7_lay_210 (lv_at hl 3 rfl) ?_
                    refine w_get (ci := 5) (C := RX5) (T := TX5) (N := 3) (ref := "LayoutDeskModel$Added") hx hb hts in_X7_lay_5 hown hw hy2 rfl 2 (by decide) (hts (.fieldLink RX7 120 "LayoutDeskModel$Added" "member" "Z") (by decide +kernel)) (fun _ h9 => h9) rfl dX7_lay_212 ?_
                    refine lv_if_eq (tgt := 231) hx hb dX7_lay_215 (by decide) (fun c215 => ?_) (fun c215 => ?_)
                    · have hmb : d.2.2.1 = false := by
                        cases hq9 : d.2.2.1 with
                        | false => rfl
                        | true => rw [hq9] at c215; exact absurd c215 (by decide)
                      refine lv_iload_n hx hb dX7_lay_231 rfl (lv_at hl 0 rfl) ?_
                      refine lv_aload hx hb dX7_lay_232 (lv_at hl 3 rfl) ?_
                      refine w_get (ci := 5) (C := RX5) (T := TX5) (N := 3) (ref := "LayoutDeskModel$Added") hx hb hts in_X7_lay_5 hown hw hy2 rfl 1 (by decide) (hts (.fieldLink RX7 103 "LayoutDeskModel$Added" "width" "I") (by decide +kernel)) (fun _ h9 => h9) rfl dX7_lay_234 ?_
                      refine lv_iadd hx hb dX7_lay_237 ?_
                      refine lv_topi (fun x3_ ex3_ => ?_)
                      have ex3_ : x3_ = nI (0 + d.2.1) := ex3_.trans (nI_add 0 d.2.1)
                      subst ex3_
                      refine lv_istore_n (lv' := [(3, .int (nI (0 + d.2.1))), (2, .int (nI (rup L.1 4))), (6, .int (nI t)), (5, .ref y), (4, .int (nI i)), (0, .ref mo), (1, .ref a)]) hx hb dX7_lay_238 rfl hl (by decide) rfl (fun ls hl => ?_)
                      refine lv_aload_n hx hb dX7_lay_239 rfl (lv_at hl 5 rfl) ?_
                      refine lv_aload_n hx hb dX7_lay_240 rfl (lv_at hl 5 rfl) ?_
                      refine w_get (ci := 7) (C := RX7) (T := TX7) (N := 8) (ref := "LayoutDeskModel") hx hb hts in_X7_lay_7 hown hw hW1 rfl 6 (by decide) (hts (.fieldLink RX7 91 "LayoutDeskModel" "reach" "I") (by decide +kernel)) (fun _ h9 => h9) rfl dX7_lay_241 ?_
                      refine lv_iload_n hx hb dX7_lay_244 rfl (lv_at hl 1 rfl) ?_
                      refine lv_iconst (v := 4) hx hb dX7_lay_245 (by decide) ?_
                      refine lv_iadd hx hb dX7_lay_246 ?_
                      refine va_mmax hx hb (hml.trans hl.1.symm) hown (hts (.methodLink RX7 115 Lib.Math.max.name) (by decide +kernel)) (hts (.static Lib.Math.max.name) (by decide +kernel)) (hts (.initialized "java/lang/Math") (by decide +kernel)) (hts _ (List.mem_of_getElem? (i := 16) rfl)) (Nat.le_of_ble_eq_true rfl) (Nat.le_of_ble_eq_true rfl) (Nat.le_of_ble_eq_true rfl) (Nat.le_of_ble_eq_true rfl) dX7_lay_247 ?_
                      refine lv_topi (fun x8 ex8 => ?_)
                      have ex8 : x8 = nI (max L.1 (rup L.1 4 + 4)) := ex8.trans (by rw [show (nI (rup L.1 4) : Int32) + 4 = nI (rup L.1 4 + 4) from nI_add (rup L.1 4) 4]; exact mx_nI (by omega) (by omega))
                      subst ex8
                      refine w_put (ci := 7) (C := RX7) (T := TX7) (N := 8) (ref := "LayoutDeskModel") (ty := .int) (fs' := [.ref tl, .ref P.1, .ref P.2.1, .ref P.2.2.1, .ref P.2.2.2, .int (nI L.2.2.2.length), .int (nI (max L.1 (rup L.1 4 + 4))), .int (nI L.2.1)]) hx hb hts in_X7_lay_7 tyX7 tyX7_ok nmX7 hown hw hW1 rfl 6 (by decide) (hts (.fieldLink RX7 91 "LayoutDeskModel" "reach" "I") (by decide +kernel)) (fun _ h9 => h9) rfl (by decide +kernel) rfl rfl (Nat.le_of_ble_eq_true rfl) rfl dX7_lay_250 (fun H locs hw => ?_)
                      refine lv_aload_n hx hb dX7_lay_253 rfl (lv_at hl 5 rfl) ?_
                      refine lv_aload_n hx hb dX7_lay_254 rfl (lv_at hl 5 rfl) ?_
                      refine w_get (ci := 7) (C := RX7) (T := TX7) (N := 8) (ref := "LayoutDeskModel") hx hb hts in_X7_lay_7 hown hw (wu_s _ _ _) rfl 7 (by decide) (hts (.fieldLink RX7 94 "LayoutDeskModel" "align" "I") (by decide +kernel)) (fun _ h9 => h9) rfl dX7_lay_255 ?_
                      refine lv_iconst (v := 4) hx hb dX7_lay_258 (by decide) ?_
                      refine va_mmax hx hb (hml.trans hl.1.symm) hown (hts (.methodLink RX7 115 Lib.Math.max.name) (by decide +kernel)) (hts (.static Lib.Math.max.name) (by decide +kernel)) (hts (.initialized "java/lang/Math") (by decide +kernel)) (hts _ (List.mem_of_getElem? (i := 16) rfl)) (Nat.le_of_ble_eq_true rfl) (Nat.le_of_ble_eq_true rfl) (Nat.le_of_ble_eq_true rfl) (Nat.le_of_ble_eq_true rfl) dX7_lay_259 ?_
                      refine lv_topi (fun x9 ex9 => ?_)
                      have ex9 : x9 = nI (max L.2.1 4) := ex9.trans (mx_nI (b := 4) (by omega) (by decide))
                      subst ex9
                      refine w_put (ci := 7) (C := RX7) (T := TX7) (N := 8) (ref := "LayoutDeskModel") (ty := .int) (fs' := [.ref tl, .ref P.1, .ref P.2.1, .ref P.2.2.1, .ref P.2.2.2, .int (nI L.2.2.2.length), .int (nI (max L.1 (rup L.1 4 + 4))), .int (nI (max L.2.1 4))]) hx hb hts in_X7_lay_7 tyX7 tyX7_ok nmX7 hown hw (wu_s _ _ _) rfl 7 (by decide) (hts (.fieldLink RX7 94 "LayoutDeskModel" "align" "I") (by decide +kernel)) (fun _ h9 => h9) rfl (by decide +kernel) rfl rfl (Nat.le_of_ble_eq_true rfl) rfl dX7_lay_262 (fun H locs hw => ?_)
                      obtain ⟨z265, ez265⟩ : ∃ y : Int32, y = (nI i) + 1 := ⟨_, rfl⟩
                      refine lv_iinc (v := z265) (lv' := [(4, .int z265), (3, .int (nI (0 + d.2.1))), (2, .int (nI (rup L.1 4))), (6, .int (nI t)), (5, .ref y), (0, .ref mo), (1, .ref a)]) hx hb dX7_lay_265 hl (k := 4) rfl (by rw [ez265]; rfl) (by decide) rfl (fun ls hl => ?_)
                      refine lv_goto (tgt := 22) hx hb dX7_lay_268 (by decide) ?_
                      have ez : z265 = nI (i + 1) := ez265.trans (nI_1 i)
                      subst ez
                      have hLW3 := LW_mo (W := (wu (wu hh mo (.inr (7, [.ref tl, .ref P.1, .ref P.2.1, .ref P.2.2.1, .ref P.2.2.2, .int (nI L.2.2.2.length), .int (nI (max L.1 (rup L.1 4 + 4))), .int (nI L.2.1)]))) mo (.inr (7, [.ref tl, .ref P.1, .ref P.2.1, .ref P.2.2.1, .ref P.2.2.2, .int (nI L.2.2.2.length), .int (nI (max L.1 (rup L.1 4 + 4))), .int (nI (max L.2.1 4))])))) (some (rup L.1 4, 0 + d.2.1)) hLW (wu_s _ _ _) (fun q hq => by rw [wu_n hq, wu_n hq]) (w_z hw)
                      exact ih (i + 1) (by omega) _ _ _ ls (nI (rup L.1 4)) (nI (0 + d.2.1)) (by rw [eT, lyS_bits hd1 hd0 hU, hmb]; exact hLW3) (by rw [eT, lyS_bits hd1 hd0 hU]; exact Or.inr ⟨rup L.1 4, 0 + d.2.1, rfl, rfl, rfl⟩) hw (lv_sub hl [0, 5, 6, 2, 1] rfl)
                    · have hmb : d.2.2.1 = true := by
                        cases hq9 : d.2.2.1 with
                        | true => rfl
                        | false => rw [hq9] at c215; exact absurd rfl c215
                      rw [hmb] at hB5
                      have hn100 : L.2.2.2.length < 100 := by have := hB5.2.1; simp at this; omega
                      refine lv_aload_n hx hb dX7_lay_218 rfl (lv_at hl 5 rfl) ?_
                      refine lv_iload_n hx hb dX7_lay_219 rfl (lv_at hl 1 rfl) ?_
                      refine lv_iload hx hb dX7_lay_220 (lv_at hl 2 rfl) ?_
                      refine lv_iload_n hx hb dX7_lay_222 rfl (lv_at hl 0 rfl) ?_
                      refine lv_aload hx hb dX7_lay_223 (lv_at hl 3 rfl) ?_
                      refine w_get (ci := 5) (C := RX5) (T := TX5) (N := 3) (ref := "LayoutDeskModel$Added") hx hb hts in_X7_lay_5 hown hw hy2 rfl 1 (by decide) (hts (.fieldLink RX7 103 "LayoutDeskModel$Added" "width" "I") (by decide +kernel)) (fun _ h9 => h9) rfl dX7_lay_225 ?_
                      refine w_call (va_runV (As := [.int (nI (rup L.1 4)), .int (nI t), .int 0, .int (nI d.2.1)]) (rest := []) ⟨hx, hb, hml, hown, hts⟩ (c_put l g hh mo tl P.1 P.2.1 P.2.2.1 P.2.2.2 L.2.2.2.length (nI L.1) (nI L.2.1) (nI (rup L.1 4)) (nI t) 0 (nI d.2.1) f0 f1 f2 f3 hW1 g0 g1 g2 g3 hd.1 hd.2.1 hd.2.2.1 hd.2.2.2.1 hd.2.2.2.2.1 hd.2.2.2.2.2 hn100 H.size) (cwV 4 hts gX7_lay_X7_put rfl rfl rfl (by decide +kernel) ⟨Nat.le_of_ble_eq_true rfl, Nat.le_of_ble_eq_true rfl⟩) ⟨pr_blind, w_recv hw hW1 rfl, pr_of hw⟩ rfl rfl hl.1 rfl (lv_room (Nat.le_of_ble_eq_true rfl)) dX7_lay_228 ⟨Nat.le_of_ble_eq_true rfl, Nat.le_of_ble_eq_true rfl⟩) hw (fun v k' H locs hp hw => ?_)
                      obtain ⟨rfl, w1, w2, w3, w4, w5, w6⟩ := hp
                      refine W.eq (g2 := F0 m 231 ls []) rfl ?_
                      have hy7 := (w6 y (ne_e hy2 hW1 (ne_c (by decide))) (scr_obj hs8 hy2).1 (scr_obj hs8 hy2).2.1 (scr_obj hs8 hy2).2.2.1 (scr_obj hs8 hy2).2.2.2).trans hy2
                      have hLW2 := LW_put none (rup L.1 4, t, 0, d.2.1) hLW hcon w1 w2 w3 w4 w5 w6 (w_z hw) rfl rfl rfl rfl
                      refine lv_iload_n hx hb dX7_lay_231 rfl (lv_at hl 0 rfl) ?_
                      refine lv_aload hx hb dX7_lay_232 (lv_at hl 3 rfl) ?_
                      refine w_get (ci := 5) (C := RX5) (T := TX5) (N := 3) (ref := "LayoutDeskModel$Added") hx hb hts in_X7_lay_5 hown hw hy7 rfl 1 (by decide) (hts (.fieldLink RX7 103 "LayoutDeskModel$Added" "width" "I") (by decide +kernel)) (fun _ h9 => h9) rfl dX7_lay_234 ?_
                      refine lv_iadd hx hb dX7_lay_237 ?_
                      refine lv_topi (fun x3_ ex3_ => ?_)
                      have ex3_ : x3_ = nI (0 + d.2.1) := ex3_.trans (nI_add 0 d.2.1)
                      subst ex3_
                      refine lv_istore_n (lv' := [(3, .int (nI (0 + d.2.1))), (2, .int (nI (rup L.1 4))), (6, .int (nI t)), (5, .ref y), (4, .int (nI i)), (0, .ref mo), (1, .ref a)]) hx hb dX7_lay_238 rfl hl (by decide) rfl (fun ls hl => ?_)
                      refine lv_aload_n hx hb dX7_lay_239 rfl (lv_at hl 5 rfl) ?_
                      refine lv_aload_n hx hb dX7_lay_240 rfl (lv_at hl 5 rfl) ?_
                      refine w_get (ci := 7) (C := RX7) (T := TX7) (N := 8) (ref := "LayoutDeskModel") hx hb hts in_X7_lay_7 hown hw w1 rfl 6 (by decide) (hts (.fieldLink RX7 91 "LayoutDeskModel" "reach" "I") (by decide +kernel)) (fun _ h9 => h9) rfl dX7_lay_241 ?_
                      refine lv_iload_n hx hb dX7_lay_244 rfl (lv_at hl 1 rfl) ?_
                      refine lv_iconst (v := 4) hx hb dX7_lay_245 (by decide) ?_
                      refine lv_iadd hx hb dX7_lay_246 ?_
                      refine va_mmax hx hb (hml.trans hl.1.symm) hown (hts (.methodLink RX7 115 Lib.Math.max.name) (by decide +kernel)) (hts (.static Lib.Math.max.name) (by decide +kernel)) (hts (.initialized "java/lang/Math") (by decide +kernel)) (hts _ (List.mem_of_getElem? (i := 16) rfl)) (Nat.le_of_ble_eq_true rfl) (Nat.le_of_ble_eq_true rfl) (Nat.le_of_ble_eq_true rfl) (Nat.le_of_ble_eq_true rfl) dX7_lay_247 ?_
                      refine lv_topi (fun x8 ex8 => ?_)
                      have ex8 : x8 = nI (max L.1 (rup L.1 4 + 4)) := ex8.trans (by rw [show (nI (rup L.1 4) : Int32) + 4 = nI (rup L.1 4 + 4) from nI_add (rup L.1 4) 4]; exact mx_nI (by omega) (by omega))
                      subst ex8
                      refine w_put (ci := 7) (C := RX7) (T := TX7) (N := 8) (ref := "LayoutDeskModel") (ty := .int) (fs' := [.ref tl, .ref P.1, .ref P.2.1, .ref P.2.2.1, .ref P.2.2.2, .int (nI (L.2.2.2.length + 1)), .int (nI (max L.1 (rup L.1 4 + 4))), .int (nI L.2.1)]) hx hb hts in_X7_lay_7 tyX7 tyX7_ok nmX7 hown hw w1 rfl 6 (by decide) (hts (.fieldLink RX7 91 "LayoutDeskModel" "reach" "I") (by decide +kernel)) (fun _ h9 => h9) rfl (by decide +kernel) rfl rfl (Nat.le_of_ble_eq_true rfl) rfl dX7_lay_250 (fun H locs hw => ?_)
                      refine lv_aload_n hx hb dX7_lay_253 rfl (lv_at hl 5 rfl) ?_
                      refine lv_aload_n hx hb dX7_lay_254 rfl (lv_at hl 5 rfl) ?_
                      refine w_get (ci := 7) (C := RX7) (T := TX7) (N := 8) (ref := "LayoutDeskModel") hx hb hts in_X7_lay_7 hown hw (wu_s _ _ _) rfl 7 (by decide) (hts (.fieldLink RX7 94 "LayoutDeskModel" "align" "I") (by decide +kernel)) (fun _ h9 => h9) rfl dX7_lay_255 ?_
                      refine lv_iconst (v := 4) hx hb dX7_lay_258 (by decide) ?_
                      refine va_mmax hx hb (hml.trans hl.1.symm) hown (hts (.methodLink RX7 115 Lib.Math.max.name) (by decide +kernel)) (hts (.static Lib.Math.max.name) (by decide +kernel)) (hts (.initialized "java/lang/Math") (by decide +kernel)) (hts _ (List.mem_of_getElem? (i := 16) rfl)) (Nat.le_of_ble_eq_true rfl) (Nat.le_of_ble_eq_true rfl) (Nat.le_of_ble_eq_true rfl) (Nat.le_of_ble_eq_true rfl) dX7_lay_259 ?_
                      refine lv_topi (fun x9 ex9 => ?_)
                      have ex9 : x9 = nI (max L.2.1 4) := ex9.trans (mx_nI (b := 4) (by omega) (by decide))
                      subst ex9
                      refine w_put (ci := 7) (C := RX7) (T := TX7) (N := 8) (ref := "LayoutDeskModel") (ty := .int) (fs' := [.ref tl, .ref P.1, .ref P.2.1, .ref P.2.2.1, .ref P.2.2.2, .int (nI (L.2.2.2.length + 1)), .int (nI (max L.1 (rup L.1 4 + 4))), .int (nI (max L.2.1 4))]) hx hb hts in_X7_lay_7 tyX7 tyX7_ok nmX7 hown hw (wu_s _ _ _) rfl 7 (by decide) (hts (.fieldLink RX7 94 "LayoutDeskModel" "align" "I") (by decide +kernel)) (fun _ h9 => h9) rfl (by decide +kernel) rfl rfl (Nat.le_of_ble_eq_true rfl) rfl dX7_lay_262 (fun H locs hw => ?_)
                      obtain ⟨z265, ez265⟩ : ∃ y : Int32, y = (nI i) + 1 := ⟨_, rfl⟩
                      refine lv_iinc (v := z265) (lv' := [(4, .int z265), (3, .int (nI (0 + d.2.1))), (2, .int (nI (rup L.1 4))), (6, .int (nI t)), (5, .ref y), (0, .ref mo), (1, .ref a)]) hx hb dX7_lay_265 hl (k := 4) rfl (by rw [ez265]; rfl) (by decide) rfl (fun ls hl => ?_)
                      refine lv_goto (tgt := 22) hx hb dX7_lay_268 (by decide) ?_
                      have ez : z265 = nI (i + 1) := ez265.trans (nI_1 i)
                      subst ez
                      have hLW3 := LW_mo (W := (wu (wu k' mo (.inr (7, [.ref tl, .ref P.1, .ref P.2.1, .ref P.2.2.1, .ref P.2.2.2, .int (nI (L.2.2.2.length + 1)), .int (nI (max L.1 (rup L.1 4 + 4))), .int (nI L.2.1)]))) mo (.inr (7, [.ref tl, .ref P.1, .ref P.2.1, .ref P.2.2.1, .ref P.2.2.2, .int (nI (L.2.2.2.length + 1)), .int (nI (max L.1 (rup L.1 4 + 4))), .int (nI (max L.2.1 4))])))) (some (rup L.1 4, 0 + d.2.1)) hLW2 (by rw [wu_s]; show _ = some (oMo _ _ _ _ _ (nI (L.2.2.2 ++ [(rup L.1 4, t, 0, d.2.1)]).length) _ _); rw [List.length_append]; rfl) (fun q hq => by rw [wu_n hq, wu_n hq]) (w_z hw)
                      exact ih (i + 1) (by omega) _ _ _ ls (nI (rup L.1 4)) (nI (0 + d.2.1)) (by rw [eT, lyS_bits hd1 hd0 hU, hmb]; exact hLW3) (by rw [eT, lyS_bits hd1 hd0 hU]; exact Or.inr ⟨rup L.1 4, 0 + d.2.1, rfl, rfl, rfl⟩) hw (lv_sub hl [0, 5, 6, 2, 1] rfl)
                  · exact absurd c192 c168
          · exact absurd ((nI_eq (b := 0) (by omega) (by decide)).mp (c70.trans nI_0.symm)) hd0
        · exact absurd (nI_pos' (by omega)) c57
set_option maxHeartbeats 4000000 in
set_option maxRecDepth 100000 in
theorem c_lay (l : Launch) (g : GG) (h : Nat → Option va_E) (mo a tl ta ad aa K : Nat) (P : P4) (ty ab : List Nat) (as : List AdS) (to_ le si al fi : Int32) (hm : ∃ mem rea ali : Int32, h mo = some (oMo tl P.1 P.2.1 P.2.2.1 P.2.2.2 mem rea ali)) (hs : scr g h P) (hd : apart4 P) (hT : AL g h tl ta ty) (hK : K ≤ 4) (ha : h a = some (oTy (nI K) to_ le si al ad fi)) (hA : AL g h ad aa ab) (hlen : ab.length = as.length) (hit : ∀ (j y : Nat) (d : AdS), ab[j]? = some y → as[j]? = some d → h y = some (oAd (adT d) (nI d.2.1) (if d.2.2.1 = true then 1 else 0))) (hty : ∀ d ∈ as, ∀ t, d.1 = some t → t < 300 ∧ (d.2.1 = 0 → ∃ (b : Nat) (k2 t2 l2 : Int32) (ad2 : Nat) (f2 : Int32), ty[t]? = some b ∧ h b = some (oTy k2 t2 l2 (nI d.2.2.2.1) (nI d.2.2.2.2) ad2 f2))) (hbd : ∀ d ∈ as, d.2.1 ≤ 32 ∧ d.2.2.2.2 ≤ 4) (hbs : ∀ d ∈ as, d.2.2.2.1 ≤ 524288) (hb1 : (lay (K == 4) as).1 ≤ 1100000) (hb2 : (lay (K == 4) as).2.2.2.length ≤ 100) : Con l yX7_lay wsX7_lay 3 70 0 0 [.ref mo, .ref a] g h (fun v h' => v = none ∧ LW g h h' mo tl P (lay (K == 4) as)) := by
  obtain ⟨mem, rea, ali, hm0⟩ := id hm
  refine m_start (cc := cX7_lay) (maxL := 9) (ret := none) (by decide) rfl (Nat.le_of_ble_eq_true rfl) ?_
  intro p e s m below meth c A ls hx hb hr hml hts hown hlocks hin hw hl
  have hl : lv_has ls 9 [(0, .ref mo), (1, .ref a)] := hl
  have hown : s.vm.findClass RX7 = some m.cls := hown
  refine lv_aload_n hx hb dX7_lay_0 rfl (lv_at hl 0 rfl) ?_
  refine lv_iconst (v := 0) hx hb dX7_lay_1 (by decide) ?_
  refine w_put (ci := 7) (C := RX7) (T := TX7) (N := 8) (ref := "LayoutDeskModel") (ty := .int) (fs' := [.ref tl, .ref P.1, .ref P.2.1, .ref P.2.2.1, .ref P.2.2.2, .int 0, .int rea, .int ali]) hx hb hts in_X7_lay_7 tyX7 tyX7_ok nmX7 hown hw hm0 rfl 5 (by decide) (hts (.fieldLink RX7 88 "LayoutDeskModel" "members" "I") (by decide +kernel)) (fun _ h9 => h9) rfl (by decide +kernel) rfl rfl (Nat.le_of_ble_eq_true rfl) rfl dX7_lay_2 (fun H locs hw => ?_)
  refine lv_aload_n hx hb dX7_lay_5 rfl (lv_at hl 0 rfl) ?_
  refine lv_iconst (v := 0) hx hb dX7_lay_6 (by decide) ?_
  refine w_put (ci := 7) (C := RX7) (T := TX7) (N := 8) (ref := "LayoutDeskModel") (ty := .int) (fs' := [.ref tl, .ref P.1, .ref P.2.1, .ref P.2.2.1, .ref P.2.2.2, .int 0, .int 0, .int ali]) hx hb hts in_X7_lay_7 tyX7 tyX7_ok nmX7 hown hw (wu_s _ _ _) rfl 6 (by decide) (hts (.fieldLink RX7 91 "LayoutDeskModel" "reach" "I") (by decide +kernel)) (fun _ h9 => h9) rfl (by decide +kernel) rfl rfl (Nat.le_of_ble_eq_true rfl) rfl dX7_lay_7 (fun H locs hw => ?_)
  refine lv_aload_n hx hb dX7_lay_10 rfl (lv_at hl 0 rfl) ?_
  refine lv_iconst (v := 0) hx hb dX7_lay_11 (by decide) ?_
  refine w_put (ci := 7) (C := RX7) (T := TX7) (N := 8) (ref := "LayoutDeskModel") (ty := .int) (fs' := [.ref tl, .ref P.1, .ref P.2.1, .ref P.2.2.1, .ref P.2.2.2, .int 0, .int 0, .int 0]) hx hb hts in_X7_lay_7 tyX7 tyX7_ok nmX7 hown hw (wu_s _ _ _) rfl 7 (by decide) (hts (.fieldLink RX7 94 "LayoutDeskModel" "align" "I") (by decide +kernel)) (fun _ h9 => h9) rfl (by decide +kernel) rfl rfl (Nat.le_of_ble_eq_true rfl) rfl dX7_lay_12 (fun H locs hw => ?_)
  refine lv_iconst (v := (-1)) hx hb dX7_lay_15 (by decide) ?_
  refine lv_istore_n (lv' := [(2, .int (-1)), (0, .ref mo), (1, .ref a)]) hx hb dX7_lay_16 rfl hl (by decide) rfl (fun ls hl => ?_)
  refine lv_iconst (v := 0) hx hb dX7_lay_17 (by decide) ?_
  refine lv_istore_n (lv' := [(3, .int 0), (2, .int (-1)), (0, .ref mo), (1, .ref a)]) hx hb dX7_lay_18 rfl hl (by decide) rfl (fun ls hl => ?_)
  refine lv_iconst (v := 0) hx hb dX7_lay_19 (by decide) ?_
  refine lv_istore (lv' := [(4, .int 0), (3, .int 0), (2, .int (-1)), (0, .ref mo), (1, .ref a)]) hx hb dX7_lay_20 hl (by decide) rfl (fun ls hl => ?_)
  obtain ⟨f0, f1, f2, f3, g0, g1, g2, g3⟩ := id hs
  have hLW0 : LW g h (wu (wu (wu h mo (.inr (7, [.ref tl, .ref P.1, .ref P.2.1, .ref P.2.2.1, .ref P.2.2.2, .int 0, .int rea, .int ali]))) mo (.inr (7, [.ref tl, .ref P.1, .ref P.2.1, .ref P.2.2.1, .ref P.2.2.2, .int 0, .int 0, .int ali]))) mo (.inr (7, [.ref tl, .ref P.1, .ref P.2.1, .ref P.2.2.1, .ref P.2.2.2, .int 0, .int 0, .int 0]))) mo tl P (lay (K == 4) (as.take 0)) := ⟨wu_s _ _ _, fun q e0 _ _ _ _ => by rw [wu_n e0, wu_n e0, wu_n e0], w_z hw, f0, f1, f2, f3, by rw [wu_n (ne_e g0 hm0 ne_lr), wu_n (ne_e g0 hm0 ne_lr), wu_n (ne_e g0 hm0 ne_lr)]; exact g0, by rw [wu_n (ne_e g1 hm0 ne_lr), wu_n (ne_e g1 hm0 ne_lr), wu_n (ne_e g1 hm0 ne_lr)]; exact g1, by rw [wu_n (ne_e g2 hm0 ne_lr), wu_n (ne_e g2 hm0 ne_lr), wu_n (ne_e g2 hm0 ne_lr)]; exact g2, by rw [wu_n (ne_e g3 hm0 ne_lr), wu_n (ne_e g3 hm0 ne_lr), wu_n (ne_e g3 hm0 ne_lr)]; exact g3, fun j mm hj => by cases hj⟩
  exact lay_loop l g h mo a tl ta ad aa K P ty ab as to_ le si al fi hm hs hd hT hK ha hA hlen hit hty hbd hbs hb1 hb2 hx hb hr hml hts hown hlocks as.length 0 (by omega) _ _ _ ls (-1) 0 hLW0 (Or.inl ⟨rfl, rfl⟩) hw (lv_sub hl [0, 3, 4, 2, 1] rfl)
