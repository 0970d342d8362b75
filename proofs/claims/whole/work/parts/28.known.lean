/-! the model: known -/
theorem in_X7_known_7 : ∀ w ∈ u_ws RX7 TX7 8, w ∈ wsX7_known := by decide +kernel
theorem in_X7_known_6 : ∀ w ∈ u_ws RX6 TX6 7, w ∈ wsX7_known := by decide +kernel
set_option maxHeartbeats 4000000 in
set_option maxRecDepth 100000 in
theorem known_loop {p : Program} {e : Env} {s : State} {m : MethodId} {below : List Frame} {meth : Method} {c : Code} {A : Nat → Prop} (l : Launch) (g : GG) (h : Nat → Option va_E) (mo tl ta p0 p1 p2 p3 : Nat) (mem rea ali : Int32) (ty : List Nat) (hm : h mo = some (oMo tl p0 p1 p2 p3 mem rea ali)) (hL : AL g h tl ta ty) (k2 b2 n2 : Int32) (hT : ∀ a ∈ ty, isTM h a) (hx : p.tables.exec = Jvm.exec) (hb : c.code = cX7_known) (hr : meth.sig.returnType = (some .int)) (hml : c.maxLocals = 6) (hts : ∀ w ∈ wsX7_known, w.before ([.ref mo, .int k2, .int b2, .int n2] : List Value).toArray s = true) (hown : s.vm.findClass RX7 = some m.cls) (hlocks : meth.locks = false) :
    ∀ (n i : Nat), i + n = ty.length → (∀ j a : Nat, j < i → ty[j]? = some a → ¬ mtM h k2 b2 n2 a) → ∀ (H : Heap) (locs : List Loc) (ls : Array Slot), wd g A s h H locs → lv_has ls 6 [(4, .int (nI i)), (0, .ref mo), (1, .int k2), (2, .int b2), (3, .int n2)] → W p l e { frames := 3, cells := 0, slots := 0, locals := 70 } s m ([.ref mo, .int k2, .int b2, .int n2] : List Value).toArray below meth c H locs 0 0 (MQ below (cQ g A (fun v h' => h = h' ∧ ((∃ i, i < ty.length ∧ v = some (.int (nI i)) ∧ (∃ a, ty[i]? = some a ∧ mtM h k2 b2 n2 a) ∧ ∀ j, j < i → ∀ a, ty[j]? = some a → ¬ mtM h k2 b2 n2 a) ∨ (v = some (.int (-1)) ∧ ∀ j a : Nat, ty[j]? = some a → ¬ mtM h k2 b2 n2 a)))) ([.ref mo, .int k2, .int b2, .int n2] : List Value).toArray s 0 0 A) (F0 m 3 ls []) := by
  have hn9 := AL_len hL
  obtain ⟨⟨mc, hk0⟩, -, -⟩ := id hL
  intro n
  induction n with
  | zero =>
    intro i hi hnone H locs ls hw hl
    refine lv_iload hx hb dX7_known_3 (lv_at hl 0 rfl) ?_
    refine lv_aload_n hx hb dX7_known_5 rfl (lv_at hl 1 rfl) ?_
    refine w_get (ci := 7) (C := RX7) (T := TX7) (N := 8) (ref := "LayoutDeskModel") hx hb hts in_X7_known_7 hown hw hm rfl 0 (by decide) (hts (.fieldLink RX7 10 "LayoutDeskModel" "types" "Ljava/util/ArrayList;") (by decide +kernel)) (fun _ h9 => h9) rfl dX7_known_6 ?_
    refine w_call (va_runV (As := []) (rest := [.int (nI i)]) ⟨hx, hb, hml, hown, hts⟩ (c_sizeL l g h tl ta ty hL H.size) (cwV 0 hts gX7_known_Jx4a65c_size_8abf5 rfl rfl rfl (by decide +kernel) ⟨Nat.le_of_ble_eq_true rfl, Nat.le_of_ble_eq_true rfl⟩) ⟨pr_blind, w_recv hw hk0 rfl, pr_of hw⟩ rfl rfl hl.1 rfl (lv_room (Nat.le_of_ble_eq_true rfl)) dX7_known_9 ⟨Nat.le_of_ble_eq_true rfl, Nat.le_of_ble_eq_true rfl⟩) hw (fun v h' H locs hp hw => ?_)
    obtain ⟨rfl, rfl⟩ := hp
    refine W.eq (g2 := F0 m 12 ls [.int (nI ty.length), .int (nI i)]) rfl ?_
    refine lv_icmp_ge (tgt := 65) hx hb dX7_known_12 (by decide) (fun c12 => ?_) (fun c12 => ?_)
    · refine lv_iconst (v := (-1)) hx hb dX7_known_65 (by decide) ?_
      exact r_int hx hb hr hlocks hw dX7_known_66 (Nat.le_of_ble_eq_true rfl) (Nat.le_of_ble_eq_true rfl) (⟨rfl, Or.inr ⟨rfl, fun j a ha => hnone j a (by have := (List.getElem?_eq_some_iff.mp ha).1; omega) ha⟩⟩)
    · exact absurd (nI_le (by omega) (by omega)) c12
  | succ n ih =>
    intro i hi hnone H locs ls hw hl
    refine lv_iload hx hb dX7_known_3 (lv_at hl 0 rfl) ?_
    refine lv_aload_n hx hb dX7_known_5 rfl (lv_at hl 1 rfl) ?_
    refine w_get (ci := 7) (C := RX7) (T := TX7) (N := 8) (ref := "LayoutDeskModel") hx hb hts in_X7_known_7 hown hw hm rfl 0 (by decide) (hts (.fieldLink RX7 10 "LayoutDeskModel" "types" "Ljava/util/ArrayList;") (by decide +kernel)) (fun _ h9 => h9) rfl dX7_known_6 ?_
    refine w_call (va_runV (As := []) (rest := [.int (nI i)]) ⟨hx, hb, hml, hown, hts⟩ (c_sizeL l g h tl ta ty hL H.size) (cwV 0 hts gX7_known_Jx4a65c_size_8abf5 rfl rfl rfl (by decide +kernel) ⟨Nat.le_of_ble_eq_true rfl, Nat.le_of_ble_eq_true rfl⟩) ⟨pr_blind, w_recv hw hk0 rfl, pr_of hw⟩ rfl rfl hl.1 rfl (lv_room (Nat.le_of_ble_eq_true rfl)) dX7_known_9 ⟨Nat.le_of_ble_eq_true rfl, Nat.le_of_ble_eq_true rfl⟩) hw (fun v h' H locs hp hw => ?_)
    obtain ⟨rfl, rfl⟩ := hp
    refine W.eq (g2 := F0 m 12 ls [.int (nI ty.length), .int (nI i)]) rfl ?_
    refine lv_icmp_ge (tgt := 65) hx hb dX7_known_12 (by decide) (fun c12 => ?_) (fun c12 => ?_)
    · exact absurd ((nI_leI (by omega) (by omega)).mp c12) (by omega)
    · obtain ⟨a, ha9⟩ : ∃ a, ty[i]? = some a := ⟨ty[i], List.getElem?_eq_getElem (by omega)⟩
      obtain ⟨ki, ba, le, si, al, ad, fi, ha⟩ := hT a (List.mem_of_getElem? ha9)
      refine lv_aload_n hx hb dX7_known_15 rfl (lv_at hl 1 rfl) ?_
      refine w_get (ci := 7) (C := RX7) (T := TX7) (N := 8) (ref := "LayoutDeskModel") hx hb hts in_X7_known_7 hown hw hm rfl 0 (by decide) (hts (.fieldLink RX7 10 "LayoutDeskModel" "types" "Ljava/util/ArrayList;") (by decide +kernel)) (fun _ h9 => h9) rfl dX7_known_16 ?_
      refine lv_iload hx hb dX7_known_19 (lv_at hl 0 rfl) ?_
      refine w_call (va_runV (As := [.int (nI i)]) (rest := []) ⟨hx, hb, hml, hown, hts⟩ (c_getL l g h tl ta ty hL (nI i) a ((lk_nI (by omega)).trans ha9) H.size) (cwV 1 hts gX7_known_Jx4a65c_get_915e3 rfl rfl rfl (by decide +kernel) ⟨Nat.le_of_ble_eq_true rfl, Nat.le_of_ble_eq_true rfl⟩) ⟨pr_blind, w_recv hw hk0 rfl, pr_of hw⟩ rfl rfl hl.1 rfl (lv_room (Nat.le_of_ble_eq_true rfl)) dX7_known_21 ⟨Nat.le_of_ble_eq_true rfl, Nat.le_of_ble_eq_true rfl⟩) hw (fun v h' H locs hp hw => ?_)
      obtain ⟨rfl, rfl⟩ := hp
      refine W.eq (g2 := F0 m 24 ls [.ref a]) rfl ?_
      refine va_castY (C := RX6) hx hb hown (hts (.classLink RX7 29 "LayoutDeskModel$Type") (by decide +kernel)) (w_nwN hw (by decide +kernel)) (w_recv hw ha rfl) dX7_known_24 ?_
      refine lv_astore (lv' := [(5, .ref a), (4, .int (nI i)), (0, .ref mo), (1, .int k2), (2, .int b2), (3, .int n2)]) hx hb dX7_known_27 hl (by decide) rfl (fun ls hl => ?_)
      refine lv_aload hx hb dX7_known_29 (lv_at hl 0 rfl) ?_
      refine w_get (ci := 6) (C := RX6) (T := TX6) (N := 7) (ref := "LayoutDeskModel$Type") hx hb hts in_X7_known_6 hown hw ha rfl 0 (by decide) (hts (.fieldLink RX7 58 "LayoutDeskModel$Type" "kind" "I") (by decide +kernel)) (fun _ h9 => h9) rfl dX7_known_31 ?_
      refine lv_iload_n hx hb dX7_known_34 rfl (lv_at hl 3 rfl) ?_
      refine lv_icmp_ne (tgt := 59) hx hb dX7_known_35 (by decide) (fun c35 => ?_) (fun c35 => ?_)
      · obtain ⟨z59, ez59⟩ : ∃ y : Int32, y = (nI i) + 1 := ⟨_, rfl⟩
        refine lv_iinc (v := z59) (lv' := [(4, .int z59), (5, .ref a), (0, .ref mo), (1, .int k2), (2, .int b2), (3, .int n2)]) hx hb dX7_known_59 hl (k := 1) rfl (by rw [ez59]; rfl) (by decide) rfl (fun ls hl => ?_)
        refine lv_goto (tgt := 3) hx hb dX7_known_62 (by decide) ?_
        have hno : ¬ mtM h k2 b2 n2 a := mtM_no ha (fun z => c35 z.1)
        have hnext : ∀ j a : Nat, j < i + 1 → ty[j]? = some a → ¬ mtM h k2 b2 n2 a := by
          intro j a2 hj ha2
          rcases Nat.lt_or_ge j i with z | z
          · exact hnone j a2 z ha2
          · have e9 : j = i := by omega
            subst e9
            rw [ha9] at ha2
            cases ha2
            exact hno
        have ez : z59 = nI (i + 1) := ez59.trans (nI_1 i)
        subst ez
        exact ih (i + 1) (by omega) hnext _ _ ls hw (lv_sub hl [0, 2, 3, 4, 5] rfl)
      · refine lv_aload hx hb dX7_known_38 (lv_at hl 0 rfl) ?_
        refine w_get (ci := 6) (C := RX6) (T := TX6) (N := 7) (ref := "LayoutDeskModel$Type") hx hb hts in_X7_known_6 hown hw ha rfl 1 (by decide) (hts (.fieldLink RX7 62 "LayoutDeskModel$Type" "to" "I") (by decide +kernel)) (fun _ h9 => h9) rfl dX7_known_40 ?_
        refine lv_iload_n hx hb dX7_known_43 rfl (lv_at hl 4 rfl) ?_
        refine lv_icmp_ne (tgt := 59) hx hb dX7_known_44 (by decide) (fun c44 => ?_) (fun c44 => ?_)
        · obtain ⟨z59, ez59⟩ : ∃ y : Int32, y = (nI i) + 1 := ⟨_, rfl⟩
          refine lv_iinc (v := z59) (lv' := [(4, .int z59), (5, .ref a), (0, .ref mo), (1, .int k2), (2, .int b2), (3, .int n2)]) hx hb dX7_known_59 hl (k := 1) rfl (by rw [ez59]; rfl) (by decide) rfl (fun ls hl => ?_)
          refine lv_goto (tgt := 3) hx hb dX7_known_62 (by decide) ?_
          have hno : ¬ mtM h k2 b2 n2 a := mtM_no ha (fun z => c44 z.2.1)
          have hnext : ∀ j a : Nat, j < i + 1 → ty[j]? = some a → ¬ mtM h k2 b2 n2 a := by
            intro j a2 hj ha2
            rcases Nat.lt_or_ge j i with z | z
            · exact hnone j a2 z ha2
            · have e9 : j = i := by omega
              subst e9
              rw [ha9] at ha2
              cases ha2
              exact hno
          have ez : z59 = nI (i + 1) := ez59.trans (nI_1 i)
          subst ez
          exact ih (i + 1) (by omega) hnext _ _ ls hw (lv_sub hl [0, 2, 3, 4, 5] rfl)
        · refine lv_aload hx hb dX7_known_47 (lv_at hl 0 rfl) ?_
          refine w_get (ci := 6) (C := RX6) (T := TX6) (N := 7) (ref := "LayoutDeskModel$Type") hx hb hts in_X7_known_6 hown hw ha rfl 2 (by decide) (hts (.fieldLink RX7 65 "LayoutDeskModel$Type" "length" "I") (by decide +kernel)) (fun _ h9 => h9) rfl dX7_known_49 ?_
          refine lv_iload_n hx hb dX7_known_52 rfl (lv_at hl 5 rfl) ?_
          refine lv_icmp_ne (tgt := 59) hx hb dX7_known_53 (by decide) (fun c53 => ?_) (fun c53 => ?_)
          · obtain ⟨z59, ez59⟩ : ∃ y : Int32, y = (nI i) + 1 := ⟨_, rfl⟩
            refine lv_iinc (v := z59) (lv' := [(4, .int z59), (5, .ref a), (0, .ref mo), (1, .int k2), (2, .int b2), (3, .int n2)]) hx hb dX7_known_59 hl (k := 1) rfl (by rw [ez59]; rfl) (by decide) rfl (fun ls hl => ?_)
            refine lv_goto (tgt := 3) hx hb dX7_known_62 (by decide) ?_
            have hno : ¬ mtM h k2 b2 n2 a := mtM_no ha (fun z => c53 z.2.2)
            have hnext : ∀ j a : Nat, j < i + 1 → ty[j]? = some a → ¬ mtM h k2 b2 n2 a := by
              intro j a2 hj ha2
              rcases Nat.lt_or_ge j i with z | z
              · exact hnone j a2 z ha2
              · have e9 : j = i := by omega
                subst e9
                rw [ha9] at ha2
                cases ha2
                exact hno
            have ez : z59 = nI (i + 1) := ez59.trans (nI_1 i)
            subst ez
            exact ih (i + 1) (by omega) hnext _ _ ls hw (lv_sub hl [0, 2, 3, 4, 5] rfl)
          · refine lv_iload hx hb dX7_known_56 (lv_at hl 1 rfl) ?_
            exact r_int hx hb hr hlocks hw dX7_known_58 (Nat.le_of_ble_eq_true rfl) (Nat.le_of_ble_eq_true rfl) (⟨rfl, Or.inl ⟨i, by omega, rfl, ⟨a, ha9, by subst c35 c44 c53; exact ⟨_, _, _, _, ha⟩⟩, fun j hj a ha => hnone j a hj ha⟩⟩)
set_option maxHeartbeats 4000000 in
set_option maxRecDepth 100000 in
theorem c_known (l : Launch) (g : GG) (h : Nat → Option va_E) (mo tl ta p0 p1 p2 p3 : Nat) (mem rea ali : Int32) (ty : List Nat) (hm : h mo = some (oMo tl p0 p1 p2 p3 mem rea ali)) (hL : AL g h tl ta ty) (k2 b2 n2 : Int32) (hT : ∀ a ∈ ty, isTM h a) : Con l yX7_known wsX7_known 3 70 0 0 [.ref mo, .int k2, .int b2, .int n2] g h (fun v h' => h = h' ∧ ((∃ i, i < ty.length ∧ v = some (.int (nI i)) ∧ (∃ a, ty[i]? = some a ∧ mtM h k2 b2 n2 a) ∧ ∀ j, j < i → ∀ a, ty[j]? = some a → ¬ mtM h k2 b2 n2 a) ∨ (v = some (.int (-1)) ∧ ∀ j a : Nat, ty[j]? = some a → ¬ mtM h k2 b2 n2 a))) := by
  refine m_start (cc := cX7_known) (maxL := 6) (ret := (some .int)) (by decide) rfl (Nat.le_of_ble_eq_true rfl) ?_
  intro p e s m below meth c A ls hx hb hr hml hts hown hlocks hin hw hl
  have hl : lv_has ls 6 [(0, .ref mo), (1, .int k2), (2, .int b2), (3, .int n2)] := hl
  have hown : s.vm.findClass RX7 = some m.cls := hown
  refine lv_iconst (v := 0) hx hb dX7_known_0 (by decide) ?_
  refine lv_istore (lv' := [(4, .int 0), (0, .ref mo), (1, .int k2), (2, .int b2), (3, .int n2)]) hx hb dX7_known_1 hl (by decide) rfl (fun ls hl => ?_)
  exact known_loop l g h mo tl ta p0 p1 p2 p3 mem rea ali ty hm hL k2 b2 n2 hT hx hb hr hml hts hown hlocks ty.length 0 (by omega) (fun j a hj => absurd hj (Nat.not_lt_zero j)) _ _ ls hw (lv_sub hl [0, 1, 2, 3, 4] rfl)
