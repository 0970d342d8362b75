/-! the desk: bits -/
set_option maxHeartbeats 4000000 in
set_option maxRecDepth 100000 in
theorem d_bits_N (l : Launch) (g : GG) (h : Nat → Option va_E) (x : Nat) (S : List TyS) (N : Nat) (hR : DR g h x S) (hS : wfS N S) (r t w n : Int32) (hto : lkO S r = none) : Con l yX4_bits wsX4_bits 8 192 2 804 [.ref x, .int r, .int t, .int w, .int n] g h (fun v h' => v = some (.int (fBit S r t w n).1) ∧ DR g h' x (fBit S r t w n).2) := by
  obtain ⟨kl, ka, ty, ml, ma, mb, hR0⟩ := hR
  obtain ⟨hd, hz9, hG, hlen, -⟩ := id hR0
  have hL := hG.1
  have hn9 := AL_len hL
  obtain ⟨⟨mck, hk0⟩, -, -⟩ := id hL
  have hno := DR_noOpen hR0 hto
  refine m_start (cc := cX4_bits) (maxL := 7) (ret := (some .int)) (by decide) rfl (Nat.le_of_ble_eq_true rfl) ?_
  intro p e s m below meth c A ls hx hb hr hml hts hown hlocks hin hw hl
  have hl : lv_has ls 7 [(0, .ref x), (1, .int r), (2, .int t), (3, .int w), (4, .int n)] := hl
  have hown : s.vm.findClass RX4 = some m.cls := hown
  refine lv_aload_n hx hb dX4_bits_0 rfl (lv_at hl 0 rfl) ?_
  refine lv_iload_n hx hb dX4_bits_1 rfl (lv_at hl 1 rfl) ?_
  refine w_call (va_runV (As := [.int r]) (rest := []) ⟨hx, hb, hml, hown, hts⟩ (c_open_N l g h x kl ka ty hd hL r hno s.heap.size) (cwV 1 hts gX4_bits_X4_openRecordAt rfl rfl rfl (by decide +kernel) ⟨Nat.le_of_ble_eq_true rfl, Nat.le_of_ble_eq_true rfl⟩) ⟨pr_blind, w_recv hw hd rfl, pr_of hw⟩ rfl rfl hl.1 rfl (lv_room (Nat.le_of_ble_eq_true rfl)) dX4_bits_2 ⟨Nat.le_of_ble_eq_true rfl, Nat.le_of_ble_eq_true rfl⟩) hw (fun v h' H locs hp hw => ?_)
  obtain ⟨rfl, rfl⟩ := hp
  refine W.eq (g2 := F0 m 5 ls [.null]) rfl ?_
  refine lv_astoreN (lv' := [(5, .null), (0, .ref x), (1, .int r), (2, .int t), (3, .int w), (4, .int n)]) hx hb dX4_bits_5 hl (by decide) rfl (fun ls hl => ?_)
  refine lv_aloadN hx hb dX4_bits_7 (lv_at hl 0 rfl) ?_
  refine lv_ifnonnullN hx hb dX4_bits_9 ?_
  refine lv_iconst (v := (-1)) hx hb dX4_bits_12 (by decide) ?_
  have e9 : fBit S r t w n = (-1, S) := by simp [fBit, hto]
  exact r_int hx hb hr hlocks hw dX4_bits_13 (Nat.le_of_ble_eq_true rfl) (Nat.le_of_ble_eq_true rfl) (⟨by rw [e9], by rw [e9]; exact ⟨kl, ka, ty, ml, ma, mb, hR0⟩⟩)
theorem in_X4_bits_1 : ∀ w ∈ u_ws RX0 TX0 8, w ∈ wsX4_bits := by decide +kernel
theorem in_X4_bits_2 : ∀ w ∈ u_ws RX1 TX1 4, w ∈ wsX4_bits := by decide +kernel
set_option maxHeartbeats 4000000 in
set_option maxRecDepth 100000 in
theorem d_bits_O (l : Launch) (g : GG) (h : Nat → Option va_E) (x : Nat) (S : List TyS) (N : Nat) (hR : DR g h x S) (hS : wfS N S) (r t w n : Int32) (T : TyS) (hto : lkO S r = some T) : Con l yX4_bits wsX4_bits 8 192 2 804 [.ref x, .int r, .int t, .int w, .int n] g h (fun v h' => v = some (.int (fBit S r t w n).1) ∧ DR g h' x (fBit S r t w n).2) := by
  obtain ⟨ht, hk, hfi⟩ := lkO_some hto
  obtain ⟨kl, ka, ty, ml, ma, mb, hR0⟩ := hR
  obtain ⟨hd, hz9, hG, hlen, -⟩ := id hR0
  have hL := hG.1
  have hn9 := AL_len hL
  obtain ⟨⟨mck, hk0⟩, -, -⟩ := id hL
  obtain ⟨a, ha1, ha2, ha3, hc⟩ := DR_lk hR0 ht
  obtain ⟨⟨up, fb, ha, huo⟩, hml9, hmm⟩ : (∃ up fb : Int32, h a = some (oCo (nI (tSz T)) (nI (tAl T)) (if tK T = 4 then 1 else 0) (ml r.toNatClampNeg) (if tFi T = true then 0 else 1) (nI (ly T).1) up fb) ∧ uOK (tK T == 4) (ly T).2.2.1 up fb) ∧ (mb r.toNatClampNeg).length = (ly T).2.2.2.length ∧ ∀ (j y : Nat) (m : Nat × Nat × Nat × Nat), (mb r.toNatClampNeg)[j]? = some y → (ly T).2.2.2[j]? = some m → h y = some (oMb (nI m.1) (nI m.2.1) (nI m.2.2.1) (nI m.2.2.2)) := by
    rcases hc with ⟨z1, -⟩ | ⟨z1, z2⟩
    · exact absurd hk (by omega)
    · exact z2
  have hT : isTy h a := Or.inl ⟨_, _, _, _, _, _, _, _, ha⟩
  obtain ⟨hM, hmk, -⟩ := hG.2.2.1 r.toNatClampNeg (by have := (List.getElem?_eq_some_iff.mp ha2).1; omega) ⟨T, ha3, hk⟩
  obtain ⟨⟨mcm, hm0⟩, -, -⟩ := id hM
  obtain ⟨hw1, hw2, hw3, hw4, hw5, hw6, hw7, hw8⟩ := (hS.2.2 _ _ ha3).1
  obtain ⟨hf1, hf2, hf3, hf4⟩ := hw8 hk
  refine m_start (cc := cX4_bits) (maxL := 7) (ret := (some .int)) (by decide) rfl (Nat.le_of_ble_eq_true rfl) ?_
  intro p e s m below meth c A ls hx hb hr hml hts hown hlocks hin hw hl
  have hl : lv_has ls 7 [(0, .ref x), (1, .int r), (2, .int t), (3, .int w), (4, .int n)] := hl
  have hown : s.vm.findClass RX4 = some m.cls := hown
  refine lv_aload_n hx hb dX4_bits_0 rfl (lv_at hl 0 rfl) ?_
  refine lv_iload_n hx hb dX4_bits_1 rfl (lv_at hl 1 rfl) ?_
  refine w_call (va_runV (As := [.int r]) (rest := []) ⟨hx, hb, hml, hown, hts⟩ (c_open_S l g h x kl ka ty hd hL r a (ml r.toNatClampNeg) (nI (tSz T)) (nI (tAl T)) (if tK T = 4 then 1 else 0) (if tFi T = true then 0 else 1) (nI (ly T).1) up fb ha1 ha (by rw [hfi]; rfl) s.heap.size) (cwV 1 hts gX4_bits_X4_openRecordAt rfl rfl rfl (by decide +kernel) ⟨Nat.le_of_ble_eq_true rfl, Nat.le_of_ble_eq_true rfl⟩) ⟨pr_blind, w_recv hw hd rfl, pr_of hw⟩ rfl rfl hl.1 rfl (lv_room (Nat.le_of_ble_eq_true rfl)) dX4_bits_2 ⟨Nat.le_of_ble_eq_true rfl, Nat.le_of_ble_eq_true rfl⟩) hw (fun v h' H locs hp hw => ?_)
  obtain ⟨rfl, rfl⟩ := hp
  refine W.eq (g2 := F0 m 5 ls [.ref a]) rfl ?_
  refine lv_astore (lv' := [(5, .ref a), (0, .ref x), (1, .int r), (2, .int t), (3, .int w), (4, .int n)]) hx hb dX4_bits_5 hl (by decide) rfl (fun ls hl => ?_)
  refine lv_aload hx hb dX4_bits_7 (lv_at hl 0 rfl) ?_
  refine lv_ifnonnull (tgt := 14) hx hb dX4_bits_9 (by decide) ?_
  refine lv_iload_n hx hb dX4_bits_14 rfl (lv_at hl 3 rfl) ?_
  refine w_call (va_runS (As := [.int t]) (rest := []) ⟨hx, hb, hml, hown, hts⟩ (c_isBit l g h t H.size) (va_cwS 1 hts gX4_bits_X4_isBitFieldType rfl rfl rfl (by decide +kernel) ⟨Nat.le_of_ble_eq_true rfl, Nat.le_of_ble_eq_true rfl⟩) ⟨pr_blind, pr_of hw⟩ rfl rfl hl.1 rfl (lv_room (Nat.le_of_ble_eq_true rfl)) dX4_bits_15 ⟨Nat.le_of_ble_eq_true rfl, Nat.le_of_ble_eq_true rfl⟩) hw (fun v h' H locs hp hw => ?_)
  obtain ⟨rfl, rfl⟩ := hp
  refine W.eq (g2 := F0 m 18 ls [.int (if t = 5 ∨ t = 6 then 1 else 0)]) rfl ?_
  refine lv_if_eq (tgt := 32) hx hb dX4_bits_18 (by decide) (fun c18 => ?_) (fun c18 => ?_)
  · have hnt : ¬ (t = 5 ∨ t = 6) := fun z => by rw [if_pos z] at c18; exact absurd c18 (by decide)
    refine lv_bipush (v := (-2)) hx hb dX4_bits_32 (by decide) ?_
    have e9 : fBit S r t w n = (-2, S) := by
      simp only [fBit, hto]
      rw [if_pos (Or.inl hnt)]
    exact r_int hx hb hr hlocks hw dX4_bits_34 (Nat.le_of_ble_eq_true rfl) (Nat.le_of_ble_eq_true rfl) (⟨by rw [e9], by rw [e9]; exact ⟨kl, ka, ty, ml, ma, mb, hR0⟩⟩)
  · have ht56 : t = 5 ∨ t = 6 := by
      by_cases z : t = 5 ∨ t = 6
      · exact z
      · rw [if_neg z] at c18
        exact absurd rfl c18
    obtain ⟨et, ht3, ht5⟩ := bit_t ht56
    refine lv_iload_n hx hb dX4_bits_21 rfl (lv_at hl 4 rfl) ?_
    refine lv_iconst (v := 1) hx hb dX4_bits_22 (by decide) ?_
    refine lv_icmp_lt (tgt := 32) hx hb dX4_bits_23 (by decide) (fun c23 => ?_) (fun c23 => ?_)
    · refine lv_bipush (v := (-2)) hx hb dX4_bits_32 (by decide) ?_
      have e9 : fBit S r t w n = (-2, S) := by
        simp only [fBit, hto]
        rw [if_pos (Or.inr (Or.inl c23))]
      exact r_int hx hb hr hlocks hw dX4_bits_34 (Nat.le_of_ble_eq_true rfl) (Nat.le_of_ble_eq_true rfl) (⟨by rw [e9], by rw [e9]; exact ⟨kl, ka, ty, ml, ma, mb, hR0⟩⟩)
    · refine lv_iload_n hx hb dX4_bits_26 rfl (lv_at hl 4 rfl) ?_
      refine lv_bipush (v := 32) hx hb dX4_bits_27 (by decide) ?_
      refine lv_icmp_le (tgt := 35) hx hb dX4_bits_29 (by decide) (fun c29 => ?_) (fun c29 => ?_)
      · obtain ⟨ew, hb1, hb2⟩ := bit_w c23 c29
        have hc2 : ¬ (¬ (t = 5 ∨ t = 6) ∨ w < 1 ∨ 32 < w) := by
          rintro (z | z | z)
          · exact z ht56
          · exact c23 z
          · exact Int32.not_lt.mpr c29 z
        refine lv_iload hx hb dX4_bits_35 (lv_at hl 5 rfl) ?_
        refine lv_if_eq (tgt := 51) hx hb dX4_bits_37 (by decide) (fun c37 => ?_) (fun c37 => ?_)
        · have hc3 : ¬ (n ≠ 0 ∧ 100 ≤ (ly T).2.2.2.length) := fun z => z.1 c37
          refine lv_iload_n hx hb dX4_bits_51 rfl (lv_at hl 4 rfl) ?_
          refine lv_aload hx hb dX4_bits_52 (lv_at hl 0 rfl) ?_
          refine w_getN (ci := 1) (C := RX0) (T := TX0) (N := 8) (ref := "LayoutDesk$Compound") hx hb hts in_X4_bits_1 hown hw ha rfl 7 (by decide) (w_nw hw (w := .fieldLinkNest "LayoutDesk" 98 "LayoutDesk$Compound" "freeBits" "I" "LayoutDesk") (by decide +kernel)) (fun _ h9 => h9) rfl dX4_bits_54 ?_
          refine lv_icmp_le (tgt := 71) hx hb dX4_bits_57 (by decide) (fun c57 => ?_) (fun c57 => ?_)
          · obtain ⟨P9, K9, hun9, hu9, eup, efb, hkw, hU⟩ := bitsA (re := (ly T).1) hb1 hb2 huo (fun p k z => (hf4 p k z).1) (by rw [← ew]; exact c57)
            obtain ⟨-, -, hPr, hP4⟩ := hf4 P9 K9 hu9
            have elS := lyS_bit (t := t.toNatClampNeg) (b := decide (n ≠ 0)) (by omega) hU
            have eA : tAl (tPush T (some t.toNatClampNeg, w.toNatClampNeg, decide (n ≠ 0), 0, 0)) = tAl T := by
              show (lyS (tK T == 4) (ly T) _).2.1 = tAl T
              rw [elS]
              show max _ _ = _
              omega
            have eR : (ly (tPush T (some t.toNatClampNeg, w.toNatClampNeg, decide (n ≠ 0), 0, 0))).1 = (ly T).1 := by
              rw [ly_push, elS]
              show max _ _ = _
              omega
            have hc4 : ¬ 524288 < (lyS (tK T == 4) (ly T) (some t.toNatClampNeg, w.toNatClampNeg, decide (n ≠ 0), 0, 0)).1 := by
              rw [elS]
              show ¬ 524288 < max _ _
              omega
            refine lv_aload hx hb dX4_bits_71 (lv_at hl 0 rfl) ?_
            refine lv_iload_n hx hb dX4_bits_73 rfl (lv_at hl 4 rfl) ?_
            refine w_call (va_runV (As := [.int w]) (rest := []) ⟨hx, hb, hml, hown, hts⟩ (c_takeBits l g h a (ml r.toNatClampNeg) (nI (tSz T)) (nI (tAl T)) (if tK T = 4 then 1 else 0) (if tFi T = true then 0 else 1) (nI (ly T).1) up fb ha w H.size) (cwV 1 hts gX4_bits_X0_takeBits rfl rfl rfl (by decide +kernel) ⟨Nat.le_of_ble_eq_true rfl, Nat.le_of_ble_eq_true rfl⟩) ⟨pr_blind, w_recv hw ha rfl, pr_of hw⟩ rfl rfl hl.1 rfl (lv_room (Nat.le_of_ble_eq_true rfl)) dX4_bits_74 ⟨Nat.le_of_ble_eq_true rfl, Nat.le_of_ble_eq_true rfl⟩) hw (fun v h' H locs hp hw => ?_)
            obtain ⟨rfl, rfl⟩ := hp
            refine W.eq (g2 := F0 m 77 ls [.int (32 - fb)]) rfl ?_
            have elow : (32 : Int32) - fb = nI K9 := by rw [efb]; exact (pk_sub (a := 32) (b := 32 - K9) (by omega)).trans (by congr 1; omega)
            rw [elow]
            refine lv_istore (lv' := [(6, .int (nI K9)), (5, .ref a), (0, .ref x), (1, .int r), (2, .int t), (3, .int w), (4, .int n)]) hx hb dX4_bits_77 hl (by decide) rfl (fun ls hl => ?_)
            refine lv_iload hx hb dX4_bits_79 (lv_at hl 6 rfl) ?_
            refine lv_if_ne (tgt := 87) hx hb dX4_bits_81 (by decide) (fun c81 => ?_) (fun c81 => ?_)
            · exact absurd c37 c81
            · refine lv_bipush (v := 100) hx hb dX4_bits_84 (by decide) ?_
              have elb : ly (tPush T (some t.toNatClampNeg, w.toNatClampNeg, decide (n ≠ 0), 0, 0)) = (max (ly T).1 (P9 + 4), max (ly T).2.1 4, some (P9, K9 + w.toNatClampNeg), if decide (n ≠ 0) = true then (ly T).2.2.2 ++ [(P9, t.toNatClampNeg, K9, w.toNatClampNeg)] else (ly T).2.2.2) := (ly_push _ _).trans elS
              have hub : uOK (tK (tPush T (some t.toNatClampNeg, w.toNatClampNeg, decide (n ≠ 0), 0, 0)) == 4) (ly (tPush T (some t.toNatClampNeg, w.toNatClampNeg, decide (n ≠ 0), 0, 0))).2.2.1 up (if (if tK T = 4 then (1 : Int32) else 0) = 0 then fb - w else 0) := by
                rw [elb]
                exact uOK_bit (tK T == 4) P9 K9 w.toNatClampNeg eup (by omega) (by rw [ov_if, ← ew, efb])
              have e9 : fBit S r t w n = (100, S.set r.toNatClampNeg (tPush T (some t.toNatClampNeg, w.toNatClampNeg, decide (n ≠ 0), 0, 0))) := by
                simp only [fBit, hto]
                rw [if_neg hc2, if_neg hc3, if_neg hc4, if_neg (fun z => z c37)]
              have hml8 : (ly (tPush T (some t.toNatClampNeg, w.toNatClampNeg, decide (n ≠ 0), 0, 0))).2.2.2 = (ly T).2.2.2 := by rw [elb]; exact if_neg (by simp [c37])
              have hc9 := cX_rec (h := (wu h a (.inr (1, [.int (nI (tSz T)), .int (nI (tAl T)), .int (if tK T = 4 then 1 else 0), .ref (ml r.toNatClampNeg), .int (if tFi T = true then 0 else 1), .int (nI (ly T).1), .int up, .int (if (if tK T = 4 then (1 : Int32) else 0) = 0 then fb - w else 0)])))) (a := a) (T' := (tPush T (some t.toNatClampNeg, w.toNatClampNeg, decide (n ≠ 0), 0, 0))) (ml := ml r.toNatClampNeg) (mb := mb r.toNatClampNeg) (up := up) (fb := (if (if tK T = 4 then (1 : Int32) else 0) = 0 then fb - w else 0)) hk (by rw [wu_s, eA, eR]; rfl) hub (by rw [hml8]; exact hml9) (fun j y m hj hm => by
                rw [hml8] at hm
                have e8 := hmm j y m hj hm
                have n8 : y ≠ a := ne_e e8 ha (ne_c (by decide))
                rw [wu_n n8]
                exact e8)
              exact r_int hx hb hr hlocks hw dX4_bits_86 (Nat.le_of_ble_eq_true rfl) (Nat.le_of_ble_eq_true rfl) (⟨by rw [e9], by rw [e9]; exact ⟨_, _, _, _, _, _, DR_set hR0 (w_z hw) ha3 ha2 hk ha (wu_s _ _ _) (fun q hq => by rw [wu_n hq]) hc9⟩⟩)
          · obtain ⟨pl9, epl⟩ : ∃ p : Nat, p = (if (tK T == 4) = true then 0 else rup (ly T).1 4) := ⟨_, rfl⟩
            have hpl9 : pl9 ≤ 524292 := by { rw [epl]; have := rup_le (ly T).1 4; split <;> omega }
            have hplv : (if (if tK T = 4 then (1 : Int32) else 0) = 0 then nI (rup (ly T).1 4) else 0) = nI pl9 := by { rw [ov_if, epl]; split <;> rfl }
            have hU := bitsB (re := (ly T).1) hb1 hb2 huo (fun p k z => (hf4 p k z).1) (fun z => c57 (by rw [ew]; exact z))
            rw [← epl] at hU
            have elS := lyS_bit (t := t.toNatClampNeg) (b := decide (n ≠ 0)) (by omega) hU
            refine lv_aload hx hb dX4_bits_60 (lv_at hl 0 rfl) ?_
            refine w_call (va_runV (As := []) (rest := []) ⟨hx, hb, hml, hown, hts⟩ (c_beginUnit l g h a (ml r.toNatClampNeg) (tAl T) (ly T).1 pl9 (nI (tSz T)) (if tK T = 4 then 1 else 0) (if tFi T = true then 0 else 1) up fb ha (by omega) (by omega) hw5 hplv H.size) (cwV 0 hts gX4_bits_X0_beginUnit rfl rfl rfl (by decide +kernel) ⟨Nat.le_of_ble_eq_true rfl, Nat.le_of_ble_eq_true rfl⟩) ⟨pr_blind, w_recv hw ha rfl, pr_of hw⟩ rfl rfl hl.1 rfl (lv_room (Nat.le_of_ble_eq_true rfl)) dX4_bits_62 ⟨Nat.le_of_ble_eq_true rfl, Nat.le_of_ble_eq_true rfl⟩) hw (fun v h' H locs hp hw => ?_)
            obtain ⟨hgt9, rfl, rfl⟩ | ⟨hle9, rfl, rfl⟩ := hp
            · refine W.eq (g2 := F0 m 65 ls [.int 0]) rfl ?_
              refine lv_if_ne (tgt := 71) hx hb dX4_bits_65 (by decide) (fun c65 => ?_) (fun c65 => ?_)
              · exact absurd rfl c65
              · refine lv_bipush (v := (-4)) hx hb dX4_bits_68 (by decide) ?_
                have e9 : fBit S r t w n = (-4, S) := by
                  simp only [fBit, hto]
                  rw [if_neg hc2, if_neg hc3, if_pos (by rw [elS]; show 524288 < max _ _; omega)]
                exact r_int hx hb hr hlocks hw dX4_bits_70 (Nat.le_of_ble_eq_true rfl) (Nat.le_of_ble_eq_true rfl) (⟨by rw [e9], by rw [e9]; exact ⟨kl, ka, ty, ml, ma, mb, hR0⟩⟩)
            · refine W.eq (g2 := F0 m 65 ls [.int 1]) rfl ?_
              have eA : tAl (tPush T (some t.toNatClampNeg, w.toNatClampNeg, decide (n ≠ 0), 0, 0)) = max (tAl T) 4 := by
                show (lyS (tK T == 4) (ly T) _).2.1 = _
                rw [elS]
                show max _ _ = _
                omega
              have eR : (ly (tPush T (some t.toNatClampNeg, w.toNatClampNeg, decide (n ≠ 0), 0, 0))).1 = max (ly T).1 (pl9 + 4) := by
                rw [ly_push, elS]
              have hc4 : ¬ 524288 < (lyS (tK T == 4) (ly T) (some t.toNatClampNeg, w.toNatClampNeg, decide (n ≠ 0), 0, 0)).1 := by
                rw [elS]
                show ¬ 524288 < max _ _
                omega
              refine lv_if_ne (tgt := 71) hx hb dX4_bits_65 (by decide) (fun c65 => ?_) (fun c65 => ?_)
              · refine lv_aload hx hb dX4_bits_71 (lv_at hl 0 rfl) ?_
                refine lv_iload_n hx hb dX4_bits_73 rfl (lv_at hl 4 rfl) ?_
                refine w_call (va_runV (As := [.int w]) (rest := []) ⟨hx, hb, hml, hown, hts⟩ (c_takeBits l g (wu h a (.inr (1, [.int (nI (tSz T)), .int (nI (max (tAl T) 4)), .int (if tK T = 4 then 1 else 0), .ref (ml r.toNatClampNeg), .int (if tFi T = true then 0 else 1), .int (nI (max (ly T).1 (pl9 + 4))), .int (nI pl9), .int 32]))) a (ml r.toNatClampNeg) (nI (tSz T)) (nI (max (tAl T) 4)) (if tK T = 4 then 1 else 0) (if tFi T = true then 0 else 1) (nI (max (ly T).1 (pl9 + 4))) (nI pl9) 32 (wu_s _ _ _) w H.size) (cwV 1 hts gX4_bits_X0_takeBits rfl rfl rfl (by decide +kernel) ⟨Nat.le_of_ble_eq_true rfl, Nat.le_of_ble_eq_true rfl⟩) ⟨pr_blind, w_recv hw (wu_s _ _ _) rfl, pr_of hw⟩ rfl rfl hl.1 rfl (lv_room (Nat.le_of_ble_eq_true rfl)) dX4_bits_74 ⟨Nat.le_of_ble_eq_true rfl, Nat.le_of_ble_eq_true rfl⟩) hw (fun v h' H locs hp hw => ?_)
                obtain ⟨rfl, rfl⟩ := hp
                refine W.eq (g2 := F0 m 77 ls [.int (32 - 32)]) rfl ?_
                have elow : (32 : Int32) - 32 = nI 0 := by decide
                rw [elow]
                refine lv_istore (lv' := [(6, .int (nI 0)), (5, .ref a), (0, .ref x), (1, .int r), (2, .int t), (3, .int w), (4, .int n)]) hx hb dX4_bits_77 hl (by decide) rfl (fun ls hl => ?_)
                refine lv_iload hx hb dX4_bits_79 (lv_at hl 6 rfl) ?_
                refine lv_if_ne (tgt := 87) hx hb dX4_bits_81 (by decide) (fun c81 => ?_) (fun c81 => ?_)
                · exact absurd c37 c81
                · refine lv_bipush (v := 100) hx hb dX4_bits_84 (by decide) ?_
                  have elb : ly (tPush T (some t.toNatClampNeg, w.toNatClampNeg, decide (n ≠ 0), 0, 0)) = (max (ly T).1 (pl9 + 4), max (ly T).2.1 4, some (pl9, 0 + w.toNatClampNeg), if decide (n ≠ 0) = true then (ly T).2.2.2 ++ [(pl9, t.toNatClampNeg, 0, w.toNatClampNeg)] else (ly T).2.2.2) := (ly_push _ _).trans elS
                  have hub : uOK (tK (tPush T (some t.toNatClampNeg, w.toNatClampNeg, decide (n ≠ 0), 0, 0)) == 4) (ly (tPush T (some t.toNatClampNeg, w.toNatClampNeg, decide (n ≠ 0), 0, 0))).2.2.1 (nI pl9) (if (if tK T = 4 then (1 : Int32) else 0) = 0 then 32 - w else 0) := by
                    rw [elb]
                    exact uOK_bit (tK T == 4) pl9 0 w.toNatClampNeg rfl (by omega) (by rw [ov_if, ← ew]; rfl)
                  have e9 : fBit S r t w n = (100, S.set r.toNatClampNeg (tPush T (some t.toNatClampNeg, w.toNatClampNeg, decide (n ≠ 0), 0, 0))) := by
                    simp only [fBit, hto]
                    rw [if_neg hc2, if_neg hc3, if_neg hc4, if_neg (fun z => z c37)]
                  have hml8 : (ly (tPush T (some t.toNatClampNeg, w.toNatClampNeg, decide (n ≠ 0), 0, 0))).2.2.2 = (ly T).2.2.2 := by rw [elb]; exact if_neg (by simp [c37])
                  have hc9 := cX_rec (h := (wu (wu h a (.inr (1, [.int (nI (tSz T)), .int (nI (max (tAl T) 4)), .int (if tK T = 4 then 1 else 0), .ref (ml r.toNatClampNeg), .int (if tFi T = true then 0 else 1), .int (nI (max (ly T).1 (pl9 + 4))), .int (nI pl9), .int 32]))) a (.inr (1, [.int (nI (tSz T)), .int (nI (max (tAl T) 4)), .int (if tK T = 4 then 1 else 0), .ref (ml r.toNatClampNeg), .int (if tFi T = true then 0 else 1), .int (nI (max (ly T).1 (pl9 + 4))), .int (nI pl9), .int (if (if tK T = 4 then (1 : Int32) else 0) = 0 then 32 - w else 0)])))) (a := a) (T' := (tPush T (some t.toNatClampNeg, w.toNatClampNeg, decide (n ≠ 0), 0, 0))) (ml := ml r.toNatClampNeg) (mb := mb r.toNatClampNeg) (up := nI pl9) (fb := (if (if tK T = 4 then (1 : Int32) else 0) = 0 then 32 - w else 0)) hk (by rw [wu_s, eA, eR]; rfl) hub (by rw [hml8]; exact hml9) (fun j y m hj hm => by
                    rw [hml8] at hm
                    have e8 := hmm j y m hj hm
                    have n8 : y ≠ a := ne_e e8 ha (ne_c (by decide))
                    rw [wu_n n8, wu_n n8]
                    exact e8)
                  exact r_int hx hb hr hlocks hw dX4_bits_86 (Nat.le_of_ble_eq_true rfl) (Nat.le_of_ble_eq_true rfl) (⟨by rw [e9], by rw [e9]; exact ⟨_, _, _, _, _, _, DR_set hR0 (w_z hw) ha3 ha2 hk ha (wu_s _ _ _) (fun q hq => by rw [wu_n hq, wu_n hq]) hc9⟩⟩)
              · exact absurd c65 (by decide)
        · refine lv_aload hx hb dX4_bits_40 (lv_at hl 0 rfl) ?_
          refine w_call (va_runV (As := []) (rest := []) ⟨hx, hb, hml, hown, hts⟩ (c_hasAll l g h a (ml r.toNatClampNeg) (nI (tSz T)) (nI (tAl T)) (if tK T = 4 then 1 else 0) (if tFi T = true then 0 else 1) (nI (ly T).1) up fb ha (ma r.toNatClampNeg) (mb r.toNatClampNeg) hM H.size) (cwV 0 hts gX4_bits_X0_hasAllMembers rfl rfl rfl (by decide +kernel) ⟨Nat.le_of_ble_eq_true rfl, Nat.le_of_ble_eq_true rfl⟩) ⟨pr_blind, w_recv hw ha rfl, pr_of hw⟩ rfl rfl hl.1 rfl (lv_room (Nat.le_of_ble_eq_true rfl)) dX4_bits_42 ⟨Nat.le_of_ble_eq_true rfl, Nat.le_of_ble_eq_true rfl⟩) hw (fun v h' H locs hp hw => ?_)
          obtain ⟨rfl, rfl⟩ := hp
          refine W.eq (g2 := F0 m 45 ls [.int (if 100 ≤ (mb r.toNatClampNeg).length then 1 else 0)]) rfl ?_
          refine lv_if_eq (tgt := 51) hx hb dX4_bits_45 (by decide) (fun c45 => ?_) (fun c45 => ?_)
          · have hna9 : ¬ 100 ≤ (ly T).2.2.2.length := fun z => by rw [← hml9] at z; rw [if_pos z] at c45; exact absurd c45 (by decide)
            have hc3 : ¬ (n ≠ 0 ∧ 100 ≤ (ly T).2.2.2.length) := fun z => hna9 z.2
            refine lv_iload_n hx hb dX4_bits_51 rfl (lv_at hl 4 rfl) ?_
            refine lv_aload hx hb dX4_bits_52 (lv_at hl 0 rfl) ?_
            refine w_getN (ci := 1) (C := RX0) (T := TX0) (N := 8) (ref := "LayoutDesk$Compound") hx hb hts in_X4_bits_1 hown hw ha rfl 7 (by decide) (w_nw hw (w := .fieldLinkNest "LayoutDesk" 98 "LayoutDesk$Compound" "freeBits" "I" "LayoutDesk") (by decide +kernel)) (fun _ h9 => h9) rfl dX4_bits_54 ?_
            refine lv_icmp_le (tgt := 71) hx hb dX4_bits_57 (by decide) (fun c57 => ?_) (fun c57 => ?_)
            · obtain ⟨P9, K9, hun9, hu9, eup, efb, hkw, hU⟩ := bitsA (re := (ly T).1) hb1 hb2 huo (fun p k z => (hf4 p k z).1) (by rw [← ew]; exact c57)
              obtain ⟨-, -, hPr, hP4⟩ := hf4 P9 K9 hu9
              have elS := lyS_bit (t := t.toNatClampNeg) (b := decide (n ≠ 0)) (by omega) hU
              have eA : tAl (tPush T (some t.toNatClampNeg, w.toNatClampNeg, decide (n ≠ 0), 0, 0)) = tAl T := by
                show (lyS (tK T == 4) (ly T) _).2.1 = tAl T
                rw [elS]
                show max _ _ = _
                omega
              have eR : (ly (tPush T (some t.toNatClampNeg, w.toNatClampNeg, decide (n ≠ 0), 0, 0))).1 = (ly T).1 := by
                rw [ly_push, elS]
                show max _ _ = _
                omega
              have hc4 : ¬ 524288 < (lyS (tK T == 4) (ly T) (some t.toNatClampNeg, w.toNatClampNeg, decide (n ≠ 0), 0, 0)).1 := by
                rw [elS]
                show ¬ 524288 < max _ _
                omega
              refine lv_aload hx hb dX4_bits_71 (lv_at hl 0 rfl) ?_
              refine lv_iload_n hx hb dX4_bits_73 rfl (lv_at hl 4 rfl) ?_
              refine w_call (va_runV (As := [.int w]) (rest := []) ⟨hx, hb, hml, hown, hts⟩ (c_takeBits l g h a (ml r.toNatClampNeg) (nI (tSz T)) (nI (tAl T)) (if tK T = 4 then 1 else 0) (if tFi T = true then 0 else 1) (nI (ly T).1) up fb ha w H.size) (cwV 1 hts gX4_bits_X0_takeBits rfl rfl rfl (by decide +kernel) ⟨Nat.le_of_ble_eq_true rfl, Nat.le_of_ble_eq_true rfl⟩) ⟨pr_blind, w_recv hw ha rfl, pr_of hw⟩ rfl rfl hl.1 rfl (lv_room (Nat.le_of_ble_eq_true rfl)) dX4_bits_74 ⟨Nat.le_of_ble_eq_true rfl, Nat.le_of_ble_eq_true rfl⟩) hw (fun v h' H locs hp hw => ?_)
              obtain ⟨rfl, rfl⟩ := hp
              refine W.eq (g2 := F0 m 77 ls [.int (32 - fb)]) rfl ?_
              have elow : (32 : Int32) - fb = nI K9 := by rw [efb]; exact (pk_sub (a := 32) (b := 32 - K9) (by omega)).trans (by congr 1; omega)
              rw [elow]
              refine lv_istore (lv' := [(6, .int (nI K9)), (5, .ref a), (0, .ref x), (1, .int r), (2, .int t), (3, .int w), (4, .int n)]) hx hb dX4_bits_77 hl (by decide) rfl (fun ls hl => ?_)
              refine lv_iload hx hb dX4_bits_79 (lv_at hl 6 rfl) ?_
              refine lv_if_ne (tgt := 87) hx hb dX4_bits_81 (by decide) (fun c81 => ?_) (fun c81 => ?_)
              · refine lv_aload hx hb dX4_bits_87 (lv_at hl 1 rfl) ?_
                refine w_new (ci := 2) (C := RX1) (T := TX1) (N := 4) (fs := [.int 0, .int 0, .int 0, .int 0]) hx hb hts in_X4_bits_2 tyX1 tyX1_ok hown (hts (.classLink RX4 86 RX1) (by decide +kernel)) (hts (.instantiable RX1 4) (by decide +kernel)) (hts (.initialized RX1) (by decide +kernel)) hw rfl (fun j hj => by rcases (show j = 0 ∨ j = 1 ∨ j = 2 ∨ j = 3 by omega) with rfl | rfl | rfl | rfl <;> rfl) (Nat.le_of_ble_eq_true rfl) (Nat.le_of_ble_eq_true rfl) dX4_bits_89 (fun q H hq hw => ?_)
                refine lv_dup hx hb dX4_bits_92 rfl ?_
                refine lv_aload hx hb dX4_bits_93 (lv_at hl 1 rfl) ?_
                refine w_getN (ci := 1) (C := RX0) (T := TX0) (N := 8) (ref := "LayoutDesk$Compound") hx hb hts in_X4_bits_1 hown hw ((wu_n (ne_n (wu_s _ _ _) hq)).trans (wu_s _ _ _)) rfl 6 (by decide) (w_nw hw (w := .fieldLinkNest "LayoutDesk" 107 "LayoutDesk$Compound" "unitPlace" "I" "LayoutDesk") (by decide +kernel)) (fun _ h9 => h9) rfl dX4_bits_95 ?_
                refine lv_iload_n hx hb dX4_bits_98 rfl (lv_at hl 4 rfl) ?_
                refine lv_iload hx hb dX4_bits_99 (lv_at hl 0 rfl) ?_
                refine lv_iload_n hx hb dX4_bits_101 rfl (lv_at hl 5 rfl) ?_
                refine w_call (va_runI (As := [.int up, .int t, .int (nI K9), .int w]) (rest := [.ref q, .ref a]) ⟨hx, hb, hml, hown, hts⟩ (c_Member_init l g (wu (wu h a (.inr (1, [.int (nI (tSz T)), .int (nI (tAl T)), .int (if tK T = 4 then 1 else 0), .ref (ml r.toNatClampNeg), .int (if tFi T = true then 0 else 1), .int (nI (ly T).1), .int up, .int (if (if tK T = 4 then (1 : Int32) else 0) = 0 then fb - w else 0)]))) q (.inr (2, [.int 0, .int 0, .int 0, .int 0]))) q 0 0 0 0 up t (nI K9) w (wu_s _ _ _) H.size) (cwI 4 hts gX4_bits_X1_init rfl rfl rfl (hts (.initialized RX1) (by decide +kernel)) (hts (.methodLink RX4 88 yX1_init) (by decide +kernel)) (hts (.instanceMethod yX1_init) (by decide +kernel)) rfl (by decide +kernel) ⟨Nat.le_of_ble_eq_true rfl, Nat.le_of_ble_eq_true rfl⟩) ⟨pr_blind, pr_of hw⟩ rfl rfl hl.1 rfl (lv_room (Nat.le_of_ble_eq_true rfl)) dX4_bits_102 ⟨Nat.le_of_ble_eq_true rfl, Nat.le_of_ble_eq_true rfl⟩) hw (fun v h' H locs hp hw => ?_)
                obtain ⟨rfl, rfl⟩ := hp
                refine W.eq (g2 := F0 m 105 ls [.ref q, .ref a]) rfl ?_
                have hqh : h q = none := by
                  have z := hq
                  exact ((wu_n (ne_n (wu_s _ _ _) hq).symm).symm.trans (hq))
                have hWf : ∀ z, z ≠ a → z ≠ q → (wu (wu (wu h a (.inr (1, [.int (nI (tSz T)), .int (nI (tAl T)), .int (if tK T = 4 then 1 else 0), .ref (ml r.toNatClampNeg), .int (if tFi T = true then 0 else 1), .int (nI (ly T).1), .int up, .int (if (if tK T = 4 then (1 : Int32) else 0) = 0 then fb - w else 0)]))) q (.inr (2, [.int 0, .int 0, .int 0, .int 0]))) q (.inr (2, [.int up, .int t, .int (nI K9), .int w]))) z = h z := fun z z1 z2 => by
                  rw [wu_n z2, wu_n z2, wu_n z1]
                have hMW : AL g (wu (wu (wu h a (.inr (1, [.int (nI (tSz T)), .int (nI (tAl T)), .int (if tK T = 4 then 1 else 0), .ref (ml r.toNatClampNeg), .int (if tFi T = true then 0 else 1), .int (nI (ly T).1), .int up, .int (if (if tK T = 4 then (1 : Int32) else 0) = 0 then fb - w else 0)]))) q (.inr (2, [.int 0, .int 0, .int 0, .int 0]))) q (.inr (2, [.int up, .int t, .int (nI K9), .int w]))) (ml r.toNatClampNeg) (ma r.toNatClampNeg) (mb r.toNatClampNeg) := AL_kp (kp_mem ha ((wu_n (ne_n (wu_s _ _ _) hq)).trans ((wu_n (ne_n (wu_s _ _ _) hq)).trans (wu_s _ _ _))) hqh hWf (w_z hw)) hM
                obtain ⟨⟨mcW, hmW⟩, -, -⟩ := id hMW
                refine w_call (va_runV (As := [.ref q]) (rest := []) ⟨hx, hb, hml, hown, hts⟩ (c_Comp_enter l g (wu (wu (wu h a (.inr (1, [.int (nI (tSz T)), .int (nI (tAl T)), .int (if tK T = 4 then 1 else 0), .ref (ml r.toNatClampNeg), .int (if tFi T = true then 0 else 1), .int (nI (ly T).1), .int up, .int (if (if tK T = 4 then (1 : Int32) else 0) = 0 then fb - w else 0)]))) q (.inr (2, [.int 0, .int 0, .int 0, .int 0]))) q (.inr (2, [.int up, .int t, .int (nI K9), .int w]))) a (ml r.toNatClampNeg) (nI (tSz T)) (nI (tAl T)) (if tK T = 4 then 1 else 0) (if tFi T = true then 0 else 1) (nI (ly T).1) up (if (if tK T = 4 then (1 : Int32) else 0) = 0 then fb - w else 0) ((wu_n (ne_n (wu_s _ _ _) hq)).trans ((wu_n (ne_n (wu_s _ _ _) hq)).trans (wu_s _ _ _))) (ma r.toNatClampNeg) q (mb r.toNatClampNeg) hMW ⟨2, _, wu_s _ _ _, by decide, by decide⟩ (by omega) H.size) (cwV 1 hts gX4_bits_X0_enter rfl rfl rfl (by decide +kernel) ⟨Nat.le_of_ble_eq_true rfl, Nat.le_of_ble_eq_true rfl⟩) ⟨pr_blind, w_recv hw ((wu_n (ne_n (wu_s _ _ _) hq)).trans ((wu_n (ne_n (wu_s _ _ _) hq)).trans (wu_s _ _ _))) rfl, pr_of hw⟩ rfl rfl hl.1 rfl (lv_room (Nat.le_of_ble_eq_true rfl)) dX4_bits_105 ⟨Nat.le_of_ble_eq_true rfl, Nat.le_of_ble_eq_true rfl⟩) hw (fun v h' H locs hp hw => ?_)
                obtain ⟨ma', rfl, q1, q2, q3⟩ := hp
                refine W.eq (g2 := F0 m 108 ls [.int (nI (mb r.toNatClampNeg).length)]) rfl ?_
                have elb : ly (tPush T (some t.toNatClampNeg, w.toNatClampNeg, decide (n ≠ 0), 0, 0)) = (max (ly T).1 (P9 + 4), max (ly T).2.1 4, some (P9, K9 + w.toNatClampNeg), if decide (n ≠ 0) = true then (ly T).2.2.2 ++ [(P9, t.toNatClampNeg, K9, w.toNatClampNeg)] else (ly T).2.2.2) := (ly_push _ _).trans elS
                have hub : uOK (tK (tPush T (some t.toNatClampNeg, w.toNatClampNeg, decide (n ≠ 0), 0, 0)) == 4) (ly (tPush T (some t.toNatClampNeg, w.toNatClampNeg, decide (n ≠ 0), 0, 0))).2.2.1 up (if (if tK T = 4 then (1 : Int32) else 0) = 0 then fb - w else 0) := by
                  rw [elb]
                  exact uOK_bit (tK T == 4) P9 K9 w.toNatClampNeg eup (by omega) (by rw [ov_if, ← ew, efb])
                have e9 : fBit S r t w n = (nI (ly T).2.2.2.length, S.set r.toNatClampNeg (tPush T (some t.toNatClampNeg, w.toNatClampNeg, decide (n ≠ 0), 0, 0))) := by
                  simp only [fBit, hto]
                  rw [if_neg hc2, if_neg hc3, if_neg hc4, if_pos c37]
                have hml8 : (ly (tPush T (some t.toNatClampNeg, w.toNatClampNeg, decide (n ≠ 0), 0, 0))).2.2.2 = (ly T).2.2.2 ++ [(P9, t.toNatClampNeg, K9, w.toNatClampNeg)] := by rw [elb]; exact if_pos (decide_eq_true c37)
                exact r_int hx hb hr hlocks hw dX4_bits_108 (Nat.le_of_ble_eq_true rfl) (Nat.le_of_ble_eq_true rfl) (⟨by rw [e9, hml9], by rw [e9]; exact DR_mem (T' := (tPush T (some t.toNatClampNeg, w.toNatClampNeg, decide (n ≠ 0), 0, 0))) (mm := (P9, t.toNatClampNeg, K9, w.toNatClampNeg)) hR0 ha3 ha2 hk ha hqh (((wu_n (ne_n (wu_s _ _ _) hq)).trans ((wu_n (ne_n (wu_s _ _ _) hq)).trans (wu_s _ _ _))).trans (by rw [eA, eR]; rfl)) ((wu_s _ _ _).trans (by rw [← et, ← ew, eup])) hWf hMW (w_z hw) q1 q2 q3 hk hub hmm hml9 hml8⟩)
              · exact absurd c81 c37
            · obtain ⟨pl9, epl⟩ : ∃ p : Nat, p = (if (tK T == 4) = true then 0 else rup (ly T).1 4) := ⟨_, rfl⟩
              have hpl9 : pl9 ≤ 524292 := by { rw [epl]; have := rup_le (ly T).1 4; split <;> omega }
              have hplv : (if (if tK T = 4 then (1 : Int32) else 0) = 0 then nI (rup (ly T).1 4) else 0) = nI pl9 := by { rw [ov_if, epl]; split <;> rfl }
              have hU := bitsB (re := (ly T).1) hb1 hb2 huo (fun p k z => (hf4 p k z).1) (fun z => c57 (by rw [ew]; exact z))
              rw [← epl] at hU
              have elS := lyS_bit (t := t.toNatClampNeg) (b := decide (n ≠ 0)) (by omega) hU
              refine lv_aload hx hb dX4_bits_60 (lv_at hl 0 rfl) ?_
              refine w_call (va_runV (As := []) (rest := []) ⟨hx, hb, hml, hown, hts⟩ (c_beginUnit l g h a (ml r.toNatClampNeg) (tAl T) (ly T).1 pl9 (nI (tSz T)) (if tK T = 4 then 1 else 0) (if tFi T = true then 0 else 1) up fb ha (by omega) (by omega) hw5 hplv H.size) (cwV 0 hts gX4_bits_X0_beginUnit rfl rfl rfl (by decide +kernel) ⟨Nat.le_of_ble_eq_true rfl, Nat.le_of_ble_eq_true rfl⟩) ⟨pr_blind, w_recv hw ha rfl, pr_of hw⟩ rfl rfl hl.1 rfl (lv_room (Nat.le_of_ble_eq_true rfl)) dX4_bits_62 ⟨Nat.le_of_ble_eq_true rfl, Nat.le_of_ble_eq_true rfl⟩) hw (fun v h' H locs hp hw => ?_)
              obtain ⟨hgt9, rfl, rfl⟩ | ⟨hle9, rfl, rfl⟩ := hp
              · refine W.eq (g2 := F0 m 65 ls [.int 0]) rfl ?_
                refine lv_if_ne (tgt := 71) hx hb dX4_bits_65 (by decide) (fun c65 => ?_) (fun c65 => ?_)
                · exact absurd rfl c65
                · refine lv_bipush (v := (-4)) hx hb dX4_bits_68 (by decide) ?_
                  have e9 : fBit S r t w n = (-4, S) := by
                    simp only [fBit, hto]
                    rw [if_neg hc2, if_neg hc3, if_pos (by rw [elS]; show 524288 < max _ _; omega)]
                  exact r_int hx hb hr hlocks hw dX4_bits_70 (Nat.le_of_ble_eq_true rfl) (Nat.le_of_ble_eq_true rfl) (⟨by rw [e9], by rw [e9]; exact ⟨kl, ka, ty, ml, ma, mb, hR0⟩⟩)
              · refine W.eq (g2 := F0 m 65 ls [.int 1]) rfl ?_
                have eA : tAl (tPush T (some t.toNatClampNeg, w.toNatClampNeg, decide (n ≠ 0), 0, 0)) = max (tAl T) 4 := by
                  show (lyS (tK T == 4) (ly T) _).2.1 = _
                  rw [elS]
                  show max _ _ = _
                  omega
                have eR : (ly (tPush T (some t.toNatClampNeg, w.toNatClampNeg, decide (n ≠ 0), 0, 0))).1 = max (ly T).1 (pl9 + 4) := by
                  rw [ly_push, elS]
                have hc4 : ¬ 524288 < (lyS (tK T == 4) (ly T) (some t.toNatClampNeg, w.toNatClampNeg, decide (n ≠ 0), 0, 0)).1 := by
                  rw [elS]
                  show ¬ 524288 < max _ _
                  omega
                refine lv_if_ne (tgt := 71) hx hb dX4_bits_65 (by decide) (fun c65 => ?_) (fun c65 => ?_)
                · refine lv_aload hx hb dX4_bits_71 (lv_at hl 0 rfl) ?_
                  refine lv_iload_n hx hb dX4_bits_73 rfl (lv_at hl 4 rfl) ?_
                  refine w_call (va_runV (As := [.int w]) (rest := []) ⟨hx, hb, hml, hown, hts⟩ (c_takeBits l g (wu h a (.inr (1, [.int (nI (tSz T)), .int (nI (max (tAl T) 4)), .int (if tK T = 4 then 1 else 0), .ref (ml r.toNatClampNeg), .int (if tFi T = true then 0 else 1), .int (nI (max (ly T).1 (pl9 + 4))), .int (nI pl9), .int 32]))) a (ml r.toNatClampNeg) (nI (tSz T)) (nI (max (tAl T) 4)) (if tK T = 4 then 1 else 0) (if tFi T = true then 0 else 1) (nI (max (ly T).1 (pl9 + 4))) (nI pl9) 32 (wu_s _ _ _) w H.size) (cwV 1 hts gX4_bits_X0_takeBits rfl rfl rfl (by decide +kernel) ⟨Nat.le_of_ble_eq_true rfl, Nat.le_of_ble_eq_true rfl⟩) ⟨pr_blind, w_recv hw (wu_s _ _ _) rfl, pr_of hw⟩ rfl rfl hl.1 rfl (lv_room (Nat.le_of_ble_eq_true rfl)) dX4_bits_74 ⟨Nat.le_of_ble_eq_true rfl, Nat.le_of_ble_eq_true rfl⟩) hw (fun v h' H locs hp hw => ?_)
                  obtain ⟨rfl, rfl⟩ := hp
                  refine W.eq (g2 := F0 m 77 ls [.int (32 - 32)]) rfl ?_
                  have elow : (32 : Int32) - 32 = nI 0 := by decide
                  rw [elow]
                  refine lv_istore (lv' := [(6, .int (nI 0)), (5, .ref a), (0, .ref x), (1, .int r), (2, .int t), (3, .int w), (4, .int n)]) hx hb dX4_bits_77 hl (by decide) rfl (fun ls hl => ?_)
                  refine lv_iload hx hb dX4_bits_79 (lv_at hl 6 rfl) ?_
                  refine lv_if_ne (tgt := 87) hx hb dX4_bits_81 (by decide) (fun c81 => ?_) (fun c81 => ?_)
                  · refine lv_aload hx hb dX4_bits_87 (lv_at hl 1 rfl) ?_
                    refine w_new (ci := 2) (C := RX1) (T := TX1) (N := 4) (fs := [.int 0, .int 0, .int 0, .int 0]) hx hb hts in_X4_bits_2 tyX1 tyX1_ok hown (hts (.classLink RX4 86 RX1) (by decide +kernel)) (hts (.instantiable RX1 4) (by decide +kernel)) (hts (.initialized RX1) (by decide +kernel)) hw rfl (fun j hj => by rcases (show j = 0 ∨ j = 1 ∨ j = 2 ∨ j = 3 by omega) with rfl | rfl | rfl | rfl <;> rfl) (Nat.le_of_ble_eq_true rfl) (Nat.le_of_ble_eq_true rfl) dX4_bits_89 (fun q H hq hw => ?_)
                    refine lv_dup hx hb dX4_bits_92 rfl ?_
                    refine lv_aload hx hb dX4_bits_93 (lv_at hl 1 rfl) ?_
                    refine w_getN (ci := 1) (C := RX0) (T := TX0) (N := 8) (ref := "LayoutDesk$Compound") hx hb hts in_X4_bits_1 hown hw ((wu_n (ne_n (wu_s _ _ _) hq)).trans (wu_s _ _ _)) rfl 6 (by decide) (w_nw hw (w := .fieldLinkNest "LayoutDesk" 107 "LayoutDesk$Compound" "unitPlace" "I" "LayoutDesk") (by decide +kernel)) (fun _ h9 => h9) rfl dX4_bits_95 ?_
                    refine lv_iload_n hx hb dX4_bits_98 rfl (lv_at hl 4 rfl) ?_
                    refine lv_iload hx hb dX4_bits_99 (lv_at hl 0 rfl) ?_
                    refine lv_iload_n hx hb dX4_bits_101 rfl (lv_at hl 5 rfl) ?_
                    refine w_call (va_runI (As := [.int (nI pl9), .int t, .int (nI 0), .int w]) (rest := [.ref q, .ref a]) ⟨hx, hb, hml, hown, hts⟩ (c_Member_init l g (wu (wu (wu h a (.inr (1, [.int (nI (tSz T)), .int (nI (max (tAl T) 4)), .int (if tK T = 4 then 1 else 0), .ref (ml r.toNatClampNeg), .int (if tFi T = true then 0 else 1), .int (nI (max (ly T).1 (pl9 + 4))), .int (nI pl9), .int 32]))) a (.inr (1, [.int (nI (tSz T)), .int (nI (max (tAl T) 4)), .int (if tK T = 4 then 1 else 0), .ref (ml r.toNatClampNeg), .int (if tFi T = true then 0 else 1), .int (nI (max (ly T).1 (pl9 + 4))), .int (nI pl9), .int (if (if tK T = 4 then (1 : Int32) else 0) = 0 then 32 - w else 0)]))) q (.inr (2, [.int 0, .int 0, .int 0, .int 0]))) q 0 0 0 0 (nI pl9) t (nI 0) w (wu_s _ _ _) H.size) (cwI 4 hts gX4_bits_X1_init rfl rfl rfl (hts (.initialized RX1) (by decide +kernel)) (hts (.methodLink RX4 88 yX1_init) (by decide +kernel)) (hts (.instanceMethod yX1_init) (by decide +kernel)) rfl (by decide +kernel) ⟨Nat.le_of_ble_eq_true rfl, Nat.le_of_ble_eq_true rfl⟩) ⟨pr_blind, pr_of hw⟩ rfl rfl hl.1 rfl (lv_room (Nat.le_of_ble_eq_true rfl)) dX4_bits_102 ⟨Nat.le_of_ble_eq_true rfl, Nat.le_of_ble_eq_true rfl⟩) hw (fun v h' H locs hp hw => ?_)
                    obtain ⟨rfl, rfl⟩ := hp
                    refine W.eq (g2 := F0 m 105 ls [.ref q, .ref a]) rfl ?_
                    have hqh : h q = none := by
                      have z := hq
                      exact ((wu_n (ne_n (wu_s _ _ _) hq).symm).symm.trans ((wu_n (ne_n (wu_s _ _ _) hq).symm).symm.trans (hq)))
                    have hWf : ∀ z, z ≠ a → z ≠ q → (wu (wu (wu (wu h a (.inr (1, [.int (nI (tSz T)), .int (nI (max (tAl T) 4)), .int (if tK T = 4 then 1 else 0), .ref (ml r.toNatClampNeg), .int (if tFi T = true then 0 else 1), .int (nI (max (ly T).1 (pl9 + 4))), .int (nI pl9), .int 32]))) a (.inr (1, [.int (nI (tSz T)), .int (nI (max (tAl T) 4)), .int (if tK T = 4 then 1 else 0), .ref (ml r.toNatClampNeg), .int (if tFi T = true then 0 else 1), .int (nI (max (ly T).1 (pl9 + 4))), .int (nI pl9), .int (if (if tK T = 4 then (1 : Int32) else 0) = 0 then 32 - w else 0)]))) q (.inr (2, [.int 0, .int 0, .int 0, .int 0]))) q (.inr (2, [.int (nI pl9), .int t, .int (nI 0), .int w]))) z = h z := fun z z1 z2 => by
                      rw [wu_n z2, wu_n z2, wu_n z1, wu_n z1]
                    have hMW : AL g (wu (wu (wu (wu h a (.inr (1, [.int (nI (tSz T)), .int (nI (max (tAl T) 4)), .int (if tK T = 4 then 1 else 0), .ref (ml r.toNatClampNeg), .int (if tFi T = true then 0 else 1), .int (nI (max (ly T).1 (pl9 + 4))), .int (nI pl9), .int 32]))) a (.inr (1, [.int (nI (tSz T)), .int (nI (max (tAl T) 4)), .int (if tK T = 4 then 1 else 0), .ref (ml r.toNatClampNeg), .int (if tFi T = true then 0 else 1), .int (nI (max (ly T).1 (pl9 + 4))), .int (nI pl9), .int (if (if tK T = 4 then (1 : Int32) else 0) = 0 then 32 - w else 0)]))) q (.inr (2, [.int 0, .int 0, .int 0, .int 0]))) q (.inr (2, [.int (nI pl9), .int t, .int (nI 0), .int w]))) (ml r.toNatClampNeg) (ma r.toNatClampNeg) (mb r.toNatClampNeg) := AL_kp (kp_mem ha ((wu_n (ne_n (wu_s _ _ _) hq)).trans ((wu_n (ne_n (wu_s _ _ _) hq)).trans (wu_s _ _ _))) hqh hWf (w_z hw)) hM
                    obtain ⟨⟨mcW, hmW⟩, -, -⟩ := id hMW
                    refine w_call (va_runV (As := [.ref q]) (rest := []) ⟨hx, hb, hml, hown, hts⟩ (c_Comp_enter l g (wu (wu (wu (wu h a (.inr (1, [.int (nI (tSz T)), .int (nI (max (tAl T) 4)), .int (if tK T = 4 then 1 else 0), .ref (ml r.toNatClampNeg), .int (if tFi T = true then 0 else 1), .int (nI (max (ly T).1 (pl9 + 4))), .int (nI pl9), .int 32]))) a (.inr (1, [.int (nI (tSz T)), .int (nI (max (tAl T) 4)), .int (if tK T = 4 then 1 else 0), .ref (ml r.toNatClampNeg), .int (if tFi T = true then 0 else 1), .int (nI (max (ly T).1 (pl9 + 4))), .int (nI pl9), .int (if (if tK T = 4 then (1 : Int32) else 0) = 0 then 32 - w else 0)]))) q (.inr (2, [.int 0, .int 0, .int 0, .int 0]))) q (.inr (2, [.int (nI pl9), .int t, .int (nI 0), .int w]))) a (ml r.toNatClampNeg) (nI (tSz T)) (nI (max (tAl T) 4)) (if tK T = 4 then 1 else 0) (if tFi T = true then 0 else 1) (nI (max (ly T).1 (pl9 + 4))) (nI pl9) (if (if tK T = 4 then (1 : Int32) else 0) = 0 then 32 - w else 0) ((wu_n (ne_n (wu_s _ _ _) hq)).trans ((wu_n (ne_n (wu_s _ _ _) hq)).trans (wu_s _ _ _))) (ma r.toNatClampNeg) q (mb r.toNatClampNeg) hMW ⟨2, _, wu_s _ _ _, by decide, by decide⟩ (by omega) H.size) (cwV 1 hts gX4_bits_X0_enter rfl rfl rfl (by decide +kernel) ⟨Nat.le_of_ble_eq_true rfl, Nat.le_of_ble_eq_true rfl⟩) ⟨pr_blind, w_recv hw ((wu_n (ne_n (wu_s _ _ _) hq)).trans ((wu_n (ne_n (wu_s _ _ _) hq)).trans (wu_s _ _ _))) rfl, pr_of hw⟩ rfl rfl hl.1 rfl (lv_room (Nat.le_of_ble_eq_true rfl)) dX4_bits_105 ⟨Nat.le_of_ble_eq_true rfl, Nat.le_of_ble_eq_true rfl⟩) hw (fun v h' H locs hp hw => ?_)
                    obtain ⟨ma', rfl, q1, q2, q3⟩ := hp
                    refine W.eq (g2 := F0 m 108 ls [.int (nI (mb r.toNatClampNeg).length)]) rfl ?_
                    have elb : ly (tPush T (some t.toNatClampNeg, w.toNatClampNeg, decide (n ≠ 0), 0, 0)) = (max (ly T).1 (pl9 + 4), max (ly T).2.1 4, some (pl9, 0 + w.toNatClampNeg), if decide (n ≠ 0) = true then (ly T).2.2.2 ++ [(pl9, t.toNatClampNeg, 0, w.toNatClampNeg)] else (ly T).2.2.2) := (ly_push _ _).trans elS
                    have hub : uOK (tK (tPush T (some t.toNatClampNeg, w.toNatClampNeg, decide (n ≠ 0), 0, 0)) == 4) (ly (tPush T (some t.toNatClampNeg, w.toNatClampNeg, decide (n ≠ 0), 0, 0))).2.2.1 (nI pl9) (if (if tK T = 4 then (1 : Int32) else 0) = 0 then 32 - w else 0) := by
                      rw [elb]
                      exact uOK_bit (tK T == 4) pl9 0 w.toNatClampNeg rfl (by omega) (by rw [ov_if, ← ew]; rfl)
                    have e9 : fBit S r t w n = (nI (ly T).2.2.2.length, S.set r.toNatClampNeg (tPush T (some t.toNatClampNeg, w.toNatClampNeg, decide (n ≠ 0), 0, 0))) := by
                      simp only [fBit, hto]
                      rw [if_neg hc2, if_neg hc3, if_neg hc4, if_pos c37]
                    have hml8 : (ly (tPush T (some t.toNatClampNeg, w.toNatClampNeg, decide (n ≠ 0), 0, 0))).2.2.2 = (ly T).2.2.2 ++ [(pl9, t.toNatClampNeg, 0, w.toNatClampNeg)] := by rw [elb]; exact if_pos (decide_eq_true c37)
                    exact r_int hx hb hr hlocks hw dX4_bits_108 (Nat.le_of_ble_eq_true rfl) (Nat.le_of_ble_eq_true rfl) (⟨by rw [e9, hml9], by rw [e9]; exact DR_mem (T' := (tPush T (some t.toNatClampNeg, w.toNatClampNeg, decide (n ≠ 0), 0, 0))) (mm := (pl9, t.toNatClampNeg, 0, w.toNatClampNeg)) hR0 ha3 ha2 hk ha hqh (((wu_n (ne_n (wu_s _ _ _) hq)).trans ((wu_n (ne_n (wu_s _ _ _) hq)).trans (wu_s _ _ _))).trans (by rw [eA, eR]; rfl)) ((wu_s _ _ _).trans (by rw [← et, ← ew])) hWf hMW (w_z hw) q1 q2 q3 hk hub hmm hml9 hml8⟩)
                  · exact absurd c81 c37
                · exact absurd c65 (by decide)
          · have hal9 : 100 ≤ (ly T).2.2.2.length := by
              rw [← hml9]
              by_cases z : 100 ≤ (mb r.toNatClampNeg).length
              · exact z
              · rw [if_neg z] at c45
                exact absurd rfl c45
            refine lv_bipush (v := (-3)) hx hb dX4_bits_48 (by decide) ?_
            have e9 : fBit S r t w n = (-3, S) := by
              simp only [fBit, hto]
              rw [if_neg hc2, if_pos ⟨c37, hal9⟩]
            exact r_int hx hb hr hlocks hw dX4_bits_50 (Nat.le_of_ble_eq_true rfl) (Nat.le_of_ble_eq_true rfl) (⟨by rw [e9], by rw [e9]; exact ⟨kl, ka, ty, ml, ma, mb, hR0⟩⟩)
      · refine lv_bipush (v := (-2)) hx hb dX4_bits_32 (by decide) ?_
        have e9 : fBit S r t w n = (-2, S) := by
          simp only [fBit, hto]
          rw [if_pos (Or.inr (Or.inr (Int32.not_le.mp c29)))]
        exact r_int hx hb hr hlocks hw dX4_bits_34 (Nat.le_of_ble_eq_true rfl) (Nat.le_of_ble_eq_true rfl) (⟨by rw [e9], by rw [e9]; exact ⟨kl, ka, ty, ml, ma, mb, hR0⟩⟩)
theorem d_bits (l : Launch) (g : GG) (h : Nat → Option va_E) (x : Nat) (S : List TyS) (N : Nat) (hR : DR g h x S) (hS : wfS N S) (r t w n : Int32) : Con l yX4_bits wsX4_bits 8 192 2 804 [.ref x, .int r, .int t, .int w, .int n] g h (fun v h' => v = some (.int (fBit S r t w n).1) ∧ DR g h' x (fBit S r t w n).2) := by
  cases hto : lkO S r with
  | none => exact d_bits_N l g h x S N hR hS r t w n hto
  | some T => exact d_bits_O l g h x S N hR hS r t w n T hto
