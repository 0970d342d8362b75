/-! the JDK methods: growing, adding, taking away -/
set_option maxHeartbeats 4000000 in
set_option maxRecDepth 100000 in
theorem c_newLen (l : Launch) (g : GG) (h : Nat → Option va_E) (n : Nat) (h2 : n ≤ 530) : Con l yJ8_newLength_cabcc wsJ8_newLength_cabcc 1 20 0 0 [.int (nI n), .int (nI 1), .int (nI (n / 2))] g h (fun v h' => v = some (.int (nI (gcap n))) ∧ h = h') := by
  refine m_start (cc := cJ8_newLength_cabcc) (maxL := 4) (ret := (some .int)) (by decide) rfl (Nat.le_of_ble_eq_true rfl) ?_
  intro p e s m below meth c A ls hx hb hr hml hts hown hlocks hin hw hl
  have hl : lv_has ls 4 [(0, .int (nI n)), (1, .int (nI 1)), (2, .int (nI (n / 2)))] := hl
  have hown : s.vm.findClass RJ8 = some m.cls := hown
  refine lv_iload_n hx hb dJ8_newLength_cabcc_0 rfl (lv_at hl 0 rfl) ?_
  refine lv_iload_n hx hb dJ8_newLength_cabcc_1 rfl (lv_at hl 1 rfl) ?_
  refine lv_iload_n hx hb dJ8_newLength_cabcc_2 rfl (lv_at hl 2 rfl) ?_
  refine va_mmax hx hb (hml.trans hl.1.symm) hown (hts (.methodLink RJ8 194 Lib.Math.max.name) (by decide +kernel)) (hts (.static Lib.Math.max.name) (by decide +kernel)) (hts (.initialized "java/lang/Math") (by decide +kernel)) (hts _ (List.mem_of_getElem? (i := 4) rfl)) (Nat.le_of_ble_eq_true rfl) (Nat.le_of_ble_eq_true rfl) (Nat.le_of_ble_eq_true rfl) (Nat.le_of_ble_eq_true rfl) dJ8_newLength_cabcc_3 ?_
  refine lv_iadd hx hb dJ8_newLength_cabcc_6 ?_
  refine lv_topi (fun x3 ex3 => ?_)
  have ex3 : x3 = nI (gcap n) := ex3.trans (gcap_eq (by omega))
  refine lv_istore_n (lv' := [(3, .int x3), (0, .int (nI n)), (1, .int (nI 1)), (2, .int (nI (n / 2)))]) hx hb dJ8_newLength_cabcc_7 rfl hl (by decide) rfl (fun ls hl => ?_)
  refine lv_iconst (v := 0) hx hb dJ8_newLength_cabcc_8 (by decide) ?_
  refine lv_iload_n hx hb dJ8_newLength_cabcc_9 rfl (lv_at hl 0 rfl) ?_
  refine lv_icmp_ge (tgt := 21) hx hb dJ8_newLength_cabcc_10 (by decide) (fun c10 => ?_) (fun c10 => ?_)
  · rw [ex3] at c10
    exact absurd c10 (nI_nle (by have := gcap_lt n; omega) (by have := gcap_le h2; omega))
  · refine lv_iload_n hx hb dJ8_newLength_cabcc_13 rfl (lv_at hl 0 rfl) ?_
    refine lv_ldc (v := 2147483639) hx hb hown (hts (.constant RJ8 200 (2147483639)) (by decide +kernel)) dJ8_newLength_cabcc_14 ?_
    refine lv_icmp_gt (tgt := 21) hx hb dJ8_newLength_cabcc_16 (by decide) (fun c16 => ?_) (fun c16 => ?_)
    · rw [ex3] at c16
      exact absurd c16 (show ¬ nI 2147483639 < nI (gcap n) from nI_nlt (by have := gcap_le h2; omega) (by decide))
    · refine lv_iload_n hx hb dJ8_newLength_cabcc_19 rfl (lv_at hl 0 rfl) ?_
      exact r_int hx hb hr hlocks hw dJ8_newLength_cabcc_20 (Nat.le_of_ble_eq_true rfl) (Nat.le_of_ble_eq_true rfl) (⟨by rw [ex3], rfl⟩)
set_option maxHeartbeats 4000000 in
set_option maxRecDepth 100000 in
theorem c_copy3 (l : Launch) (g : GG) (h : Nat → Option va_E) (arr n m' : Nat) (f : Nat → Option Nat) (k : Int32) (ek : k = nI m') (hr0 : h arr = some (arO g n f)) (hel : ∀ i, i < n → ∀ y, f i = some y → isE h y) (h1 : n ≤ m') (h2 : m' ≤ 800) : Con l yJ7_copyOf_6403c wsJ7_copyOf_6403c 1 40 1 800 [.ref arr, .int k, .ref (gM g)] g h (fun v h' => ∃ q : Nat, h q = none ∧ v = some (.ref q) ∧ h' = wu h q (arO g m' (va_cpy f (fun _ => none) 0 0 n))) := by
  refine m_start (cc := cJ7_copyOf_6403c) (maxL := 4) (ret := (some (.array (.object "java/lang/Object")))) (by decide) rfl (Nat.le_of_ble_eq_true rfl) ?_
  intro p e s m below meth c A ls hx hb hr hml hts hown hlocks hin hw hl
  have hl : lv_has ls 4 [(0, .ref arr), (1, .int k), (2, .ref (gM g))] := hl
  have hown : s.vm.findClass RJ7 = some m.cls := hown
  refine lv_aload_n hx hb dJ7_copyOf_6403c_0 rfl (lv_at hl 2 rfl) ?_
  refine va_ldcM hx hb hown (hts (.classLink RJ7 110 "[Ljava/lang/Object;") (by decide +kernel)) hw.2.2.2.2.2.2.2.2.1 dJ7_copyOf_6403c_1 ?_
  refine lv_acmp_ne (rx := some (gM g)) (ry := some (gM g)) (tgt := 13) hx hb dJ7_copyOf_6403c_3 (by decide) (fun c0 => absurd rfl c0) (fun _ => ?_)
  refine lv_iload_n hx hb dJ7_copyOf_6403c_6 rfl (lv_at hl 1 rfl) ?_
  refine w_newq (N' := m') hx hb hown (hts (.classLink RJ7 2 "java/lang/Object") (by decide +kernel)) hw (by rw [ek]; exact nI_pos (by omega)) (by rw [ek]; exact nI_clamp (by omega)) (by omega) (Nat.le_of_ble_eq_true rfl) (by show 0 + m' ≤ 800; omega) dJ7_copyOf_6403c_7 (fun q H hq hw => ?_)
  refine W.widen (k := 1) (n := 800) (by omega) (by omega) ?_
  refine lv_goto (tgt := 24) hx hb dJ7_copyOf_6403c_10 (by decide) ?_
  refine lv_astore_n (lv' := [(3, .ref q), (0, .ref arr), (1, .int k), (2, .ref (gM g))]) hx hb dJ7_copyOf_6403c_24 rfl hl (by decide) rfl (fun ls hl => ?_)
  refine lv_aload_n hx hb dJ7_copyOf_6403c_25 rfl (lv_at hl 1 rfl) ?_
  refine lv_iconst (v := 0) hx hb dJ7_copyOf_6403c_26 (by decide) ?_
  refine lv_aload_n hx hb dJ7_copyOf_6403c_27 rfl (lv_at hl 0 rfl) ?_
  refine lv_iconst (v := 0) hx hb dJ7_copyOf_6403c_28 (by decide) ?_
  refine lv_aload_n hx hb dJ7_copyOf_6403c_29 rfl (lv_at hl 1 rfl) ?_
  refine w_alenO (v := nI n) hx hb hw ((wu_n (ne_n hr0 hq)).trans hr0) rfl dJ7_copyOf_6403c_30 ?_
  refine lv_iload_n hx hb dJ7_copyOf_6403c_31 rfl (lv_at hl 2 rfl) ?_
  refine va_mmin hx hb (hml.trans hl.1.symm) hown (hts (.methodLink RJ7 304 Lib.Math.min.name) (by decide +kernel)) (hts (.static Lib.Math.min.name) (by decide +kernel)) (hts (.initialized "java/lang/Math") (by decide +kernel)) (hts _ (List.mem_of_getElem? (i := 6) rfl)) (Nat.le_of_ble_eq_true rfl) (Nat.le_of_ble_eq_true rfl) (Nat.le_of_ble_eq_true rfl) (Nat.le_of_ble_eq_true rfl) dJ7_copyOf_6403c_32 ?_
  refine lv_topi (fun x4 ex4 => ?_)
  have ex4 : x4 = nI n := ex4.trans (by rw [ek]; exact if_neg (nI_nlt h1 (by omega)))
  refine w_copy hx hb (hml.trans hl.1.symm) hown (hts (.methodLink RJ7 150 arraycopyName) (by decide +kernel)) (hts (.native arraycopyName) (by decide +kernel)) (hts (.static arraycopyName) (by decide +kernel)) (hts (.initialized "java/lang/System") (by decide +kernel)) hw ((wu_n (ne_n hr0 hq)).trans hr0) (wu_s _ _ _) (by decide) (by decide) (by rw [ex4]; exact nI_pos (by omega)) (by rw [ex4, sb_cl0, nI_clamp (by omega)]; omega) (by rw [ex4, sb_cl0, nI_clamp (by omega)]; omega) (fun i hi y hy => isE_wu hq (hel i (by rw [ex4, nI_clamp (by omega)] at hi; exact hi) y (by rw [sb_cl0, Nat.zero_add] at hy; exact hy))) (Nat.le_of_ble_eq_true rfl) (Nat.le_of_ble_eq_true rfl) dJ7_copyOf_6403c_35 (fun H locs hw => ?_)
  refine lv_aload_n hx hb dJ7_copyOf_6403c_38 rfl (lv_at hl 0 rfl) ?_
  exact r_ref hx hb hr (Or.inr ⟨_, rfl⟩) (Or.inr ⟨_, rfl⟩) hlocks hw dJ7_copyOf_6403c_39 (Nat.le_of_ble_eq_true rfl) (Nat.le_of_ble_eq_true rfl) (⟨q, hq, rfl, by rw [wu_uu, ex4, sb_cl0, nI_clamp (by omega)]⟩)
set_option maxHeartbeats 4000000 in
set_option maxRecDepth 100000 in
theorem c_copy2 (l : Launch) (g : GG) (h : Nat → Option va_E) (arr n m' : Nat) (f : Nat → Option Nat) (k : Int32) (ek : k = nI m') (hr0 : h arr = some (arO g n f)) (hel : ∀ i, i < n → ∀ y, f i = some y → isE h y) (h1 : n ≤ m') (h2 : m' ≤ 800) : Con l yJ7_copyOf_1904c wsJ7_copyOf_1904c 2 63 1 800 [.ref arr, .int k] g h (fun v h' => ∃ q : Nat, h q = none ∧ v = some (.ref q) ∧ h' = wu h q (arO g m' (va_cpy f (fun _ => none) 0 0 n))) := by
  refine m_start (cc := cJ7_copyOf_1904c) (maxL := 2) (ret := (some (.array (.object "java/lang/Object")))) (by decide) rfl (Nat.le_of_ble_eq_true rfl) ?_
  intro p e s m below meth c A ls hx hb hr hml hts hown hlocks hin hw hl
  have hl : lv_has ls 2 [(0, .ref arr), (1, .int k)] := hl
  have hown : s.vm.findClass RJ7 = some m.cls := hown
  refine lv_aload_n hx hb dJ7_copyOf_1904c_0 rfl (lv_at hl 0 rfl) ?_
  refine lv_iload_n hx hb dJ7_copyOf_1904c_1 rfl (lv_at hl 1 rfl) ?_
  refine lv_aload_n hx hb dJ7_copyOf_1904c_2 rfl (lv_at hl 0 rfl) ?_
  refine va_getC (C := "[Ljava/lang/Object;") hx hb (hml.trans hl.1.symm) hown (hts (.methodLink RJ7 86 ⟨"java/lang/Object", "getClass", "()Ljava/lang/Class;"⟩) (by decide +kernel)) (va_Dc.use hw.2.2.2.2.2.2.2.2.2.1) (hts (.selects "[Ljava/lang/Object;" ⟨"java/lang/Object", "getClass", "()Ljava/lang/Class;"⟩ ⟨"java/lang/Object", "getClass", "()Ljava/lang/Class;"⟩) (by decide +kernel)) (hts (.instanceMethod ⟨"java/lang/Object", "getClass", "()Ljava/lang/Class;"⟩) (by decide +kernel)) (hts (.native ⟨"java/lang/Object", "getClass", "()Ljava/lang/Class;"⟩) (by decide +kernel)) hw.2.2.2.2.2.2.2.2.1 (w_recvA hw hr0) (Nat.le_of_ble_eq_true rfl) (Nat.le_of_ble_eq_true rfl) dJ7_copyOf_1904c_3 ?_
  refine w_call (va_runS (As := [.ref arr, .int k, .ref (gM g)]) (rest := []) ⟨hx, hb, hml, hown, hts⟩ (c_copy3 l g h arr n m' f k ek hr0 hel h1 h2 s.heap.size) (va_cwS 3 hts gJ7_copyOf_1904c_J7_copyOf_6403c rfl rfl rfl (by decide +kernel) ⟨Nat.le_of_ble_eq_true rfl, Nat.le_of_ble_eq_true rfl⟩) ⟨pr_blind, pr_of hw⟩ rfl rfl hl.1 rfl (lv_room (Nat.le_of_ble_eq_true rfl)) dJ7_copyOf_1904c_6 ⟨Nat.le_of_ble_eq_true rfl, Nat.le_of_ble_eq_true rfl⟩) hw (fun v h' H locs hp hw => ?_)
  obtain ⟨q, hq, rfl, rfl⟩ := hp
  refine W.eq (g2 := F0 m 9 ls [.ref q]) rfl ?_
  exact r_ref hx hb hr (Or.inr ⟨_, rfl⟩) (Or.inr ⟨_, rfl⟩) hlocks hw dJ7_copyOf_1904c_9 (Nat.le_of_ble_eq_true rfl) (Nat.le_of_ble_eq_true rfl) (⟨q, hq, rfl, rfl⟩)
theorem in_Jx4a65c_grow_92f84_0 : ∀ w ∈ u_ws RJx4a65c TJx4a65c 3, w ∈ wsJx4a65c_grow_92f84 := by decide +kernel
set_option maxHeartbeats 4000000 in
set_option maxRecDepth 100000 in
theorem c_AL_growF (l : Launch) (g : GG) (h : Nat → Option va_E) (mc : Int32) (a arr n : Nat) (f : Nat → Option Nat) (k : Int32) (ek : k = nI (n + 1)) (ha : h a = some (oAL mc arr (nI n))) (hr0 : h arr = some (arO g n f)) (h1 : 1 ≤ n) (h2 : n ≤ 530) (hel : ∀ i, i < n → ∀ y, f i = some y → isE h y) : Con l yJx4a65c_grow_92f84 wsJx4a65c_grow_92f84 3 84 1 800 [.ref a, .int k] g h (fun v h' => ∃ (q cap' : Nat) (f' : Nat → Option Nat), h q = none ∧ v = some (.ref q) ∧ h' = wu (wu h q (arO g cap' f')) a (oAL mc q (nI n)) ∧ n < cap' ∧ cap' ≤ 800 ∧ ∀ i, i < n → f' i = f i) := by
  refine m_start (cc := cJx4a65c_grow_92f84) (maxL := 4) (ret := (some (.array (.object "java/lang/Object")))) (by decide) rfl (Nat.le_of_ble_eq_true rfl) ?_
  intro p e s m below meth c A ls hx hb hr hml hts hown hlocks hin hw hl
  have hl : lv_has ls 4 [(0, .ref a), (1, .int k)] := hl
  have hown : s.vm.findClass RJx4a65c = some m.cls := hown
  refine lv_aload_n hx hb dJx4a65c_grow_92f84_0 rfl (lv_at hl 0 rfl) ?_
  refine w_get (ci := 0) (C := RJx4a65c) (T := TJx4a65c) (N := 3) (ref := "java/util/ArrayList") hx hb hts in_Jx4a65c_grow_92f84_0 hown hw ha rfl 1 (by decide) (hts (.fieldLink RJx4a65c 9 "java/util/ArrayList" "elementData" "[Ljava/lang/Object;") (by decide +kernel)) (fun _ h9 => h9) rfl dJx4a65c_grow_92f84_1 ?_
  refine w_alenO (v := nI n) hx hb hw hr0 rfl dJx4a65c_grow_92f84_4 ?_
  refine lv_istore_n (lv' := [(2, .int (nI n)), (0, .ref a), (1, .int k)]) hx hb dJx4a65c_grow_92f84_5 rfl hl (by decide) rfl (fun ls hl => ?_)
  refine lv_iload_n hx hb dJx4a65c_grow_92f84_6 rfl (lv_at hl 0 rfl) ?_
  refine lv_if_gt (tgt := 20) hx hb dJx4a65c_grow_92f84_7 (by decide) (fun c7 => ?_) (fun c7 => ?_)
  · refine lv_iload_n hx hb dJx4a65c_grow_92f84_20 rfl (lv_at hl 0 rfl) ?_
    refine lv_iload_n hx hb dJx4a65c_grow_92f84_21 rfl (lv_at hl 2 rfl) ?_
    refine lv_iload_n hx hb dJx4a65c_grow_92f84_22 rfl (lv_at hl 0 rfl) ?_
    refine lv_isub hx hb dJx4a65c_grow_92f84_23 ?_
    refine lv_topi (fun x5 ex5 => ?_)
    refine lv_iload_n hx hb dJx4a65c_grow_92f84_24 rfl (lv_at hl 0 rfl) ?_
    refine lv_iconst (v := 1) hx hb dJx4a65c_grow_92f84_25 (by decide) ?_
    refine lv_ishr hx hb dJx4a65c_grow_92f84_26 ?_
    refine lv_topi (fun x6 ex6 => ?_)
    have ex5 : x5 = nI 1 := by rw [ex5, ek, pk_sub (by omega)]; congr 1; omega
    have ex6 : x6 = nI (n / 2) := by rw [ex6]; have k2 := pk_shrN (n := n) (by omega) ((1 : Int32) &&& 31) 1 (by decide); rw [Nat.pow_one] at k2; exact k2
    subst ex5
    subst ex6
    refine w_call (va_runS (As := [.int (nI n), .int (nI 1), .int (nI (n / 2))]) (rest := []) ⟨hx, hb, hml, hown, hts⟩ (c_newLen l g h n h2 s.heap.size) (va_cwS 3 hts gJx4a65c_grow_92f84_J8_newLength_cabcc rfl rfl rfl (by decide +kernel) ⟨Nat.le_of_ble_eq_true rfl, Nat.le_of_ble_eq_true rfl⟩) ⟨pr_blind, pr_of hw⟩ rfl rfl hl.1 rfl (lv_room (Nat.le_of_ble_eq_true rfl)) dJx4a65c_grow_92f84_27 ⟨Nat.le_of_ble_eq_true rfl, Nat.le_of_ble_eq_true rfl⟩) hw (fun v h' H locs hp hw => ?_)
    obtain ⟨rfl, rfl⟩ := hp
    refine W.eq (g2 := F0 m 30 ls [.int (nI (gcap n))]) rfl ?_
    refine lv_istore_n (lv' := [(3, .int (nI (gcap n))), (2, .int (nI n)), (0, .ref a), (1, .int k)]) hx hb dJx4a65c_grow_92f84_30 rfl hl (by decide) rfl (fun ls hl => ?_)
    refine lv_aload_n hx hb dJx4a65c_grow_92f84_31 rfl (lv_at hl 2 rfl) ?_
    refine lv_aload_n hx hb dJx4a65c_grow_92f84_32 rfl (lv_at hl 2 rfl) ?_
    refine w_get (ci := 0) (C := RJx4a65c) (T := TJx4a65c) (N := 3) (ref := "java/util/ArrayList") hx hb hts in_Jx4a65c_grow_92f84_0 hown hw ha rfl 1 (by decide) (hts (.fieldLink RJx4a65c 9 "java/util/ArrayList" "elementData" "[Ljava/lang/Object;") (by decide +kernel)) (fun _ h9 => h9) rfl dJx4a65c_grow_92f84_33 ?_
    refine lv_iload_n hx hb dJx4a65c_grow_92f84_36 rfl (lv_at hl 0 rfl) ?_
    refine w_call (va_runS (As := [.ref arr, .int (nI (gcap n))]) (rest := [.ref a]) ⟨hx, hb, hml, hown, hts⟩ (c_copy2 l g h arr n (gcap n) f (nI (gcap n)) rfl hr0 hel (by have := gcap_lt n; omega) (gcap_le h2) H.size) (va_cwS 2 hts gJx4a65c_grow_92f84_J7_copyOf_1904c rfl rfl rfl (by decide +kernel) ⟨Nat.le_of_ble_eq_true rfl, Nat.le_of_ble_eq_true rfl⟩) ⟨pr_blind, pr_of hw⟩ rfl rfl hl.1 rfl (lv_room (Nat.le_of_ble_eq_true rfl)) dJx4a65c_grow_92f84_37 ⟨Nat.le_of_ble_eq_true rfl, Nat.le_of_ble_eq_true rfl⟩) hw (fun v h' H locs hp hw => ?_)
    obtain ⟨q, hq, rfl, rfl⟩ := hp
    refine W.eq (g2 := F0 m 40 ls [.ref q, .ref a]) rfl ?_
    refine lv_dup_x1 hx hb dJx4a65c_grow_92f84_40 rfl rfl ?_
    refine w_put (ci := 0) (C := RJx4a65c) (T := TJx4a65c) (N := 3) (ref := "java/util/ArrayList") (ty := .array (.object "java/lang/Object")) (fs' := [.int mc, .ref q, .int (nI n)]) hx hb hts in_Jx4a65c_grow_92f84_0 tyJx4a65c tyJx4a65c_ok nmJx4a65c hown hw ((wu_n (ne_n ha hq)).trans ha) rfl 1 (by decide) (hts (.fieldLink RJx4a65c 9 "java/util/ArrayList" "elementData" "[Ljava/lang/Object;") (by decide +kernel)) (fun _ h9 => h9) rfl (by decide +kernel) rfl rfl (Nat.le_of_ble_eq_true rfl) rfl dJx4a65c_grow_92f84_41 (fun H locs hw => ?_)
    exact r_ref hx hb hr (Or.inr ⟨_, rfl⟩) (Or.inr ⟨_, rfl⟩) hlocks hw dJx4a65c_grow_92f84_44 (Nat.le_of_ble_eq_true rfl) (Nat.le_of_ble_eq_true rfl) (⟨q, gcap n, _, hq, rfl, rfl, gcap_lt n, gcap_le h2, fun i hi => by simp [va_cpy, hi]⟩)
  · exact absurd (nI_0lt (by omega) (by omega)) c7
set_option maxHeartbeats 4000000 in
set_option maxRecDepth 100000 in
theorem c_AL_growZ (l : Launch) (g : GG) (h : Nat → Option va_E) (mc : Int32) (a : Nat) (f : Nat → Option Nat) (k : Int32) (ek : k = nI (0 + 1)) (ha : h a = some (oAL mc (gZ g) (nI 0))) : Con l yJx4a65c_grow_92f84 wsJx4a65c_grow_92f84 3 84 1 800 [.ref a, .int k] g h (fun v h' => ∃ (q cap' : Nat) (f' : Nat → Option Nat), h q = none ∧ v = some (.ref q) ∧ h' = wu (wu h q (arO g cap' f')) a (oAL mc q (nI 0)) ∧ 0 < cap' ∧ cap' ≤ 800 ∧ ∀ i, i < 0 → f' i = f i) := by
  refine m_start (cc := cJx4a65c_grow_92f84) (maxL := 4) (ret := (some (.array (.object "java/lang/Object")))) (by decide) rfl (Nat.le_of_ble_eq_true rfl) ?_
  intro p e s m below meth c A ls hx hb hr hml hts hown hlocks hin hw hl
  have hl : lv_has ls 4 [(0, .ref a), (1, .int k)] := hl
  have hown : s.vm.findClass RJx4a65c = some m.cls := hown
  refine lv_aload_n hx hb dJx4a65c_grow_92f84_0 rfl (lv_at hl 0 rfl) ?_
  refine w_get (ci := 0) (C := RJx4a65c) (T := TJx4a65c) (N := 3) (ref := "java/util/ArrayList") hx hb hts in_Jx4a65c_grow_92f84_0 hown hw ha rfl 1 (by decide) (hts (.fieldLink RJx4a65c 9 "java/util/ArrayList" "elementData" "[Ljava/lang/Object;") (by decide +kernel)) (fun _ h9 => h9) rfl dJx4a65c_grow_92f84_1 ?_
  refine va_tlen (v := 0) hx hb hw.2.2.2.2.2.1 hw.2.2.1 (by decide) dJx4a65c_grow_92f84_4 ?_
  refine lv_istore_n (lv' := [(2, .int 0), (0, .ref a), (1, .int k)]) hx hb dJx4a65c_grow_92f84_5 rfl hl (by decide) rfl (fun ls hl => ?_)
  refine lv_iload_n hx hb dJx4a65c_grow_92f84_6 rfl (lv_at hl 0 rfl) ?_
  refine lv_if_gt (tgt := 20) hx hb dJx4a65c_grow_92f84_7 (by decide) (fun c7 => ?_) (fun c7 => ?_)
  · exact absurd c7 (by decide)
  · refine lv_aload_n hx hb dJx4a65c_grow_92f84_10 rfl (lv_at hl 1 rfl) ?_
    refine w_get (ci := 0) (C := RJx4a65c) (T := TJx4a65c) (N := 3) (ref := "java/util/ArrayList") hx hb hts in_Jx4a65c_grow_92f84_0 hown hw ha rfl 1 (by decide) (hts (.fieldLink RJx4a65c 9 "java/util/ArrayList" "elementData" "[Ljava/lang/Object;") (by decide +kernel)) (fun _ h9 => h9) rfl dJx4a65c_grow_92f84_11 ?_
    refine va_gets hx hb hw.2.2.2.2.1 hw.2.2.1 hown (hts (.fieldLink RJx4a65c 39 "java/util/ArrayList" "DEFAULTCAPACITY_EMPTY_ELEMENTDATA" "[Ljava/lang/Object;") (by decide +kernel)) (fun _ h9 => h9) dJx4a65c_grow_92f84_14 ?_
    refine lv_acmp_eq (rx := some (gZ g)) (ry := some (gZ g)) (tgt := 45) hx hb dJx4a65c_grow_92f84_17 (by decide) (fun _ => ?_) (fun c0 => absurd rfl c0)
    refine lv_aload_n hx hb dJx4a65c_grow_92f84_45 rfl (lv_at hl 1 rfl) ?_
    refine lv_bipush (v := 10) hx hb dJx4a65c_grow_92f84_46 (by decide) ?_
    refine lv_iload_n hx hb dJx4a65c_grow_92f84_48 rfl (lv_at hl 2 rfl) ?_
    refine va_mmax hx hb (hml.trans hl.1.symm) hown (hts (.methodLink RJx4a65c 79 Lib.Math.max.name) (by decide +kernel)) (hts (.static Lib.Math.max.name) (by decide +kernel)) (hts (.initialized "java/lang/Math") (by decide +kernel)) (hts _ (List.mem_of_getElem? (i := 6) rfl)) (Nat.le_of_ble_eq_true rfl) (Nat.le_of_ble_eq_true rfl) (Nat.le_of_ble_eq_true rfl) (Nat.le_of_ble_eq_true rfl) dJx4a65c_grow_92f84_49 ?_
    refine lv_topi (fun x7 ex7 => ?_)
    have ex7 : x7 = nI 10 := by rw [ex7, ek]; decide
    refine w_newq (N' := 10) hx hb hown (hts (.classLink RJx4a65c 7 "java/lang/Object") (by decide +kernel)) hw (by rw [ex7]; exact nI_pos (by decide)) (by rw [ex7]; exact nI_clamp (by decide)) (by decide) (Nat.le_of_ble_eq_true rfl) (by decide) dJx4a65c_grow_92f84_52 (fun q H hq hw => ?_)
    refine W.widen (k := 1) (n := 800) (by omega) (by omega) ?_
    refine lv_dup_x1 hx hb dJx4a65c_grow_92f84_55 rfl rfl ?_
    refine w_put (ci := 0) (C := RJx4a65c) (T := TJx4a65c) (N := 3) (ref := "java/util/ArrayList") (ty := .array (.object "java/lang/Object")) (fs' := [.int mc, .ref q, .int (nI 0)]) hx hb hts in_Jx4a65c_grow_92f84_0 tyJx4a65c tyJx4a65c_ok nmJx4a65c hown hw ((wu_n (ne_n ha hq)).trans ha) rfl 1 (by decide) (hts (.fieldLink RJx4a65c 9 "java/util/ArrayList" "elementData" "[Ljava/lang/Object;") (by decide +kernel)) (fun _ h9 => h9) rfl (by decide +kernel) rfl rfl (Nat.le_of_ble_eq_true rfl) rfl dJx4a65c_grow_92f84_56 (fun H locs hw => ?_)
    exact r_ref hx hb hr (Or.inr ⟨_, rfl⟩) (Or.inr ⟨_, rfl⟩) hlocks hw dJx4a65c_grow_92f84_59 (Nat.le_of_ble_eq_true rfl) (Nat.le_of_ble_eq_true rfl) (⟨q, 10, _, hq, rfl, rfl, by omega, by omega, fun i hi => absurd hi (by omega)⟩)
theorem c_AL_growI (l : Launch) (g : GG) (h : Nat → Option va_E) (mc : Int32) (a arr n : Nat) (f : Nat → Option Nat) (k : Int32) (ek : k = nI (n + 1)) (ha : h a = some (oAL mc arr (nI n))) (hp : (h arr = some (arO g n f) ∧ 1 ≤ n ∧ n ≤ 530 ∧ ∀ i, i < n → ∀ y, f i = some y → isE h y) ∨ (arr = gZ g ∧ h (gZ g) = none ∧ n = 0)) : Con l yJx4a65c_grow_92f84 wsJx4a65c_grow_92f84 3 84 1 800 [.ref a, .int k] g h (fun v h' => ∃ (q cap' : Nat) (f' : Nat → Option Nat), h q = none ∧ v = some (.ref q) ∧ h' = wu (wu h q (arO g cap' f')) a (oAL mc q (nI n)) ∧ n < cap' ∧ cap' ≤ 800 ∧ ∀ i, i < n → f' i = f i) := by
  rcases hp with ⟨h1, h2, h3, h4⟩ | ⟨h1, h2, h3⟩
  · exact c_AL_growF l g h mc a arr n f k ek ha h1 h2 h3 h4
  · subst h1
    subst h3
    exact c_AL_growZ l g h mc a f k ek ha
theorem in_Jx4a65c_grow_d5877_0 : ∀ w ∈ u_ws RJx4a65c TJx4a65c 3, w ∈ wsJx4a65c_grow_d5877 := by decide +kernel
set_option maxHeartbeats 4000000 in
set_option maxRecDepth 100000 in
theorem c_AL_grow (l : Launch) (g : GG) (h : Nat → Option va_E) (mc : Int32) (a arr n : Nat) (f : Nat → Option Nat) (ha : h a = some (oAL mc arr (nI n))) (hp : (h arr = some (arO g n f) ∧ 1 ≤ n ∧ n ≤ 530 ∧ ∀ i, i < n → ∀ y, f i = some y → isE h y) ∨ (arr = gZ g ∧ h (gZ g) = none ∧ n = 0)) : Con l yJx4a65c_grow_d5877 wsJx4a65c_grow_d5877 4 107 1 800 [.ref a] g h (fun v h' => ∃ (q cap' : Nat) (f' : Nat → Option Nat), h q = none ∧ v = some (.ref q) ∧ h' = wu (wu h q (arO g cap' f')) a (oAL mc q (nI n)) ∧ n < cap' ∧ cap' ≤ 800 ∧ ∀ i, i < n → f' i = f i) := by
  refine m_start (cc := cJx4a65c_grow_d5877) (maxL := 1) (ret := (some (.array (.object "java/lang/Object")))) (by decide) rfl (Nat.le_of_ble_eq_true rfl) ?_
  intro p e s m below meth c A ls hx hb hr hml hts hown hlocks hin hw hl
  have hl : lv_has ls 1 [(0, .ref a)] := hl
  have hown : s.vm.findClass RJx4a65c = some m.cls := hown
  refine lv_aload_n hx hb dJx4a65c_grow_d5877_0 rfl (lv_at hl 0 rfl) ?_
  refine lv_aload_n hx hb dJx4a65c_grow_d5877_1 rfl (lv_at hl 0 rfl) ?_
  refine w_get (ci := 0) (C := RJx4a65c) (T := TJx4a65c) (N := 3) (ref := "java/util/ArrayList") hx hb hts in_Jx4a65c_grow_d5877_0 hown hw ha rfl 2 (by decide) (hts (.fieldLink RJx4a65c 48 "java/util/ArrayList" "size" "I") (by decide +kernel)) (fun _ h9 => h9) rfl dJx4a65c_grow_d5877_2 ?_
  refine lv_iconst (v := 1) hx hb dJx4a65c_grow_d5877_5 (by decide) ?_
  refine lv_iadd hx hb dJx4a65c_grow_d5877_6 ?_
  refine lv_topi (fun k ek => ?_)
  refine w_call (va_runV (As := [.int k]) (rest := []) ⟨hx, hb, hml, hown, hts⟩ (c_AL_growI l g h mc a arr n f k (ek.trans (nI_1 n)) ha hp s.heap.size) (cwV 1 hts gJx4a65c_grow_d5877_Jx4a65c_grow_92f84 rfl rfl rfl (by decide +kernel) ⟨Nat.le_of_ble_eq_true rfl, Nat.le_of_ble_eq_true rfl⟩) ⟨pr_blind, w_recv hw ha rfl, pr_of hw⟩ rfl rfl hl.1 rfl (lv_room (Nat.le_of_ble_eq_true rfl)) dJx4a65c_grow_d5877_7 ⟨Nat.le_of_ble_eq_true rfl, Nat.le_of_ble_eq_true rfl⟩) hw (fun v h' H locs hp hw => ?_)
  obtain ⟨q, cap', f', hq, rfl, rfl, hc1, hc2, hc3⟩ := hp
  refine W.eq (g2 := F0 m 10 ls [.ref q]) rfl ?_
  exact r_ref hx hb hr (Or.inr ⟨_, rfl⟩) (Or.inr ⟨_, rfl⟩) hlocks hw dJx4a65c_grow_d5877_10 (Nat.le_of_ble_eq_true rfl) (Nat.le_of_ble_eq_true rfl) (⟨q, cap', f', hq, rfl, rfl, hc1, hc2, hc3⟩)
theorem in_Jx4a65c_add_72be8_0 : ∀ w ∈ u_ws RJx4a65c TJx4a65c 3, w ∈ wsJx4a65c_add_72be8 := by decide +kernel
set_option maxHeartbeats 4000000 in
set_option maxRecDepth 100000 in
theorem c_AL_add3A (l : Launch) (g : GG) (h : Nat → Option va_E) (mc : Int32) (a arr x n cap : Nat) (f : Nat → Option Nat) (ha : h a = some (oAL mc arr (nI n))) (hx0 : isE h x) (hr0 : h arr = some (arO g cap f)) (h1 : n < cap) (h2 : cap ≤ 800) : Con l yJx4a65c_add_72be8 wsJx4a65c_add_72be8 5 127 1 800 [.ref a, .ref x, .ref arr, .int (nI n)] g h (fun v h' => ∃ (arr' cap' : Nat) (f' : Nat → Option Nat), v = none ∧ (arr' = arr ∨ h arr' = none) ∧ h' a = some (oAL mc arr' (nI (n + 1))) ∧ h' arr' = some (arO g cap' f') ∧ n + 1 ≤ cap' ∧ cap' ≤ 800 ∧ (∀ i, i < n → f' i = f i) ∧ f' n = some x ∧ ∀ q, q ≠ a → q ≠ arr' → h' q = h q) := by
  refine m_start (cc := cJx4a65c_add_72be8) (maxL := 4) (ret := none) (by decide) rfl (Nat.le_of_ble_eq_true rfl) ?_
  intro p e s m below meth c A ls hx hb hr hml hts hown hlocks hin hw hl
  have hl : lv_has ls 4 [(0, .ref a), (1, .ref x), (2, .ref arr), (3, .int (nI n))] := hl
  have hown : s.vm.findClass RJx4a65c = some m.cls := hown
  refine lv_iload_n hx hb dJx4a65c_add_72be8_0 rfl (lv_at hl 3 rfl) ?_
  refine lv_aload_n hx hb dJx4a65c_add_72be8_1 rfl (lv_at hl 2 rfl) ?_
  refine w_alenO (v := nI cap) hx hb hw hr0 rfl dJx4a65c_add_72be8_2 ?_
  refine lv_icmp_ne (tgt := 11) hx hb dJx4a65c_add_72be8_3 (by decide) (fun c3 => ?_) (fun c3 => ?_)
  · refine lv_aload_n hx hb dJx4a65c_add_72be8_11 rfl (lv_at hl 2 rfl) ?_
    refine lv_iload_n hx hb dJx4a65c_add_72be8_12 rfl (lv_at hl 3 rfl) ?_
    refine lv_aload_n hx hb dJx4a65c_add_72be8_13 rfl (lv_at hl 1 rfl) ?_
    refine w_aast hx hb hw hr0 (w_any hw hx0) (vp_in_nI h1 (by omega)) dJx4a65c_add_72be8_14 (fun H locs hw => ?_)
    refine lv_aload_n hx hb dJx4a65c_add_72be8_15 rfl (lv_at hl 0 rfl) ?_
    refine lv_iload_n hx hb dJx4a65c_add_72be8_16 rfl (lv_at hl 3 rfl) ?_
    refine lv_iconst (v := 1) hx hb dJx4a65c_add_72be8_17 (by decide) ?_
    refine lv_iadd hx hb dJx4a65c_add_72be8_18 ?_
    refine w_put (ci := 0) (C := RJx4a65c) (T := TJx4a65c) (N := 3) (ref := "java/util/ArrayList") (ty := .int) (fs' := [.int mc, .ref arr, .int ((nI n) + 1)]) hx hb hts in_Jx4a65c_add_72be8_0 tyJx4a65c tyJx4a65c_ok nmJx4a65c hown hw ((wu_n (ne_e ha hr0 ne_rl)).trans ha) rfl 2 (by decide) (hts (.fieldLink RJx4a65c 48 "java/util/ArrayList" "size" "I") (by decide +kernel)) (fun _ h9 => h9) rfl (by decide +kernel) rfl rfl (Nat.le_of_ble_eq_true rfl) rfl dJx4a65c_add_72be8_19 (fun H locs hw => ?_)
    exact r_void hx hb hr hlocks hw dJx4a65c_add_72be8_22 (Nat.le_of_ble_eq_true rfl) (Nat.le_of_ble_eq_true rfl) (⟨arr, cap, _, rfl, Or.inl rfl, by rw [wu_s, nI_1], (wu_n (ne_e hr0 ha ne_lr)).trans (wu_s _ _ _), h1, h2, fun i hi => by rw [nI_clamp (by omega)]; exact va_up_ne _ _ (by omega), by rw [nI_clamp (by omega)]; exact va_up_self _ _ _, fun q h1 h2 => (wu_n h1).trans (wu_n h2)⟩)
  · exact absurd ((nI_eq (by omega) (by omega)).mp c3) (by omega)
set_option maxHeartbeats 4000000 in
set_option maxRecDepth 100000 in
theorem c_AL_add3B (l : Launch) (g : GG) (h : Nat → Option va_E) (mc : Int32) (a arr x n : Nat) (f : Nat → Option Nat) (ha : h a = some (oAL mc arr (nI n))) (hx0 : isE h x) (hr0 : h arr = some (arO g n f)) (h1 : 1 ≤ n) (h2 : n ≤ 530) (hel : ∀ i, i < n → ∀ y, f i = some y → isE h y) : Con l yJx4a65c_add_72be8 wsJx4a65c_add_72be8 5 127 1 800 [.ref a, .ref x, .ref arr, .int (nI n)] g h (fun v h' => ∃ (arr' cap' : Nat) (f' : Nat → Option Nat), v = none ∧ (arr' = arr ∨ h arr' = none) ∧ h' a = some (oAL mc arr' (nI (n + 1))) ∧ h' arr' = some (arO g cap' f') ∧ n + 1 ≤ cap' ∧ cap' ≤ 800 ∧ (∀ i, i < n → f' i = f i) ∧ f' n = some x ∧ ∀ q, q ≠ a → q ≠ arr' → h' q = h q) := by
  refine m_start (cc := cJx4a65c_add_72be8) (maxL := 4) (ret := none) (by decide) rfl (Nat.le_of_ble_eq_true rfl) ?_
  intro p e s m below meth c A ls hx hb hr hml hts hown hlocks hin hw hl
  have hl : lv_has ls 4 [(0, .ref a), (1, .ref x), (2, .ref arr), (3, .int (nI n))] := hl
  have hown : s.vm.findClass RJx4a65c = some m.cls := hown
  refine lv_iload_n hx hb dJx4a65c_add_72be8_0 rfl (lv_at hl 3 rfl) ?_
  refine lv_aload_n hx hb dJx4a65c_add_72be8_1 rfl (lv_at hl 2 rfl) ?_
  refine w_alenO (v := nI n) hx hb hw hr0 rfl dJx4a65c_add_72be8_2 ?_
  refine lv_icmp_ne (tgt := 11) hx hb dJx4a65c_add_72be8_3 (by decide) (fun c3 => ?_) (fun c3 => ?_)
  · exact absurd rfl c3
  · refine lv_aload_n hx hb dJx4a65c_add_72be8_6 rfl (lv_at hl 0 rfl) ?_
    refine w_call (va_runV (As := []) (rest := []) ⟨hx, hb, hml, hown, hts⟩ (c_AL_grow l g h mc a arr n f ha (Or.inl ⟨hr0, h1, h2, hel⟩) s.heap.size) (cwV 0 hts gJx4a65c_add_72be8_Jx4a65c_grow_d5877 rfl rfl rfl (by decide +kernel) ⟨Nat.le_of_ble_eq_true rfl, Nat.le_of_ble_eq_true rfl⟩) ⟨pr_blind, w_recv hw ha rfl, pr_of hw⟩ rfl rfl hl.1 rfl (lv_room (Nat.le_of_ble_eq_true rfl)) dJx4a65c_add_72be8_7 ⟨Nat.le_of_ble_eq_true rfl, Nat.le_of_ble_eq_true rfl⟩) hw (fun v h' H locs hp hw => ?_)
    obtain ⟨q, cap', f', hq, rfl, rfl, hc1, hc2, hc3⟩ := hp
    refine W.eq (g2 := F0 m 10 ls [.ref q]) rfl ?_
    refine lv_astore_n (lv' := [(2, .ref q), (0, .ref a), (1, .ref x), (3, .int (nI n))]) hx hb dJx4a65c_add_72be8_10 rfl hl (by decide) rfl (fun ls hl => ?_)
    refine lv_aload_n hx hb dJx4a65c_add_72be8_11 rfl (lv_at hl 0 rfl) ?_
    refine lv_iload_n hx hb dJx4a65c_add_72be8_12 rfl (lv_at hl 3 rfl) ?_
    refine lv_aload_n hx hb dJx4a65c_add_72be8_13 rfl (lv_at hl 2 rfl) ?_
    refine w_aast hx hb hw ((wu_n (ne_n ha hq).symm).trans (wu_s _ _ _)) (w_any hw (isE_wu0 ((wu_n (ne_n ha hq)).trans ha) (isE_wu hq hx0))) (vp_in_nI hc1 (by omega)) dJx4a65c_add_72be8_14 (fun H locs hw => ?_)
    refine lv_aload_n hx hb dJx4a65c_add_72be8_15 rfl (lv_at hl 1 rfl) ?_
    refine lv_iload_n hx hb dJx4a65c_add_72be8_16 rfl (lv_at hl 3 rfl) ?_
    refine lv_iconst (v := 1) hx hb dJx4a65c_add_72be8_17 (by decide) ?_
    refine lv_iadd hx hb dJx4a65c_add_72be8_18 ?_
    refine w_put (ci := 0) (C := RJx4a65c) (T := TJx4a65c) (N := 3) (ref := "java/util/ArrayList") (ty := .int) (fs' := [.int mc, .ref q, .int ((nI n) + 1)]) hx hb hts in_Jx4a65c_add_72be8_0 tyJx4a65c tyJx4a65c_ok nmJx4a65c hown hw ((wu_n (ne_n ha hq)).trans (wu_s _ _ _)) rfl 2 (by decide) (hts (.fieldLink RJx4a65c 48 "java/util/ArrayList" "size" "I") (by decide +kernel)) (fun _ h9 => h9) rfl (by decide +kernel) rfl rfl (Nat.le_of_ble_eq_true rfl) rfl dJx4a65c_add_72be8_19 (fun H locs hw => ?_)
    exact r_void hx hb hr hlocks hw dJx4a65c_add_72be8_22 (Nat.le_of_ble_eq_true rfl) (Nat.le_of_ble_eq_true rfl) (⟨q, cap', _, rfl, Or.inr hq, by rw [wu_s, nI_1], (wu_n (ne_n ha hq).symm).trans (wu_s _ _ _), hc1, hc2, fun i hi => by rw [nI_clamp (by omega), va_up_ne _ _ (by omega)]; exact hc3 i hi, by rw [nI_clamp (by omega)]; exact va_up_self _ _ _, fun z h1 h2 => (wu_n h1).trans ((wu_n h2).trans ((wu_n h1).trans (wu_n h2)))⟩)
set_option maxHeartbeats 4000000 in
set_option maxRecDepth 100000 in
theorem c_AL_add3C (l : Launch) (g : GG) (h : Nat → Option va_E) (mc : Int32) (a x : Nat) (f : Nat → Option Nat) (ha : h a = some (oAL mc (gZ g) (nI 0))) (hx0 : isE h x) (hz : h (gZ g) = none) : Con l yJx4a65c_add_72be8 wsJx4a65c_add_72be8 5 127 1 800 [.ref a, .ref x, .ref (gZ g), .int (nI 0)] g h (fun v h' => ∃ (arr' cap' : Nat) (f' : Nat → Option Nat), v = none ∧ (arr' = gZ g ∨ h arr' = none) ∧ h' a = some (oAL mc arr' (nI (0 + 1))) ∧ h' arr' = some (arO g cap' f') ∧ 0 + 1 ≤ cap' ∧ cap' ≤ 800 ∧ (∀ i, i < 0 → f' i = f i) ∧ f' 0 = some x ∧ ∀ q, q ≠ a → q ≠ arr' → h' q = h q) := by
  refine m_start (cc := cJx4a65c_add_72be8) (maxL := 4) (ret := none) (by decide) rfl (Nat.le_of_ble_eq_true rfl) ?_
  intro p e s m below meth c A ls hx hb hr hml hts hown hlocks hin hw hl
  have hl : lv_has ls 4 [(0, .ref a), (1, .ref x), (2, .ref (gZ g)), (3, .int (nI 0))] := hl
  have hown : s.vm.findClass RJx4a65c = some m.cls := hown
  refine lv_iload_n hx hb dJx4a65c_add_72be8_0 rfl (lv_at hl 3 rfl) ?_
  refine lv_aload_n hx hb dJx4a65c_add_72be8_1 rfl (lv_at hl 2 rfl) ?_
  refine va_tlen (v := 0) hx hb hw.2.2.2.2.2.1 hw.2.2.1 (by decide) dJx4a65c_add_72be8_2 ?_
  refine lv_icmp_ne (tgt := 11) hx hb dJx4a65c_add_72be8_3 (by decide) (fun c3 => ?_) (fun c3 => ?_)
  · exact absurd nI_0 c3
  · refine lv_aload_n hx hb dJx4a65c_add_72be8_6 rfl (lv_at hl 0 rfl) ?_
    refine w_call (va_runV (As := []) (rest := []) ⟨hx, hb, hml, hown, hts⟩ (c_AL_grow l g h mc a (gZ g) 0 f ha (Or.inr ⟨rfl, hz, rfl⟩) s.heap.size) (cwV 0 hts gJx4a65c_add_72be8_Jx4a65c_grow_d5877 rfl rfl rfl (by decide +kernel) ⟨Nat.le_of_ble_eq_true rfl, Nat.le_of_ble_eq_true rfl⟩) ⟨pr_blind, w_recv hw ha rfl, pr_of hw⟩ rfl rfl hl.1 rfl (lv_room (Nat.le_of_ble_eq_true rfl)) dJx4a65c_add_72be8_7 ⟨Nat.le_of_ble_eq_true rfl, Nat.le_of_ble_eq_true rfl⟩) hw (fun v h' H locs hp hw => ?_)
    obtain ⟨q, cap', f', hq, rfl, rfl, hc1, hc2, hc3⟩ := hp
    refine W.eq (g2 := F0 m 10 ls [.ref q]) rfl ?_
    refine lv_astore_n (lv' := [(2, .ref q), (0, .ref a), (1, .ref x), (3, .int (nI 0))]) hx hb dJx4a65c_add_72be8_10 rfl hl (by decide) rfl (fun ls hl => ?_)
    refine lv_aload_n hx hb dJx4a65c_add_72be8_11 rfl (lv_at hl 0 rfl) ?_
    refine lv_iload_n hx hb dJx4a65c_add_72be8_12 rfl (lv_at hl 3 rfl) ?_
    refine lv_aload_n hx hb dJx4a65c_add_72be8_13 rfl (lv_at hl 2 rfl) ?_
    refine w_aast hx hb hw ((wu_n (ne_n ha hq).symm).trans (wu_s _ _ _)) (w_any hw (isE_wu0 ((wu_n (ne_n ha hq)).trans ha) (isE_wu hq hx0))) (vp_in_nI hc1 (by omega)) dJx4a65c_add_72be8_14 (fun H locs hw => ?_)
    refine lv_aload_n hx hb dJx4a65c_add_72be8_15 rfl (lv_at hl 1 rfl) ?_
    refine lv_iload_n hx hb dJx4a65c_add_72be8_16 rfl (lv_at hl 3 rfl) ?_
    refine lv_iconst (v := 1) hx hb dJx4a65c_add_72be8_17 (by decide) ?_
    refine lv_iadd hx hb dJx4a65c_add_72be8_18 ?_
    refine w_put (ci := 0) (C := RJx4a65c) (T := TJx4a65c) (N := 3) (ref := "java/util/ArrayList") (ty := .int) (fs' := [.int mc, .ref q, .int ((nI 0) + 1)]) hx hb hts in_Jx4a65c_add_72be8_0 tyJx4a65c tyJx4a65c_ok nmJx4a65c hown hw ((wu_n (ne_n ha hq)).trans (wu_s _ _ _)) rfl 2 (by decide) (hts (.fieldLink RJx4a65c 48 "java/util/ArrayList" "size" "I") (by decide +kernel)) (fun _ h9 => h9) rfl (by decide +kernel) rfl rfl (Nat.le_of_ble_eq_true rfl) rfl dJx4a65c_add_72be8_19 (fun H locs hw => ?_)
    exact r_void hx hb hr hlocks hw dJx4a65c_add_72be8_22 (Nat.le_of_ble_eq_true rfl) (Nat.le_of_ble_eq_true rfl) (⟨q, cap', _, rfl, Or.inr hq, by rw [wu_s, nI_1], (wu_n (ne_n ha hq).symm).trans (wu_s _ _ _), hc1, hc2, fun i hi => by rw [nI_clamp (by omega), va_up_ne _ _ (by omega)]; exact hc3 i hi, by rw [nI_clamp (by omega)]; exact va_up_self _ _ _, fun z h1 h2 => (wu_n h1).trans ((wu_n h2).trans ((wu_n h1).trans (wu_n h2)))⟩)
theorem c_AL_add3 (l : Launch) (g : GG) (h : Nat → Option va_E) (mc : Int32) (a arr x n : Nat) (f : Nat → Option Nat) (ha : h a = some (oAL mc arr (nI n))) (hx0 : isE h x) (hp : preA g h arr n f) : Con l yJx4a65c_add_72be8 wsJx4a65c_add_72be8 5 127 1 800 [.ref a, .ref x, .ref arr, .int (nI n)] g h (fun v h' => ∃ (arr' cap' : Nat) (f' : Nat → Option Nat), v = none ∧ (arr' = arr ∨ h arr' = none) ∧ h' a = some (oAL mc arr' (nI (n + 1))) ∧ h' arr' = some (arO g cap' f') ∧ n + 1 ≤ cap' ∧ cap' ≤ 800 ∧ (∀ i, i < n → f' i = f i) ∧ f' n = some x ∧ ∀ q, q ≠ a → q ≠ arr' → h' q = h q) := by
  rcases hp with ⟨cap, h1, h2, h3⟩ | ⟨h1, h2, h3, h4⟩ | ⟨h1, h2, h3⟩
  · exact c_AL_add3A l g h mc a arr x n cap f ha hx0 h1 h2 h3
  · exact c_AL_add3B l g h mc a arr x n f ha hx0 h1 h2 h3 h4
  · subst h1
    subst h3
    exact c_AL_add3C l g h mc a x f ha hx0 h2
theorem in_Jx4a65c_add_9ea2d_0 : ∀ w ∈ u_ws RJx4a65c TJx4a65c 3, w ∈ wsJx4a65c_add_9ea2d := by decide +kernel
set_option maxHeartbeats 4000000 in
set_option maxRecDepth 100000 in
theorem c_AL_add (l : Launch) (g : GG) (h : Nat → Option va_E) (a arr x : Nat) (xs : List Nat) (hL : AL g h a arr xs) (hx0 : isE h x) (hn : xs.length ≤ 530) : Con l yJx4a65c_add_9ea2d wsJx4a65c_add_9ea2d 6 150 1 800 [.ref a, .ref x] g h (fun v h' => ∃ arr' : Nat, v = some (.int 1) ∧ (arr' = arr ∨ h arr' = none) ∧ AL g h' a arr' (xs ++ [x]) ∧ ∀ q, q ≠ a → q ≠ arr' → h' q = h q) := by
  obtain ⟨f, hp, hf⟩ := AL_pre hL hn
  have hr9 := preA_arr hp
  obtain ⟨⟨mc, ha⟩, hE, -⟩ := hL
  refine m_start (cc := cJx4a65c_add_9ea2d) (maxL := 2) (ret := (some .boolean)) (by decide) rfl (Nat.le_of_ble_eq_true rfl) ?_
  intro p e s m below meth c A ls hx hb hr hml hts hown hlocks hin hw hl
  have hl : lv_has ls 2 [(0, .ref a), (1, .ref x)] := hl
  have hown : s.vm.findClass RJx4a65c = some m.cls := hown
  refine lv_aload_n hx hb dJx4a65c_add_9ea2d_0 rfl (lv_at hl 0 rfl) ?_
  refine lv_dup hx hb dJx4a65c_add_9ea2d_1 rfl ?_
  refine w_get (ci := 0) (C := RJx4a65c) (T := TJx4a65c) (N := 3) (ref := "java/util/ArrayList") hx hb hts in_Jx4a65c_add_9ea2d_0 hown hw ha rfl 0 (by decide) (hts (.fieldLink RJx4a65c 63 "java/util/ArrayList" "modCount" "I") (by decide +kernel)) (u_same (hts (.sameField "java/util/ArrayList" "java/util/AbstractList" "modCount" "I") (by decide +kernel))) rfl dJx4a65c_add_9ea2d_2 ?_
  refine lv_iconst (v := 1) hx hb dJx4a65c_add_9ea2d_5 (by decide) ?_
  refine lv_iadd hx hb dJx4a65c_add_9ea2d_6 ?_
  refine w_put (ci := 0) (C := RJx4a65c) (T := TJx4a65c) (N := 3) (ref := "java/util/ArrayList") (ty := .int) (fs' := [.int (mc + 1), .ref arr, .int (nI xs.length)]) hx hb hts in_Jx4a65c_add_9ea2d_0 tyJx4a65c tyJx4a65c_ok nmJx4a65c hown hw ha rfl 0 (by decide) (hts (.fieldLink RJx4a65c 63 "java/util/ArrayList" "modCount" "I") (by decide +kernel)) (u_same (hts (.sameField "java/util/ArrayList" "java/util/AbstractList" "modCount" "I") (by decide +kernel))) rfl (by decide +kernel) rfl rfl (Nat.le_of_ble_eq_true rfl) rfl dJx4a65c_add_9ea2d_7 (fun H locs hw => ?_)
  refine lv_aload_n hx hb dJx4a65c_add_9ea2d_10 rfl (lv_at hl 0 rfl) ?_
  refine lv_aload_n hx hb dJx4a65c_add_9ea2d_11 rfl (lv_at hl 1 rfl) ?_
  refine lv_aload_n hx hb dJx4a65c_add_9ea2d_12 rfl (lv_at hl 0 rfl) ?_
  refine w_get (ci := 0) (C := RJx4a65c) (T := TJx4a65c) (N := 3) (ref := "java/util/ArrayList") hx hb hts in_Jx4a65c_add_9ea2d_0 hown hw (wu_s _ _ _) rfl 1 (by decide) (hts (.fieldLink RJx4a65c 9 "java/util/ArrayList" "elementData" "[Ljava/lang/Object;") (by decide +kernel)) (fun _ h9 => h9) rfl dJx4a65c_add_9ea2d_13 ?_
  refine lv_aload_n hx hb dJx4a65c_add_9ea2d_16 rfl (lv_at hl 0 rfl) ?_
  refine w_get (ci := 0) (C := RJx4a65c) (T := TJx4a65c) (N := 3) (ref := "java/util/ArrayList") hx hb hts in_Jx4a65c_add_9ea2d_0 hown hw (wu_s _ _ _) rfl 2 (by decide) (hts (.fieldLink RJx4a65c 48 "java/util/ArrayList" "size" "I") (by decide +kernel)) (fun _ h9 => h9) rfl dJx4a65c_add_9ea2d_17 ?_
  refine w_call (va_runV (As := [.ref x, .ref arr, .int (nI xs.length)]) (rest := []) ⟨hx, hb, hml, hown, hts⟩ (c_AL_add3 l g (wu h a (oAL (mc + 1) arr (nI xs.length))) (mc + 1) a arr x xs.length f (wu_s _ _ _) (isE_wu0 ha hx0) (preA_wu ha hp) H.size) (cwV 3 hts gJx4a65c_add_9ea2d_Jx4a65c_add_72be8 rfl rfl rfl (by decide +kernel) ⟨Nat.le_of_ble_eq_true rfl, Nat.le_of_ble_eq_true rfl⟩) ⟨pr_blind, w_recv hw (wu_s _ _ _) rfl, pr_of hw⟩ rfl rfl hl.1 rfl (lv_room (Nat.le_of_ble_eq_true rfl)) dJx4a65c_add_9ea2d_20 ⟨Nat.le_of_ble_eq_true rfl, Nat.le_of_ble_eq_true rfl⟩) hw (fun v h' H locs hp hw => ?_)
  obtain ⟨arr', cap', f', rfl, q1, q2, q3, q4, q5, q6, q7, q8⟩ := hp
  refine W.eq (g2 := F0 m 23 ls []) rfl ?_
  refine lv_iconst (v := 1) hx hb dJx4a65c_add_9ea2d_23 (by decide) ?_
  have q8' : ∀ q, q ≠ a → q ≠ arr' → h' q = h q := fun q h1 h2 => (q8 q h1 h2).trans (wu_n h1)
  have q1' : arr' = arr ∨ h arr' = none := by
    rcases q1 with q1 | q1
    · exact Or.inl q1
    · refine Or.inr ?_
      have hne : arr' ≠ a := fun z => by
        rw [z, wu_s] at q1
        cases q1
      rw [wu_n hne] at q1
      exact q1
  exact r_bool hx hb hr hlocks hw rfl dJx4a65c_add_9ea2d_24 (Nat.le_of_ble_eq_true rfl) (Nat.le_of_ble_eq_true rfl) ⟨arr', rfl, q1', AL_add ha hE hx0 hf hr9 q1' q2 q3 q4 q5 q6 q7 q8', q8'⟩
