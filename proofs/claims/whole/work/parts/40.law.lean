/-! the law: one round of its loop, for each call -/
def R_law : String := "LayoutDeskLaw"
def lw_P (b : Addr) (xs : List Int32) (args : Array Value) (s : State) : Prop := args = #[.ref b] ∧ s.IntsAt b xs ∧ xs.length ≤ 2560 ∧ (Jvm.Cond.and given_1 narrow_1).before args s = true
def lw_Q (_ : Array Value) (s : State) (o : Outcome) (t : State) : Prop := o = .returned (some (.int 1)) ∧ Framed s o t [] 600000 7302250
def lw_Z (below : List Frame) (a : Array Value) (s : State) : State → Prop := fun t => ∃ o, t.status = .running ∧ Ended t below o ∧ lw_Q a s o t
/-- the law's own end, with 1 on the stack, nothing written that was there before, its room as the claim has it -/
theorem lw_ret {p : Program} {l : Launch} {e : Env} {s : State} {m : MethodId} {below : List Frame} {meth : Method} {c : Code} {b : Nat} (hx : p.tables.exec = Jvm.exec) (hb : c.code = code) (hr : meth.sig.returnType = ret) (hlocks : meth.locks = false) {pc : Nat} {H : Heap} {ls : Array Slot} (hdg : decode code pc = .ok (.ireturn, 1)) : W p l e room_1 s m #[Value.ref b] below meth c H [] 600000 7302250 (lw_Z below #[Value.ref b] s) (F0 m pc ls [.int 1]) := by
  intro T hT X
  obtain ⟨fs, hret, hrun, hended, hW, hframe⟩ := X.leave (v := some (.int 1)) (hlocks := hlocks) (fun h => by rw [hr] at h; cases h)
  have hmeth' : T.vm.method? m = some meth := X.method'
  refine ⟨T.setFrames fs, ?_, .returned (some (.int 1)), hrun, hended, rfl, ⟨_, rfl⟩, hW, hframe⟩
  jvm_step X.here [X.here.top, hx, hb, hdg, hmeth', hr, ret, narrow_b1]
  (try refine ⟨rfl, ?_⟩); (try refine ⟨rfl, ?_⟩)
  first | (intro acts; rw [hret _ acts rfl rfl rfl]) | rw [hret _ _ rfl rfl rfl]
  exact Steps.refl _
/-- what holds at the law's entry: the machine, the code, the tables' words (any of lw_tbl by 'hts w (by decide +kernel)'), the script of L ints xs at the cell b, what the Statement gives of the start (any of its parts by flat_of_before) -/
def lw_At (p : Program) (s : State) (m : MethodId) (meth : Method) (c : Code) (b L : Nat) (xs : Nat → Int32) : Prop :=
  p.tables.exec = Jvm.exec ∧ c.code = code ∧ meth.sig.returnType = ret ∧ c.maxLocals = 4 ∧ s.vm.findClass R_law = some m.cls ∧ (∀ w ∈ lw_tbl, w.before #[Value.ref b] s = true) ∧ va_X b L xs s s.heap ∧ b < s.heap.size ∧ meth.locks = false ∧ (Jvm.Cond.and given_1 narrow_1).before #[Value.ref b] s = true
set_option maxHeartbeats 4000000 in
set_option maxRecDepth 100000 in
theorem law_pointer {p : Program} {e : Env} {s : State} {m : MethodId} {below : List Frame} {meth : Method} {c : Code} (l : Launch) {b L : Nat} {xs : Nat → Int32} (hL : L ≤ 2560) (C0 : lw_At p s m meth c b L xs) {g : GG} {x mo j : Nat} {S : List TyS} {h k : Nat → Option va_E} {H : Heap} {locs : List Loc} {ls : Array Slot} (hj : 5 * j + 5 ≤ L) (hD : DR g h x S) (hM : MR g k mo S) (hS : wfX j S) (hw : W2 g (fun q : Nat => s.heap.size ≤ q) s h k H locs) (hl : lv_has ls 4 [(3, .int (nI (5 * j))), (2, .ref mo), (1, .ref x), (0, .ref b)]) {Q : State → Prop} (kk : ∀ (S' : List TyS) (h' k' : Nat → Option va_E) (H' : Heap) (locs' : List Loc), DR g h' x S' → MR g k' mo S' → wfX (j + 1) S' → W2 g (fun q : Nat => s.heap.size ≤ q) s h' k' H' locs' → W p l e room_1 s m #[Value.ref b] below meth c H' locs' (64 + 6 * j + 6) (18191 + 1700 * j + 1700) Q (F0 m 448 ls [])) : W p l e room_1 s m #[Value.ref b] below meth c H locs (64 + 6 * j) (18191 + 1700 * j) Q (F0 m 96 ls []) := by
  obtain ⟨hx, hb, hr, hml, hown, hts0, hX, hbl, hlocks, hgv⟩ := id C0
  have hts : ∀ w ∈ wsL_law, w.before #[Value.ref b] s = true := fun w z => hts0 w (wsL_law_in w z)
  have hown : s.vm.findClass RL = some m.cls := hown
  have hbA : ¬ (fun q : Nat => s.heap.size ≤ q) b := Nat.not_le.mpr hbl
  refine lv_aload_n hx hb dL_law_96 rfl (lv_at hl 2 rfl) ?_
  refine lv_aload_n hx hb dL_law_97 rfl (lv_at hl 3 rfl) ?_
  refine lv_iload_n hx hb dL_law_98 rfl (lv_at hl 0 rfl) ?_
  refine lv_iconst (v := 1) hx hb dL_law_99 (by decide) ?_
  refine lv_iadd hx hb dL_law_100 ?_
  refine va_sld hx hb hX hbl hbA hw.1.2.2.1 (li_in hj hL 1 (by decide)) dL_law_101 ?_
  obtain ⟨fsd, hxd⟩ := DR_self hD
  refine w_call2 (va_runV (As := [.int (xs (nI (5 * j) + 1).toNatClampNeg)]) (rest := []) ⟨hx, hb, hml, hown, hts⟩ (d_pointer l g h x S j hD hS.1 (xs (nI (5 * j) + 1).toNatClampNeg) H.size) (cwV 1 hts gL_law_X4_pointer rfl rfl rfl (by decide +kernel) ⟨Nat.le_of_ble_eq_true rfl, Nat.le_of_ble_eq_true rfl⟩) ⟨pr_blind, w_recv hw.1 hxd rfl, pr_of hw.1⟩ rfl rfl hl.1 rfl (lv_room (Nat.le_of_ble_eq_true rfl)) dL_law_102 ⟨by show 64 + 6 * j + 2 ≤ 600000; omega, by show 18191 + 1700 * j + 805 ≤ 7302250; omega⟩) hw (fun v z' H locs hp hw => ?_)
  obtain ⟨rfl, hD⟩ := hp
  refine W.eq (g2 := F0 m 105 ls [.int (fPtr S (xs (nI (5 * j) + 1).toNatClampNeg)).1]) rfl ?_
  refine lv_aload_n hx hb dL_law_105 rfl (lv_at hl 1 rfl) ?_
  refine lv_aload_n hx hb dL_law_106 rfl (lv_at hl 3 rfl) ?_
  refine lv_iload_n hx hb dL_law_107 rfl (lv_at hl 0 rfl) ?_
  refine lv_iconst (v := 1) hx hb dL_law_108 (by decide) ?_
  refine lv_iadd hx hb dL_law_109 ?_
  refine va_sld hx hb hX hbl hbA hw.1.2.2.1 (li_in hj hL 1 (by decide)) dL_law_110 ?_
  obtain ⟨fsm, hxm⟩ := MR_self hM
  refine w_call2 (va_runV (As := [.int (xs (nI (5 * j) + 1).toNatClampNeg)]) (rest := [.int (fPtr S (xs (nI (5 * j) + 1).toNatClampNeg)).1]) ⟨hx, hb, hml, hown, hts⟩ (m_pointer l g k mo S j hM hS.1 (xs (nI (5 * j) + 1).toNatClampNeg) H.size) (cwV 1 hts gL_law_X7_pointer rfl rfl rfl (by decide +kernel) ⟨Nat.le_of_ble_eq_true rfl, Nat.le_of_ble_eq_true rfl⟩) ⟨pr_blind, w_recv hw.swap.1 hxm rfl, pr_of hw.swap.1⟩ rfl rfl hl.1 rfl (lv_room (Nat.le_of_ble_eq_true rfl)) dL_law_111 ⟨by show 64 + 6 * j + 2 + 3 ≤ 600000; omega, by show 18191 + 1700 * j + 805 + 810 ≤ 7302250; omega⟩) hw.swap (fun v z' H locs hp hw => ?_)
  obtain ⟨rfl, hM⟩ := hp
  have hw := hw.swap
  refine W.eq (g2 := F0 m 114 ls [.int (fPtr S (xs (nI (5 * j) + 1).toNatClampNeg)).1, .int (fPtr S (xs (nI (5 * j) + 1).toNatClampNeg)).1]) rfl ?_
  refine lv_icmp_eq (tgt := 448) hx hb dL_law_114 (by decide) (fun c9 => ?_) (fun c9 => ?_)
  · exact W.widen (k := 64 + 6 * j + 6) (n := 18191 + 1700 * j + 1700) (by omega) (by omega) (kk _ _ _ _ _ hD hM (wfX_mono (wfX_ptr hS) (Nat.le_succ _)) hw)
  · exact absurd rfl c9
set_option maxHeartbeats 4000000 in
set_option maxRecDepth 100000 in
theorem law_array {p : Program} {e : Env} {s : State} {m : MethodId} {below : List Frame} {meth : Method} {c : Code} (l : Launch) {b L : Nat} {xs : Nat → Int32} (hL : L ≤ 2560) (C0 : lw_At p s m meth c b L xs) {g : GG} {x mo j : Nat} {S : List TyS} {h k : Nat → Option va_E} {H : Heap} {locs : List Loc} {ls : Array Slot} (hj : 5 * j + 5 ≤ L) (hD : DR g h x S) (hM : MR g k mo S) (hS : wfX j S) (hw : W2 g (fun q : Nat => s.heap.size ≤ q) s h k H locs) (hl : lv_has ls 4 [(3, .int (nI (5 * j))), (2, .ref mo), (1, .ref x), (0, .ref b)]) {Q : State → Prop} (kk : ∀ (S' : List TyS) (h' k' : Nat → Option va_E) (H' : Heap) (locs' : List Loc), DR g h' x S' → MR g k' mo S' → wfX (j + 1) S' → W2 g (fun q : Nat => s.heap.size ≤ q) s h' k' H' locs' → W p l e room_1 s m #[Value.ref b] below meth c H' locs' (64 + 6 * j + 6) (18191 + 1700 * j + 1700) Q (F0 m 448 ls [])) : W p l e room_1 s m #[Value.ref b] below meth c H locs (64 + 6 * j) (18191 + 1700 * j) Q (F0 m 119 ls []) := by
  obtain ⟨hx, hb, hr, hml, hown, hts0, hX, hbl, hlocks, hgv⟩ := id C0
  have hts : ∀ w ∈ wsL_law, w.before #[Value.ref b] s = true := fun w z => hts0 w (wsL_law_in w z)
  have hown : s.vm.findClass RL = some m.cls := hown
  have hbA : ¬ (fun q : Nat => s.heap.size ≤ q) b := Nat.not_le.mpr hbl
  refine lv_aload_n hx hb dL_law_119 rfl (lv_at hl 2 rfl) ?_
  refine lv_aload_n hx hb dL_law_120 rfl (lv_at hl 3 rfl) ?_
  refine lv_iload_n hx hb dL_law_121 rfl (lv_at hl 0 rfl) ?_
  refine lv_iconst (v := 1) hx hb dL_law_122 (by decide) ?_
  refine lv_iadd hx hb dL_law_123 ?_
  refine va_sld hx hb hX hbl hbA hw.1.2.2.1 (li_in hj hL 1 (by decide)) dL_law_124 ?_
  refine lv_aload_n hx hb dL_law_125 rfl (lv_at hl 3 rfl) ?_
  refine lv_iload_n hx hb dL_law_126 rfl (lv_at hl 0 rfl) ?_
  refine lv_iconst (v := 2) hx hb dL_law_127 (by decide) ?_
  refine lv_iadd hx hb dL_law_128 ?_
  refine va_sld hx hb hX hbl hbA hw.1.2.2.1 (li_in hj hL 2 (by decide)) dL_law_129 ?_
  obtain ⟨fsd, hxd⟩ := DR_self hD
  refine w_call2 (va_runV (As := [.int (xs (nI (5 * j) + 1).toNatClampNeg), .int (xs (nI (5 * j) + 2).toNatClampNeg)]) (rest := []) ⟨hx, hb, hml, hown, hts⟩ (d_array l g h x S j hD hS.1 (xs (nI (5 * j) + 1).toNatClampNeg) (xs (nI (5 * j) + 2).toNatClampNeg) H.size) (cwV 2 hts gL_law_X4_array rfl rfl rfl (by decide +kernel) ⟨Nat.le_of_ble_eq_true rfl, Nat.le_of_ble_eq_true rfl⟩) ⟨pr_blind, w_recv hw.1 hxd rfl, pr_of hw.1⟩ rfl rfl hl.1 rfl (lv_room (Nat.le_of_ble_eq_true rfl)) dL_law_130 ⟨by show 64 + 6 * j + 2 ≤ 600000; omega, by show 18191 + 1700 * j + 805 ≤ 7302250; omega⟩) hw (fun v z' H locs hp hw => ?_)
  obtain ⟨rfl, hD⟩ := hp
  refine W.eq (g2 := F0 m 133 ls [.int (fArr S (xs (nI (5 * j) + 1).toNatClampNeg) (xs (nI (5 * j) + 2).toNatClampNeg)).1]) rfl ?_
  refine lv_aload_n hx hb dL_law_133 rfl (lv_at hl 1 rfl) ?_
  refine lv_aload_n hx hb dL_law_134 rfl (lv_at hl 3 rfl) ?_
  refine lv_iload_n hx hb dL_law_135 rfl (lv_at hl 0 rfl) ?_
  refine lv_iconst (v := 1) hx hb dL_law_136 (by decide) ?_
  refine lv_iadd hx hb dL_law_137 ?_
  refine va_sld hx hb hX hbl hbA hw.1.2.2.1 (li_in hj hL 1 (by decide)) dL_law_138 ?_
  refine lv_aload_n hx hb dL_law_139 rfl (lv_at hl 3 rfl) ?_
  refine lv_iload_n hx hb dL_law_140 rfl (lv_at hl 0 rfl) ?_
  refine lv_iconst (v := 2) hx hb dL_law_141 (by decide) ?_
  refine lv_iadd hx hb dL_law_142 ?_
  refine va_sld hx hb hX hbl hbA hw.1.2.2.1 (li_in hj hL 2 (by decide)) dL_law_143 ?_
  obtain ⟨fsm, hxm⟩ := MR_self hM
  refine w_call2 (va_runV (As := [.int (xs (nI (5 * j) + 1).toNatClampNeg), .int (xs (nI (5 * j) + 2).toNatClampNeg)]) (rest := [.int (fArr S (xs (nI (5 * j) + 1).toNatClampNeg) (xs (nI (5 * j) + 2).toNatClampNeg)).1]) ⟨hx, hb, hml, hown, hts⟩ (m_array l g k mo S j hM hS.1 (xs (nI (5 * j) + 1).toNatClampNeg) (xs (nI (5 * j) + 2).toNatClampNeg) H.size) (cwV 2 hts gL_law_X7_array rfl rfl rfl (by decide +kernel) ⟨Nat.le_of_ble_eq_true rfl, Nat.le_of_ble_eq_true rfl⟩) ⟨pr_blind, w_recv hw.swap.1 hxm rfl, pr_of hw.swap.1⟩ rfl rfl hl.1 rfl (lv_room (Nat.le_of_ble_eq_true rfl)) dL_law_144 ⟨by show 64 + 6 * j + 2 + 3 ≤ 600000; omega, by show 18191 + 1700 * j + 805 + 810 ≤ 7302250; omega⟩) hw.swap (fun v z' H locs hp hw => ?_)
  obtain ⟨rfl, hM⟩ := hp
  have hw := hw.swap
  refine W.eq (g2 := F0 m 147 ls [.int (fArr S (xs (nI (5 * j) + 1).toNatClampNeg) (xs (nI (5 * j) + 2).toNatClampNeg)).1, .int (fArr S (xs (nI (5 * j) + 1).toNatClampNeg) (xs (nI (5 * j) + 2).toNatClampNeg)).1]) rfl ?_
  refine lv_icmp_eq (tgt := 448) hx hb dL_law_147 (by decide) (fun c9 => ?_) (fun c9 => ?_)
  · exact W.widen (k := 64 + 6 * j + 6) (n := 18191 + 1700 * j + 1700) (by omega) (by omega) (kk _ _ _ _ _ hD hM (wfX_mono (wfX_arr hS) (Nat.le_succ _)) hw)
  · exact absurd rfl c9
set_option maxHeartbeats 4000000 in
set_option maxRecDepth 100000 in
theorem law_record {p : Program} {e : Env} {s : State} {m : MethodId} {below : List Frame} {meth : Method} {c : Code} (l : Launch) {b L : Nat} {xs : Nat → Int32} (hL : L ≤ 2560) (C0 : lw_At p s m meth c b L xs) {g : GG} {x mo j : Nat} {S : List TyS} {h k : Nat → Option va_E} {H : Heap} {locs : List Loc} {ls : Array Slot} (hj : 5 * j + 5 ≤ L) (hD : DR g h x S) (hM : MR g k mo S) (hS : wfX j S) (hw : W2 g (fun q : Nat => s.heap.size ≤ q) s h k H locs) (hl : lv_has ls 4 [(3, .int (nI (5 * j))), (2, .ref mo), (1, .ref x), (0, .ref b)]) {Q : State → Prop} (kk : ∀ (S' : List TyS) (h' k' : Nat → Option va_E) (H' : Heap) (locs' : List Loc), DR g h' x S' → MR g k' mo S' → wfX (j + 1) S' → W2 g (fun q : Nat => s.heap.size ≤ q) s h' k' H' locs' → W p l e room_1 s m #[Value.ref b] below meth c H' locs' (64 + 6 * j + 6) (18191 + 1700 * j + 1700) Q (F0 m 448 ls [])) : W p l e room_1 s m #[Value.ref b] below meth c H locs (64 + 6 * j) (18191 + 1700 * j) Q (F0 m 152 ls []) := by
  obtain ⟨hx, hb, hr, hml, hown, hts0, hX, hbl, hlocks, hgv⟩ := id C0
  have hts : ∀ w ∈ wsL_law, w.before #[Value.ref b] s = true := fun w z => hts0 w (wsL_law_in w z)
  have hown : s.vm.findClass RL = some m.cls := hown
  have hbA : ¬ (fun q : Nat => s.heap.size ≤ q) b := Nat.not_le.mpr hbl
  refine lv_aload_n hx hb dL_law_152 rfl (lv_at hl 2 rfl) ?_
  refine lv_aload_n hx hb dL_law_153 rfl (lv_at hl 3 rfl) ?_
  refine lv_iload_n hx hb dL_law_154 rfl (lv_at hl 0 rfl) ?_
  refine lv_iconst (v := 1) hx hb dL_law_155 (by decide) ?_
  refine lv_iadd hx hb dL_law_156 ?_
  refine va_sld hx hb hX hbl hbA hw.1.2.2.1 (li_in hj hL 1 (by decide)) dL_law_157 ?_
  obtain ⟨fsd, hxd⟩ := DR_self hD
  refine w_call2 (va_runV (As := [.int (xs (nI (5 * j) + 1).toNatClampNeg)]) (rest := []) ⟨hx, hb, hml, hown, hts⟩ (d_record l g h x S j hD hS.1 (xs (nI (5 * j) + 1).toNatClampNeg) H.size) (cwV 1 hts gL_law_X4_record rfl rfl rfl (by decide +kernel) ⟨Nat.le_of_ble_eq_true rfl, Nat.le_of_ble_eq_true rfl⟩) ⟨pr_blind, w_recv hw.1 hxd rfl, pr_of hw.1⟩ rfl rfl hl.1 rfl (lv_room (Nat.le_of_ble_eq_true rfl)) dL_law_158 ⟨by show 64 + 6 * j + 3 ≤ 600000; omega, by show 18191 + 1700 * j + 811 ≤ 7302250; omega⟩) hw (fun v z' H locs hp hw => ?_)
  obtain ⟨rfl, hD⟩ := hp
  refine W.eq (g2 := F0 m 161 ls [.int (fRec S (xs (nI (5 * j) + 1).toNatClampNeg)).1]) rfl ?_
  refine lv_aload_n hx hb dL_law_161 rfl (lv_at hl 1 rfl) ?_
  refine lv_aload_n hx hb dL_law_162 rfl (lv_at hl 3 rfl) ?_
  refine lv_iload_n hx hb dL_law_163 rfl (lv_at hl 0 rfl) ?_
  refine lv_iconst (v := 1) hx hb dL_law_164 (by decide) ?_
  refine lv_iadd hx hb dL_law_165 ?_
  refine va_sld hx hb hX hbl hbA hw.1.2.2.1 (li_in hj hL 1 (by decide)) dL_law_166 ?_
  obtain ⟨fsm, hxm⟩ := MR_self hM
  refine w_call2 (va_runV (As := [.int (xs (nI (5 * j) + 1).toNatClampNeg)]) (rest := [.int (fRec S (xs (nI (5 * j) + 1).toNatClampNeg)).1]) ⟨hx, hb, hml, hown, hts⟩ (m_record l g k mo S j hM hS.1 (xs (nI (5 * j) + 1).toNatClampNeg) H.size) (cwV 1 hts gL_law_X7_record rfl rfl rfl (by decide +kernel) ⟨Nat.le_of_ble_eq_true rfl, Nat.le_of_ble_eq_true rfl⟩) ⟨pr_blind, w_recv hw.swap.1 hxm rfl, pr_of hw.swap.1⟩ rfl rfl hl.1 rfl (lv_room (Nat.le_of_ble_eq_true rfl)) dL_law_167 ⟨by show 64 + 6 * j + 3 + 3 ≤ 600000; omega, by show 18191 + 1700 * j + 811 + 810 ≤ 7302250; omega⟩) hw.swap (fun v z' H locs hp hw => ?_)
  obtain ⟨rfl, hM⟩ := hp
  have hw := hw.swap
  refine W.eq (g2 := F0 m 170 ls [.int (fRec S (xs (nI (5 * j) + 1).toNatClampNeg)).1, .int (fRec S (xs (nI (5 * j) + 1).toNatClampNeg)).1]) rfl ?_
  refine lv_icmp_eq (tgt := 448) hx hb dL_law_170 (by decide) (fun c9 => ?_) (fun c9 => ?_)
  · exact W.widen (k := 64 + 6 * j + 6) (n := 18191 + 1700 * j + 1700) (by omega) (by omega) (kk _ _ _ _ _ hD hM (wfX_mono (wfX_rec hS) (Nat.le_succ _)) hw)
  · exact absurd rfl c9
set_option maxHeartbeats 4000000 in
set_option maxRecDepth 100000 in
theorem law_field {p : Program} {e : Env} {s : State} {m : MethodId} {below : List Frame} {meth : Method} {c : Code} (l : Launch) {b L : Nat} {xs : Nat → Int32} (hL : L ≤ 2560) (C0 : lw_At p s m meth c b L xs) {g : GG} {x mo j : Nat} {S : List TyS} {h k : Nat → Option va_E} {H : Heap} {locs : List Loc} {ls : Array Slot} (hj : 5 * j + 5 ≤ L) (hD : DR g h x S) (hM : MR g k mo S) (hS : wfX j S) (hw : W2 g (fun q : Nat => s.heap.size ≤ q) s h k H locs) (hl : lv_has ls 4 [(3, .int (nI (5 * j))), (2, .ref mo), (1, .ref x), (0, .ref b)]) {Q : State → Prop} (kk : ∀ (S' : List TyS) (h' k' : Nat → Option va_E) (H' : Heap) (locs' : List Loc), DR g h' x S' → MR g k' mo S' → wfX (j + 1) S' → W2 g (fun q : Nat => s.heap.size ≤ q) s h' k' H' locs' → W p l e room_1 s m #[Value.ref b] below meth c H' locs' (64 + 6 * j + 6) (18191 + 1700 * j + 1700) Q (F0 m 448 ls [])) : W p l e room_1 s m #[Value.ref b] below meth c H locs (64 + 6 * j) (18191 + 1700 * j) Q (F0 m 175 ls []) := by
  obtain ⟨hx, hb, hr, hml, hown, hts0, hX, hbl, hlocks, hgv⟩ := id C0
  have hts : ∀ w ∈ wsL_law, w.before #[Value.ref b] s = true := fun w z => hts0 w (wsL_law_in w z)
  have hown : s.vm.findClass RL = some m.cls := hown
  have hbA : ¬ (fun q : Nat => s.heap.size ≤ q) b := Nat.not_le.mpr hbl
  refine lv_aload_n hx hb dL_law_175 rfl (lv_at hl 2 rfl) ?_
  refine lv_aload_n hx hb dL_law_176 rfl (lv_at hl 3 rfl) ?_
  refine lv_iload_n hx hb dL_law_177 rfl (lv_at hl 0 rfl) ?_
  refine lv_iconst (v := 1) hx hb dL_law_178 (by decide) ?_
  refine lv_iadd hx hb dL_law_179 ?_
  refine va_sld hx hb hX hbl hbA hw.1.2.2.1 (li_in hj hL 1 (by decide)) dL_law_180 ?_
  refine lv_aload_n hx hb dL_law_181 rfl (lv_at hl 3 rfl) ?_
  refine lv_iload_n hx hb dL_law_182 rfl (lv_at hl 0 rfl) ?_
  refine lv_iconst (v := 2) hx hb dL_law_183 (by decide) ?_
  refine lv_iadd hx hb dL_law_184 ?_
  refine va_sld hx hb hX hbl hbA hw.1.2.2.1 (li_in hj hL 2 (by decide)) dL_law_185 ?_
  obtain ⟨fsd, hxd⟩ := DR_self hD
  refine w_call2 (va_runV (As := [.int (xs (nI (5 * j) + 1).toNatClampNeg), .int (xs (nI (5 * j) + 2).toNatClampNeg)]) (rest := []) ⟨hx, hb, hml, hown, hts⟩ (d_field l g h x S j hD hS.1 (xs (nI (5 * j) + 1).toNatClampNeg) (xs (nI (5 * j) + 2).toNatClampNeg) H.size) (cwV 2 hts gL_law_X4_field rfl rfl rfl (by decide +kernel) ⟨Nat.le_of_ble_eq_true rfl, Nat.le_of_ble_eq_true rfl⟩) ⟨pr_blind, w_recv hw.1 hxd rfl, pr_of hw.1⟩ rfl rfl hl.1 rfl (lv_room (Nat.le_of_ble_eq_true rfl)) dL_law_186 ⟨by show 64 + 6 * j + 2 ≤ 600000; omega, by show 18191 + 1700 * j + 804 ≤ 7302250; omega⟩) hw (fun v z' H locs hp hw => ?_)
  obtain ⟨rfl, hD⟩ := hp
  refine W.eq (g2 := F0 m 189 ls [.int (fFld S (xs (nI (5 * j) + 1).toNatClampNeg) (xs (nI (5 * j) + 2).toNatClampNeg)).1]) rfl ?_
  refine lv_aload_n hx hb dL_law_189 rfl (lv_at hl 1 rfl) ?_
  refine lv_aload_n hx hb dL_law_190 rfl (lv_at hl 3 rfl) ?_
  refine lv_iload_n hx hb dL_law_191 rfl (lv_at hl 0 rfl) ?_
  refine lv_iconst (v := 1) hx hb dL_law_192 (by decide) ?_
  refine lv_iadd hx hb dL_law_193 ?_
  refine va_sld hx hb hX hbl hbA hw.1.2.2.1 (li_in hj hL 1 (by decide)) dL_law_194 ?_
  refine lv_aload_n hx hb dL_law_195 rfl (lv_at hl 3 rfl) ?_
  refine lv_iload_n hx hb dL_law_196 rfl (lv_at hl 0 rfl) ?_
  refine lv_iconst (v := 2) hx hb dL_law_197 (by decide) ?_
  refine lv_iadd hx hb dL_law_198 ?_
  refine va_sld hx hb hX hbl hbA hw.1.2.2.1 (li_in hj hL 2 (by decide)) dL_law_199 ?_
  obtain ⟨fsm, hxm⟩ := MR_self hM
  refine w_call2 (va_runV (As := [.int (xs (nI (5 * j) + 1).toNatClampNeg), .int (xs (nI (5 * j) + 2).toNatClampNeg)]) (rest := [.int (fFld S (xs (nI (5 * j) + 1).toNatClampNeg) (xs (nI (5 * j) + 2).toNatClampNeg)).1]) ⟨hx, hb, hml, hown, hts⟩ (m_field l g k mo S j hM hS.1 (by omega) (xs (nI (5 * j) + 1).toNatClampNeg) (xs (nI (5 * j) + 2).toNatClampNeg) H.size) (cwV 2 hts gL_law_X7_field rfl rfl rfl (by decide +kernel) ⟨Nat.le_of_ble_eq_true rfl, Nat.le_of_ble_eq_true rfl⟩) ⟨pr_blind, w_recv hw.swap.1 hxm rfl, pr_of hw.swap.1⟩ rfl rfl hl.1 rfl (lv_room (Nat.le_of_ble_eq_true rfl)) dL_law_200 ⟨by show 64 + 6 * j + 2 + 2 ≤ 600000; omega, by show 18191 + 1700 * j + 804 + 803 ≤ 7302250; omega⟩) hw.swap (fun v z' H locs hp hw => ?_)
  obtain ⟨rfl, hM⟩ := hp
  have hw := hw.swap
  refine W.eq (g2 := F0 m 203 ls [.int (fFld S (xs (nI (5 * j) + 1).toNatClampNeg) (xs (nI (5 * j) + 2).toNatClampNeg)).1, .int (fFld S (xs (nI (5 * j) + 1).toNatClampNeg) (xs (nI (5 * j) + 2).toNatClampNeg)).1]) rfl ?_
  refine lv_icmp_eq (tgt := 448) hx hb dL_law_203 (by decide) (fun c9 => ?_) (fun c9 => ?_)
  · exact W.widen (k := 64 + 6 * j + 6) (n := 18191 + 1700 * j + 1700) (by omega) (by omega) (kk _ _ _ _ _ hD hM (wfX_fld hS) hw)
  · exact absurd rfl c9
set_option maxHeartbeats 4000000 in
set_option maxRecDepth 100000 in
theorem law_bits {p : Program} {e : Env} {s : State} {m : MethodId} {below : List Frame} {meth : Method} {c : Code} (l : Launch) {b L : Nat} {xs : Nat → Int32} (hL : L ≤ 2560) (C0 : lw_At p s m meth c b L xs) {g : GG} {x mo j : Nat} {S : List TyS} {h k : Nat → Option va_E} {H : Heap} {locs : List Loc} {ls : Array Slot} (hj : 5 * j + 5 ≤ L) (hD : DR g h x S) (hM : MR g k mo S) (hS : wfX j S) (hw : W2 g (fun q : Nat => s.heap.size ≤ q) s h k H locs) (hl : lv_has ls 4 [(3, .int (nI (5 * j))), (2, .ref mo), (1, .ref x), (0, .ref b)]) {Q : State → Prop} (kk : ∀ (S' : List TyS) (h' k' : Nat → Option va_E) (H' : Heap) (locs' : List Loc), DR g h' x S' → MR g k' mo S' → wfX (j + 1) S' → W2 g (fun q : Nat => s.heap.size ≤ q) s h' k' H' locs' → W p l e room_1 s m #[Value.ref b] below meth c H' locs' (64 + 6 * j + 6) (18191 + 1700 * j + 1700) Q (F0 m 448 ls [])) : W p l e room_1 s m #[Value.ref b] below meth c H locs (64 + 6 * j) (18191 + 1700 * j) Q (F0 m 208 ls []) := by
  obtain ⟨hx, hb, hr, hml, hown, hts0, hX, hbl, hlocks, hgv⟩ := id C0
  have hts : ∀ w ∈ wsL_law, w.before #[Value.ref b] s = true := fun w z => hts0 w (wsL_law_in w z)
  have hown : s.vm.findClass RL = some m.cls := hown
  have hbA : ¬ (fun q : Nat => s.heap.size ≤ q) b := Nat.not_le.mpr hbl
  refine lv_aload_n hx hb dL_law_208 rfl (lv_at hl 2 rfl) ?_
  refine lv_aload_n hx hb dL_law_209 rfl (lv_at hl 3 rfl) ?_
  refine lv_iload_n hx hb dL_law_210 rfl (lv_at hl 0 rfl) ?_
  refine lv_iconst (v := 1) hx hb dL_law_211 (by decide) ?_
  refine lv_iadd hx hb dL_law_212 ?_
  refine va_sld hx hb hX hbl hbA hw.1.2.2.1 (li_in hj hL 1 (by decide)) dL_law_213 ?_
  refine lv_aload_n hx hb dL_law_214 rfl (lv_at hl 3 rfl) ?_
  refine lv_iload_n hx hb dL_law_215 rfl (lv_at hl 0 rfl) ?_
  refine lv_iconst (v := 2) hx hb dL_law_216 (by decide) ?_
  refine lv_iadd hx hb dL_law_217 ?_
  refine va_sld hx hb hX hbl hbA hw.1.2.2.1 (li_in hj hL 2 (by decide)) dL_law_218 ?_
  refine lv_aload_n hx hb dL_law_219 rfl (lv_at hl 3 rfl) ?_
  refine lv_iload_n hx hb dL_law_220 rfl (lv_at hl 0 rfl) ?_
  refine lv_iconst (v := 3) hx hb dL_law_221 (by decide) ?_
  refine lv_iadd hx hb dL_law_222 ?_
  refine va_sld hx hb hX hbl hbA hw.1.2.2.1 (li_in hj hL 3 (by decide)) dL_law_223 ?_
  refine lv_aload_n hx hb dL_law_224 rfl (lv_at hl 3 rfl) ?_
  refine lv_iload_n hx hb dL_law_225 rfl (lv_at hl 0 rfl) ?_
  refine lv_iconst (v := 4) hx hb dL_law_226 (by decide) ?_
  refine lv_iadd hx hb dL_law_227 ?_
  refine va_sld hx hb hX hbl hbA hw.1.2.2.1 (li_in hj hL 4 (by decide)) dL_law_228 ?_
  refine lv_if_eq (tgt := 236) hx hb dL_law_229 (by decide) (fun c229 => ?_) (fun c229 => ?_)
  · refine lv_iconst (v := 0) hx hb dL_law_236 (by decide) ?_
    obtain ⟨fsd, hxd⟩ := DR_self hD
    refine w_call2 (va_runV (As := [.int (xs (nI (5 * j) + 1).toNatClampNeg), .int (xs (nI (5 * j) + 2).toNatClampNeg), .int (xs (nI (5 * j) + 3).toNatClampNeg), .int 0]) (rest := []) ⟨hx, hb, hml, hown, hts⟩ (d_bits l g h x S j hD hS.1 (xs (nI (5 * j) + 1).toNatClampNeg) (xs (nI (5 * j) + 2).toNatClampNeg) (xs (nI (5 * j) + 3).toNatClampNeg) 0 H.size) (cwV 4 hts gL_law_X4_bits rfl rfl rfl (by decide +kernel) ⟨Nat.le_of_ble_eq_true rfl, Nat.le_of_ble_eq_true rfl⟩) ⟨pr_blind, w_recv hw.1 hxd rfl, pr_of hw.1⟩ rfl rfl hl.1 rfl (lv_room (Nat.le_of_ble_eq_true rfl)) dL_law_237 ⟨by show 64 + 6 * j + 2 ≤ 600000; omega, by show 18191 + 1700 * j + 804 ≤ 7302250; omega⟩) hw (fun v z' H locs hp hw => ?_)
    obtain ⟨rfl, hD⟩ := hp
    refine W.eq (g2 := F0 m 240 ls [.int (fBit S (xs (nI (5 * j) + 1).toNatClampNeg) (xs (nI (5 * j) + 2).toNatClampNeg) (xs (nI (5 * j) + 3).toNatClampNeg) 0).1]) rfl ?_
    refine lv_aload_n hx hb dL_law_240 rfl (lv_at hl 1 rfl) ?_
    refine lv_aload_n hx hb dL_law_241 rfl (lv_at hl 3 rfl) ?_
    refine lv_iload_n hx hb dL_law_242 rfl (lv_at hl 0 rfl) ?_
    refine lv_iconst (v := 1) hx hb dL_law_243 (by decide) ?_
    refine lv_iadd hx hb dL_law_244 ?_
    refine va_sld hx hb hX hbl hbA hw.1.2.2.1 (li_in hj hL 1 (by decide)) dL_law_245 ?_
    refine lv_aload_n hx hb dL_law_246 rfl (lv_at hl 3 rfl) ?_
    refine lv_iload_n hx hb dL_law_247 rfl (lv_at hl 0 rfl) ?_
    refine lv_iconst (v := 2) hx hb dL_law_248 (by decide) ?_
    refine lv_iadd hx hb dL_law_249 ?_
    refine va_sld hx hb hX hbl hbA hw.1.2.2.1 (li_in hj hL 2 (by decide)) dL_law_250 ?_
    refine lv_aload_n hx hb dL_law_251 rfl (lv_at hl 3 rfl) ?_
    refine lv_iload_n hx hb dL_law_252 rfl (lv_at hl 0 rfl) ?_
    refine lv_iconst (v := 3) hx hb dL_law_253 (by decide) ?_
    refine lv_iadd hx hb dL_law_254 ?_
    refine va_sld hx hb hX hbl hbA hw.1.2.2.1 (li_in hj hL 3 (by decide)) dL_law_255 ?_
    refine lv_aload_n hx hb dL_law_256 rfl (lv_at hl 3 rfl) ?_
    refine lv_iload_n hx hb dL_law_257 rfl (lv_at hl 0 rfl) ?_
    refine lv_iconst (v := 4) hx hb dL_law_258 (by decide) ?_
    refine lv_iadd hx hb dL_law_259 ?_
    refine va_sld hx hb hX hbl hbA hw.1.2.2.1 (li_in hj hL 4 (by decide)) dL_law_260 ?_
    refine lv_if_eq (tgt := 268) hx hb dL_law_261 (by decide) (fun c261 => ?_) (fun c261 => ?_)
    · refine lv_iconst (v := 0) hx hb dL_law_268 (by decide) ?_
      obtain ⟨fsm, hxm⟩ := MR_self hM
      refine w_call2 (va_runV (As := [.int (xs (nI (5 * j) + 1).toNatClampNeg), .int (xs (nI (5 * j) + 2).toNatClampNeg), .int (xs (nI (5 * j) + 3).toNatClampNeg), .int 0]) (rest := [.int (fBit S (xs (nI (5 * j) + 1).toNatClampNeg) (xs (nI (5 * j) + 2).toNatClampNeg) (xs (nI (5 * j) + 3).toNatClampNeg) 0).1]) ⟨hx, hb, hml, hown, hts⟩ (m_bits l g k mo S j hM hS.1 (by omega) (xs (nI (5 * j) + 1).toNatClampNeg) (xs (nI (5 * j) + 2).toNatClampNeg) (xs (nI (5 * j) + 3).toNatClampNeg) 0 H.size) (cwV 4 hts gL_law_X7_bits rfl rfl rfl (by decide +kernel) ⟨Nat.le_of_ble_eq_true rfl, Nat.le_of_ble_eq_true rfl⟩) ⟨pr_blind, w_recv hw.swap.1 hxm rfl, pr_of hw.swap.1⟩ rfl rfl hl.1 rfl (lv_room (Nat.le_of_ble_eq_true rfl)) dL_law_269 ⟨by show 64 + 6 * j + 2 + 2 ≤ 600000; omega, by show 18191 + 1700 * j + 804 + 803 ≤ 7302250; omega⟩) hw.swap (fun v z' H locs hp hw => ?_)
      obtain ⟨rfl, hM⟩ := hp
      have hw := hw.swap
      refine W.eq (g2 := F0 m 272 ls [.int (fBit S (xs (nI (5 * j) + 1).toNatClampNeg) (xs (nI (5 * j) + 2).toNatClampNeg) (xs (nI (5 * j) + 3).toNatClampNeg) 0).1, .int (fBit S (xs (nI (5 * j) + 1).toNatClampNeg) (xs (nI (5 * j) + 2).toNatClampNeg) (xs (nI (5 * j) + 3).toNatClampNeg) 0).1]) rfl ?_
      refine lv_icmp_eq (tgt := 448) hx hb dL_law_272 (by decide) (fun c9 => ?_) (fun c9 => ?_)
      · exact W.widen (k := 64 + 6 * j + 6) (n := 18191 + 1700 * j + 1700) (by omega) (by omega) (kk _ _ _ _ _ hD hM (wfX_bit hS) hw)
      · exact absurd rfl c9
    · exact absurd c229 c261
  · refine lv_iconst (v := 1) hx hb dL_law_232 (by decide) ?_
    refine lv_goto (tgt := 237) hx hb dL_law_233 (by decide) ?_
    obtain ⟨fsd, hxd⟩ := DR_self hD
    refine w_call2 (va_runV (As := [.int (xs (nI (5 * j) + 1).toNatClampNeg), .int (xs (nI (5 * j) + 2).toNatClampNeg), .int (xs (nI (5 * j) + 3).toNatClampNeg), .int 1]) (rest := []) ⟨hx, hb, hml, hown, hts⟩ (d_bits l g h x S j hD hS.1 (xs (nI (5 * j) + 1).toNatClampNeg) (xs (nI (5 * j) + 2).toNatClampNeg) (xs (nI (5 * j) + 3).toNatClampNeg) 1 H.size) (cwV 4 hts gL_law_X4_bits rfl rfl rfl (by decide +kernel) ⟨Nat.le_of_ble_eq_true rfl, Nat.le_of_ble_eq_true rfl⟩) ⟨pr_blind, w_recv hw.1 hxd rfl, pr_of hw.1⟩ rfl rfl hl.1 rfl (lv_room (Nat.le_of_ble_eq_true rfl)) dL_law_237 ⟨by show 64 + 6 * j + 2 ≤ 600000; omega, by show 18191 + 1700 * j + 804 ≤ 7302250; omega⟩) hw (fun v z' H locs hp hw => ?_)
    obtain ⟨rfl, hD⟩ := hp
    refine W.eq (g2 := F0 m 240 ls [.int (fBit S (xs (nI (5 * j) + 1).toNatClampNeg) (xs (nI (5 * j) + 2).toNatClampNeg) (xs (nI (5 * j) + 3).toNatClampNeg) 1).1]) rfl ?_
    refine lv_aload_n hx hb dL_law_240 rfl (lv_at hl 1 rfl) ?_
    refine lv_aload_n hx hb dL_law_241 rfl (lv_at hl 3 rfl) ?_
    refine lv_iload_n hx hb dL_law_242 rfl (lv_at hl 0 rfl) ?_
    refine lv_iconst (v := 1) hx hb dL_law_243 (by decide) ?_
    refine lv_iadd hx hb dL_law_244 ?_
    refine va_sld hx hb hX hbl hbA hw.1.2.2.1 (li_in hj hL 1 (by decide)) dL_law_245 ?_
    refine lv_aload_n hx hb dL_law_246 rfl (lv_at hl 3 rfl) ?_
    refine lv_iload_n hx hb dL_law_247 rfl (lv_at hl 0 rfl) ?_
    refine lv_iconst (v := 2) hx hb dL_law_248 (by decide) ?_
    refine lv_iadd hx hb dL_law_249 ?_
    refine va_sld hx hb hX hbl hbA hw.1.2.2.1 (li_in hj hL 2 (by decide)) dL_law_250 ?_
    refine lv_aload_n hx hb dL_law_251 rfl (lv_at hl 3 rfl) ?_
    refine lv_iload_n hx hb dL_law_252 rfl (lv_at hl 0 rfl) ?_
    refine lv_iconst (v := 3) hx hb dL_law_253 (by decide) ?_
    refine lv_iadd hx hb dL_law_254 ?_
    refine va_sld hx hb hX hbl hbA hw.1.2.2.1 (li_in hj hL 3 (by decide)) dL_law_255 ?_
    refine lv_aload_n hx hb dL_law_256 rfl (lv_at hl 3 rfl) ?_
    refine lv_iload_n hx hb dL_law_257 rfl (lv_at hl 0 rfl) ?_
    refine lv_iconst (v := 4) hx hb dL_law_258 (by decide) ?_
    refine lv_iadd hx hb dL_law_259 ?_
    refine va_sld hx hb hX hbl hbA hw.1.2.2.1 (li_in hj hL 4 (by decide)) dL_law_260 ?_
    refine lv_if_eq (tgt := 268) hx hb dL_law_261 (by decide) (fun c261 => ?_) (fun c261 => ?_)
    · exact absurd c261 c229
    · refine lv_iconst (v := 1) hx hb dL_law_264 (by decide) ?_
      refine lv_goto (tgt := 269) hx hb dL_law_265 (by decide) ?_
      obtain ⟨fsm, hxm⟩ := MR_self hM
      refine w_call2 (va_runV (As := [.int (xs (nI (5 * j) + 1).toNatClampNeg), .int (xs (nI (5 * j) + 2).toNatClampNeg), .int (xs (nI (5 * j) + 3).toNatClampNeg), .int 1]) (rest := [.int (fBit S (xs (nI (5 * j) + 1).toNatClampNeg) (xs (nI (5 * j) + 2).toNatClampNeg) (xs (nI (5 * j) + 3).toNatClampNeg) 1).1]) ⟨hx, hb, hml, hown, hts⟩ (m_bits l g k mo S j hM hS.1 (by omega) (xs (nI (5 * j) + 1).toNatClampNeg) (xs (nI (5 * j) + 2).toNatClampNeg) (xs (nI (5 * j) + 3).toNatClampNeg) 1 H.size) (cwV 4 hts gL_law_X7_bits rfl rfl rfl (by decide +kernel) ⟨Nat.le_of_ble_eq_true rfl, Nat.le_of_ble_eq_true rfl⟩) ⟨pr_blind, w_recv hw.swap.1 hxm rfl, pr_of hw.swap.1⟩ rfl rfl hl.1 rfl (lv_room (Nat.le_of_ble_eq_true rfl)) dL_law_269 ⟨by show 64 + 6 * j + 2 + 2 ≤ 600000; omega, by show 18191 + 1700 * j + 804 + 803 ≤ 7302250; omega⟩) hw.swap (fun v z' H locs hp hw => ?_)
      obtain ⟨rfl, hM⟩ := hp
      have hw := hw.swap
      refine W.eq (g2 := F0 m 272 ls [.int (fBit S (xs (nI (5 * j) + 1).toNatClampNeg) (xs (nI (5 * j) + 2).toNatClampNeg) (xs (nI (5 * j) + 3).toNatClampNeg) 1).1, .int (fBit S (xs (nI (5 * j) + 1).toNatClampNeg) (xs (nI (5 * j) + 2).toNatClampNeg) (xs (nI (5 * j) + 3).toNatClampNeg) 1).1]) rfl ?_
      refine lv_icmp_eq (tgt := 448) hx hb dL_law_272 (by decide) (fun c9 => ?_) (fun c9 => ?_)
      · exact W.widen (k := 64 + 6 * j + 6) (n := 18191 + 1700 * j + 1700) (by omega) (by omega) (kk _ _ _ _ _ hD hM (wfX_bit hS) hw)
      · exact absurd rfl c9
set_option maxHeartbeats 4000000 in
set_option maxRecDepth 100000 in
theorem law_separate {p : Program} {e : Env} {s : State} {m : MethodId} {below : List Frame} {meth : Method} {c : Code} (l : Launch) {b L : Nat} {xs : Nat → Int32} (hL : L ≤ 2560) (C0 : lw_At p s m meth c b L xs) {g : GG} {x mo j : Nat} {S : List TyS} {h k : Nat → Option va_E} {H : Heap} {locs : List Loc} {ls : Array Slot} (hj : 5 * j + 5 ≤ L) (hD : DR g h x S) (hM : MR g k mo S) (hS : wfX j S) (hw : W2 g (fun q : Nat => s.heap.size ≤ q) s h k H locs) (hl : lv_has ls 4 [(3, .int (nI (5 * j))), (2, .ref mo), (1, .ref x), (0, .ref b)]) {Q : State → Prop} (kk : ∀ (S' : List TyS) (h' k' : Nat → Option va_E) (H' : Heap) (locs' : List Loc), DR g h' x S' → MR g k' mo S' → wfX (j + 1) S' → W2 g (fun q : Nat => s.heap.size ≤ q) s h' k' H' locs' → W p l e room_1 s m #[Value.ref b] below meth c H' locs' (64 + 6 * j + 6) (18191 + 1700 * j + 1700) Q (F0 m 448 ls [])) : W p l e room_1 s m #[Value.ref b] below meth c H locs (64 + 6 * j) (18191 + 1700 * j) Q (F0 m 277 ls []) := by
  obtain ⟨hx, hb, hr, hml, hown, hts0, hX, hbl, hlocks, hgv⟩ := id C0
  have hts : ∀ w ∈ wsL_law, w.before #[Value.ref b] s = true := fun w z => hts0 w (wsL_law_in w z)
  have hown : s.vm.findClass RL = some m.cls := hown
  have hbA : ¬ (fun q : Nat => s.heap.size ≤ q) b := Nat.not_le.mpr hbl
  refine lv_aload_n hx hb dL_law_277 rfl (lv_at hl 2 rfl) ?_
  refine lv_aload_n hx hb dL_law_278 rfl (lv_at hl 3 rfl) ?_
  refine lv_iload_n hx hb dL_law_279 rfl (lv_at hl 0 rfl) ?_
  refine lv_iconst (v := 1) hx hb dL_law_280 (by decide) ?_
  refine lv_iadd hx hb dL_law_281 ?_
  refine va_sld hx hb hX hbl hbA hw.1.2.2.1 (li_in hj hL 1 (by decide)) dL_law_282 ?_
  obtain ⟨fsd, hxd⟩ := DR_self hD
  refine w_call2 (va_runV (As := [.int (xs (nI (5 * j) + 1).toNatClampNeg)]) (rest := []) ⟨hx, hb, hml, hown, hts⟩ (d_separate l g h x S j hD hS.1 (xs (nI (5 * j) + 1).toNatClampNeg) H.size) (cwV 1 hts gL_law_X4_separate rfl rfl rfl (by decide +kernel) ⟨Nat.le_of_ble_eq_true rfl, Nat.le_of_ble_eq_true rfl⟩) ⟨pr_blind, w_recv hw.1 hxd rfl, pr_of hw.1⟩ rfl rfl hl.1 rfl (lv_room (Nat.le_of_ble_eq_true rfl)) dL_law_283 ⟨by show 64 + 6 * j + 0 ≤ 600000; omega, by show 18191 + 1700 * j + 0 ≤ 7302250; omega⟩) hw (fun v z' H locs hp hw => ?_)
  obtain ⟨rfl, hD⟩ := hp
  refine W.eq (g2 := F0 m 286 ls [.int (fSep S (xs (nI (5 * j) + 1).toNatClampNeg)).1]) rfl ?_
  refine lv_aload_n hx hb dL_law_286 rfl (lv_at hl 1 rfl) ?_
  refine lv_aload_n hx hb dL_law_287 rfl (lv_at hl 3 rfl) ?_
  refine lv_iload_n hx hb dL_law_288 rfl (lv_at hl 0 rfl) ?_
  refine lv_iconst (v := 1) hx hb dL_law_289 (by decide) ?_
  refine lv_iadd hx hb dL_law_290 ?_
  refine va_sld hx hb hX hbl hbA hw.1.2.2.1 (li_in hj hL 1 (by decide)) dL_law_291 ?_
  obtain ⟨fsm, hxm⟩ := MR_self hM
  refine w_call2 (va_runV (As := [.int (xs (nI (5 * j) + 1).toNatClampNeg)]) (rest := [.int (fSep S (xs (nI (5 * j) + 1).toNatClampNeg)).1]) ⟨hx, hb, hml, hown, hts⟩ (m_separate l g k mo S j hM hS.1 (by omega) (xs (nI (5 * j) + 1).toNatClampNeg) H.size) (cwV 1 hts gL_law_X7_separate rfl rfl rfl (by decide +kernel) ⟨Nat.le_of_ble_eq_true rfl, Nat.le_of_ble_eq_true rfl⟩) ⟨pr_blind, w_recv hw.swap.1 hxm rfl, pr_of hw.swap.1⟩ rfl rfl hl.1 rfl (lv_room (Nat.le_of_ble_eq_true rfl)) dL_law_292 ⟨by show 64 + 6 * j + 0 + 2 ≤ 600000; omega, by show 18191 + 1700 * j + 0 + 803 ≤ 7302250; omega⟩) hw.swap (fun v z' H locs hp hw => ?_)
  obtain ⟨rfl, hM⟩ := hp
  have hw := hw.swap
  refine W.eq (g2 := F0 m 295 ls [.int (fSep S (xs (nI (5 * j) + 1).toNatClampNeg)).1, .int (fSep S (xs (nI (5 * j) + 1).toNatClampNeg)).1]) rfl ?_
  refine lv_icmp_eq (tgt := 448) hx hb dL_law_295 (by decide) (fun c9 => ?_) (fun c9 => ?_)
  · exact W.widen (k := 64 + 6 * j + 6) (n := 18191 + 1700 * j + 1700) (by omega) (by omega) (kk _ _ _ _ _ hD hM (wfX_sep hS) hw)
  · exact absurd rfl c9
set_option maxHeartbeats 4000000 in
set_option maxRecDepth 100000 in
theorem law_finish {p : Program} {e : Env} {s : State} {m : MethodId} {below : List Frame} {meth : Method} {c : Code} (l : Launch) {b L : Nat} {xs : Nat → Int32} (hL : L ≤ 2560) (C0 : lw_At p s m meth c b L xs) {g : GG} {x mo j : Nat} {S : List TyS} {h k : Nat → Option va_E} {H : Heap} {locs : List Loc} {ls : Array Slot} (hj : 5 * j + 5 ≤ L) (hD : DR g h x S) (hM : MR g k mo S) (hS : wfX j S) (hw : W2 g (fun q : Nat => s.heap.size ≤ q) s h k H locs) (hl : lv_has ls 4 [(3, .int (nI (5 * j))), (2, .ref mo), (1, .ref x), (0, .ref b)]) {Q : State → Prop} (kk : ∀ (S' : List TyS) (h' k' : Nat → Option va_E) (H' : Heap) (locs' : List Loc), DR g h' x S' → MR g k' mo S' → wfX (j + 1) S' → W2 g (fun q : Nat => s.heap.size ≤ q) s h' k' H' locs' → W p l e room_1 s m #[Value.ref b] below meth c H' locs' (64 + 6 * j + 6) (18191 + 1700 * j + 1700) Q (F0 m 448 ls [])) : W p l e room_1 s m #[Value.ref b] below meth c H locs (64 + 6 * j) (18191 + 1700 * j) Q (F0 m 300 ls []) := by
  obtain ⟨hx, hb, hr, hml, hown, hts0, hX, hbl, hlocks, hgv⟩ := id C0
  have hts : ∀ w ∈ wsL_law, w.before #[Value.ref b] s = true := fun w z => hts0 w (wsL_law_in w z)
  have hown : s.vm.findClass RL = some m.cls := hown
  have hbA : ¬ (fun q : Nat => s.heap.size ≤ q) b := Nat.not_le.mpr hbl
  refine lv_aload_n hx hb dL_law_300 rfl (lv_at hl 2 rfl) ?_
  refine lv_aload_n hx hb dL_law_301 rfl (lv_at hl 3 rfl) ?_
  refine lv_iload_n hx hb dL_law_302 rfl (lv_at hl 0 rfl) ?_
  refine lv_iconst (v := 1) hx hb dL_law_303 (by decide) ?_
  refine lv_iadd hx hb dL_law_304 ?_
  refine va_sld hx hb hX hbl hbA hw.1.2.2.1 (li_in hj hL 1 (by decide)) dL_law_305 ?_
  obtain ⟨fsd, hxd⟩ := DR_self hD
  refine w_call2 (va_runV (As := [.int (xs (nI (5 * j) + 1).toNatClampNeg)]) (rest := []) ⟨hx, hb, hml, hown, hts⟩ (d_finish l g h x S j hD hS.1 (xs (nI (5 * j) + 1).toNatClampNeg) H.size) (cwV 1 hts gL_law_X4_finish rfl rfl rfl (by decide +kernel) ⟨Nat.le_of_ble_eq_true rfl, Nat.le_of_ble_eq_true rfl⟩) ⟨pr_blind, w_recv hw.1 hxd rfl, pr_of hw.1⟩ rfl rfl hl.1 rfl (lv_room (Nat.le_of_ble_eq_true rfl)) dL_law_306 ⟨by show 64 + 6 * j + 0 ≤ 600000; omega, by show 18191 + 1700 * j + 0 ≤ 7302250; omega⟩) hw (fun v z' H locs hp hw => ?_)
  obtain ⟨rfl, hD⟩ := hp
  refine W.eq (g2 := F0 m 309 ls [.int (fFin S (xs (nI (5 * j) + 1).toNatClampNeg)).1]) rfl ?_
  refine lv_aload_n hx hb dL_law_309 rfl (lv_at hl 1 rfl) ?_
  refine lv_aload_n hx hb dL_law_310 rfl (lv_at hl 3 rfl) ?_
  refine lv_iload_n hx hb dL_law_311 rfl (lv_at hl 0 rfl) ?_
  refine lv_iconst (v := 1) hx hb dL_law_312 (by decide) ?_
  refine lv_iadd hx hb dL_law_313 ?_
  refine va_sld hx hb hX hbl hbA hw.1.2.2.1 (li_in hj hL 1 (by decide)) dL_law_314 ?_
  obtain ⟨fsm, hxm⟩ := MR_self hM
  refine w_call2 (va_runV (As := [.int (xs (nI (5 * j) + 1).toNatClampNeg)]) (rest := [.int (fFin S (xs (nI (5 * j) + 1).toNatClampNeg)).1]) ⟨hx, hb, hml, hown, hts⟩ (m_finish l g k mo S j hM hS.1 (xs (nI (5 * j) + 1).toNatClampNeg) H.size) (cwV 1 hts gL_law_X7_finish rfl rfl rfl (by decide +kernel) ⟨Nat.le_of_ble_eq_true rfl, Nat.le_of_ble_eq_true rfl⟩) ⟨pr_blind, w_recv hw.swap.1 hxm rfl, pr_of hw.swap.1⟩ rfl rfl hl.1 rfl (lv_room (Nat.le_of_ble_eq_true rfl)) dL_law_315 ⟨by show 64 + 6 * j + 0 + 0 ≤ 600000; omega, by show 18191 + 1700 * j + 0 + 0 ≤ 7302250; omega⟩) hw.swap (fun v z' H locs hp hw => ?_)
  obtain ⟨rfl, hM⟩ := hp
  have hw := hw.swap
  refine W.eq (g2 := F0 m 318 ls [.int (fFin S (xs (nI (5 * j) + 1).toNatClampNeg)).1, .int (fFin S (xs (nI (5 * j) + 1).toNatClampNeg)).1]) rfl ?_
  refine lv_icmp_eq (tgt := 448) hx hb dL_law_318 (by decide) (fun c9 => ?_) (fun c9 => ?_)
  · exact W.widen (k := 64 + 6 * j + 6) (n := 18191 + 1700 * j + 1700) (by omega) (by omega) (kk _ _ _ _ _ hD hM (wfX_mono (wfX_fin hS) (Nat.le_succ _)) hw)
  · exact absurd rfl c9
set_option maxHeartbeats 4000000 in
set_option maxRecDepth 100000 in
theorem law_types {p : Program} {e : Env} {s : State} {m : MethodId} {below : List Frame} {meth : Method} {c : Code} (l : Launch) {b L : Nat} {xs : Nat → Int32} (hL : L ≤ 2560) (C0 : lw_At p s m meth c b L xs) {g : GG} {x mo j : Nat} {S : List TyS} {h k : Nat → Option va_E} {H : Heap} {locs : List Loc} {ls : Array Slot} (hj : 5 * j + 5 ≤ L) (hD : DR g h x S) (hM : MR g k mo S) (hS : wfX j S) (hw : W2 g (fun q : Nat => s.heap.size ≤ q) s h k H locs) (hl : lv_has ls 4 [(3, .int (nI (5 * j))), (2, .ref mo), (1, .ref x), (0, .ref b)]) {Q : State → Prop} (kk : ∀ (S' : List TyS) (h' k' : Nat → Option va_E) (H' : Heap) (locs' : List Loc), DR g h' x S' → MR g k' mo S' → wfX (j + 1) S' → W2 g (fun q : Nat => s.heap.size ≤ q) s h' k' H' locs' → W p l e room_1 s m #[Value.ref b] below meth c H' locs' (64 + 6 * j + 6) (18191 + 1700 * j + 1700) Q (F0 m 448 ls [])) : W p l e room_1 s m #[Value.ref b] below meth c H locs (64 + 6 * j) (18191 + 1700 * j) Q (F0 m 323 ls []) := by
  obtain ⟨hx, hb, hr, hml, hown, hts0, hX, hbl, hlocks, hgv⟩ := id C0
  have hts : ∀ w ∈ wsL_law, w.before #[Value.ref b] s = true := fun w z => hts0 w (wsL_law_in w z)
  have hown : s.vm.findClass RL = some m.cls := hown
  have hbA : ¬ (fun q : Nat => s.heap.size ≤ q) b := Nat.not_le.mpr hbl
  refine lv_aload_n hx hb dL_law_323 rfl (lv_at hl 2 rfl) ?_
  obtain ⟨fsd, hxd⟩ := DR_self hD
  refine w_call2 (va_runV (As := []) (rest := []) ⟨hx, hb, hml, hown, hts⟩ (d_types l g h x S j hD hS.1  H.size) (cwV 0 hts gL_law_X4_types rfl rfl rfl (by decide +kernel) ⟨Nat.le_of_ble_eq_true rfl, Nat.le_of_ble_eq_true rfl⟩) ⟨pr_blind, w_recv hw.1 hxd rfl, pr_of hw.1⟩ rfl rfl hl.1 rfl (lv_room (Nat.le_of_ble_eq_true rfl)) dL_law_324 ⟨by show 64 + 6 * j + 0 ≤ 600000; omega, by show 18191 + 1700 * j + 0 ≤ 7302250; omega⟩) hw (fun v z' H locs hp hw => ?_)
  obtain ⟨rfl, hD⟩ := hp
  refine W.eq (g2 := F0 m 327 ls [.int (nI S.length)]) rfl ?_
  refine lv_aload_n hx hb dL_law_327 rfl (lv_at hl 1 rfl) ?_
  obtain ⟨fsm, hxm⟩ := MR_self hM
  refine w_call2 (va_runV (As := []) (rest := [.int (nI S.length)]) ⟨hx, hb, hml, hown, hts⟩ (m_types l g k mo S j hM hS.1  H.size) (cwV 0 hts gL_law_X7_types rfl rfl rfl (by decide +kernel) ⟨Nat.le_of_ble_eq_true rfl, Nat.le_of_ble_eq_true rfl⟩) ⟨pr_blind, w_recv hw.swap.1 hxm rfl, pr_of hw.swap.1⟩ rfl rfl hl.1 rfl (lv_room (Nat.le_of_ble_eq_true rfl)) dL_law_328 ⟨by show 64 + 6 * j + 0 + 0 ≤ 600000; omega, by show 18191 + 1700 * j + 0 + 0 ≤ 7302250; omega⟩) hw.swap (fun v z' H locs hp hw => ?_)
  obtain ⟨rfl, hM⟩ := hp
  have hw := hw.swap
  refine W.eq (g2 := F0 m 331 ls [.int (nI S.length), .int (nI S.length)]) rfl ?_
  refine lv_icmp_eq (tgt := 448) hx hb dL_law_331 (by decide) (fun c9 => ?_) (fun c9 => ?_)
  · exact W.widen (k := 64 + 6 * j + 6) (n := 18191 + 1700 * j + 1700) (by omega) (by omega) (kk _ _ _ _ _ hD hM (wfX_mono hS (Nat.le_succ _)) hw)
  · exact absurd rfl c9
set_option maxHeartbeats 4000000 in
set_option maxRecDepth 100000 in
theorem law_size {p : Program} {e : Env} {s : State} {m : MethodId} {below : List Frame} {meth : Method} {c : Code} (l : Launch) {b L : Nat} {xs : Nat → Int32} (hL : L ≤ 2560) (C0 : lw_At p s m meth c b L xs) {g : GG} {x mo j : Nat} {S : List TyS} {h k : Nat → Option va_E} {H : Heap} {locs : List Loc} {ls : Array Slot} (hj : 5 * j + 5 ≤ L) (hD : DR g h x S) (hM : MR g k mo S) (hS : wfX j S) (hw : W2 g (fun q : Nat => s.heap.size ≤ q) s h k H locs) (hl : lv_has ls 4 [(3, .int (nI (5 * j))), (2, .ref mo), (1, .ref x), (0, .ref b)]) {Q : State → Prop} (kk : ∀ (S' : List TyS) (h' k' : Nat → Option va_E) (H' : Heap) (locs' : List Loc), DR g h' x S' → MR g k' mo S' → wfX (j + 1) S' → W2 g (fun q : Nat => s.heap.size ≤ q) s h' k' H' locs' → W p l e room_1 s m #[Value.ref b] below meth c H' locs' (64 + 6 * j + 6) (18191 + 1700 * j + 1700) Q (F0 m 448 ls [])) : W p l e room_1 s m #[Value.ref b] below meth c H locs (64 + 6 * j) (18191 + 1700 * j) Q (F0 m 336 ls []) := by
  obtain ⟨hx, hb, hr, hml, hown, hts0, hX, hbl, hlocks, hgv⟩ := id C0
  have hts : ∀ w ∈ wsL_law, w.before #[Value.ref b] s = true := fun w z => hts0 w (wsL_law_in w z)
  have hown : s.vm.findClass RL = some m.cls := hown
  have hbA : ¬ (fun q : Nat => s.heap.size ≤ q) b := Nat.not_le.mpr hbl
  refine lv_aload_n hx hb dL_law_336 rfl (lv_at hl 2 rfl) ?_
  refine lv_aload_n hx hb dL_law_337 rfl (lv_at hl 3 rfl) ?_
  refine lv_iload_n hx hb dL_law_338 rfl (lv_at hl 0 rfl) ?_
  refine lv_iconst (v := 1) hx hb dL_law_339 (by decide) ?_
  refine lv_iadd hx hb dL_law_340 ?_
  refine va_sld hx hb hX hbl hbA hw.1.2.2.1 (li_in hj hL 1 (by decide)) dL_law_341 ?_
  obtain ⟨fsd, hxd⟩ := DR_self hD
  refine w_call2 (va_runV (As := [.int (xs (nI (5 * j) + 1).toNatClampNeg)]) (rest := []) ⟨hx, hb, hml, hown, hts⟩ (d_size l g h x S j hD hS.1 (xs (nI (5 * j) + 1).toNatClampNeg) H.size) (cwV 1 hts gL_law_X4_size rfl rfl rfl (by decide +kernel) ⟨Nat.le_of_ble_eq_true rfl, Nat.le_of_ble_eq_true rfl⟩) ⟨pr_blind, w_recv hw.1 hxd rfl, pr_of hw.1⟩ rfl rfl hl.1 rfl (lv_room (Nat.le_of_ble_eq_true rfl)) dL_law_342 ⟨by show 64 + 6 * j + 0 ≤ 600000; omega, by show 18191 + 1700 * j + 0 ≤ 7302250; omega⟩) hw (fun v z' H locs hp hw => ?_)
  obtain ⟨rfl, hD⟩ := hp
  refine W.eq (g2 := F0 m 345 ls [.int (fSiz S (xs (nI (5 * j) + 1).toNatClampNeg))]) rfl ?_
  refine lv_aload_n hx hb dL_law_345 rfl (lv_at hl 1 rfl) ?_
  refine lv_aload_n hx hb dL_law_346 rfl (lv_at hl 3 rfl) ?_
  refine lv_iload_n hx hb dL_law_347 rfl (lv_at hl 0 rfl) ?_
  refine lv_iconst (v := 1) hx hb dL_law_348 (by decide) ?_
  refine lv_iadd hx hb dL_law_349 ?_
  refine va_sld hx hb hX hbl hbA hw.1.2.2.1 (li_in hj hL 1 (by decide)) dL_law_350 ?_
  obtain ⟨fsm, hxm⟩ := MR_self hM
  refine w_call2 (va_runV (As := [.int (xs (nI (5 * j) + 1).toNatClampNeg)]) (rest := [.int (fSiz S (xs (nI (5 * j) + 1).toNatClampNeg))]) ⟨hx, hb, hml, hown, hts⟩ (m_size l g k mo S j hM hS.1 (xs (nI (5 * j) + 1).toNatClampNeg) H.size) (cwV 1 hts gL_law_X7_size rfl rfl rfl (by decide +kernel) ⟨Nat.le_of_ble_eq_true rfl, Nat.le_of_ble_eq_true rfl⟩) ⟨pr_blind, w_recv hw.swap.1 hxm rfl, pr_of hw.swap.1⟩ rfl rfl hl.1 rfl (lv_room (Nat.le_of_ble_eq_true rfl)) dL_law_351 ⟨by show 64 + 6 * j + 0 + 0 ≤ 600000; omega, by show 18191 + 1700 * j + 0 + 0 ≤ 7302250; omega⟩) hw.swap (fun v z' H locs hp hw => ?_)
  obtain ⟨rfl, hM⟩ := hp
  have hw := hw.swap
  refine W.eq (g2 := F0 m 354 ls [.int (fSiz S (xs (nI (5 * j) + 1).toNatClampNeg)), .int (fSiz S (xs (nI (5 * j) + 1).toNatClampNeg))]) rfl ?_
  refine lv_icmp_eq (tgt := 448) hx hb dL_law_354 (by decide) (fun c9 => ?_) (fun c9 => ?_)
  · exact W.widen (k := 64 + 6 * j + 6) (n := 18191 + 1700 * j + 1700) (by omega) (by omega) (kk _ _ _ _ _ hD hM (wfX_mono hS (Nat.le_succ _)) hw)
  · exact absurd rfl c9
set_option maxHeartbeats 4000000 in
set_option maxRecDepth 100000 in
theorem law_align {p : Program} {e : Env} {s : State} {m : MethodId} {below : List Frame} {meth : Method} {c : Code} (l : Launch) {b L : Nat} {xs : Nat → Int32} (hL : L ≤ 2560) (C0 : lw_At p s m meth c b L xs) {g : GG} {x mo j : Nat} {S : List TyS} {h k : Nat → Option va_E} {H : Heap} {locs : List Loc} {ls : Array Slot} (hj : 5 * j + 5 ≤ L) (hD : DR g h x S) (hM : MR g k mo S) (hS : wfX j S) (hw : W2 g (fun q : Nat => s.heap.size ≤ q) s h k H locs) (hl : lv_has ls 4 [(3, .int (nI (5 * j))), (2, .ref mo), (1, .ref x), (0, .ref b)]) {Q : State → Prop} (kk : ∀ (S' : List TyS) (h' k' : Nat → Option va_E) (H' : Heap) (locs' : List Loc), DR g h' x S' → MR g k' mo S' → wfX (j + 1) S' → W2 g (fun q : Nat => s.heap.size ≤ q) s h' k' H' locs' → W p l e room_1 s m #[Value.ref b] below meth c H' locs' (64 + 6 * j + 6) (18191 + 1700 * j + 1700) Q (F0 m 448 ls [])) : W p l e room_1 s m #[Value.ref b] below meth c H locs (64 + 6 * j) (18191 + 1700 * j) Q (F0 m 359 ls []) := by
  obtain ⟨hx, hb, hr, hml, hown, hts0, hX, hbl, hlocks, hgv⟩ := id C0
  have hts : ∀ w ∈ wsL_law, w.before #[Value.ref b] s = true := fun w z => hts0 w (wsL_law_in w z)
  have hown : s.vm.findClass RL = some m.cls := hown
  have hbA : ¬ (fun q : Nat => s.heap.size ≤ q) b := Nat.not_le.mpr hbl
  refine lv_aload_n hx hb dL_law_359 rfl (lv_at hl 2 rfl) ?_
  refine lv_aload_n hx hb dL_law_360 rfl (lv_at hl 3 rfl) ?_
  refine lv_iload_n hx hb dL_law_361 rfl (lv_at hl 0 rfl) ?_
  refine lv_iconst (v := 1) hx hb dL_law_362 (by decide) ?_
  refine lv_iadd hx hb dL_law_363 ?_
  refine va_sld hx hb hX hbl hbA hw.1.2.2.1 (li_in hj hL 1 (by decide)) dL_law_364 ?_
  obtain ⟨fsd, hxd⟩ := DR_self hD
  refine w_call2 (va_runV (As := [.int (xs (nI (5 * j) + 1).toNatClampNeg)]) (rest := []) ⟨hx, hb, hml, hown, hts⟩ (d_align l g h x S j hD hS.1 (xs (nI (5 * j) + 1).toNatClampNeg) H.size) (cwV 1 hts gL_law_X4_align rfl rfl rfl (by decide +kernel) ⟨Nat.le_of_ble_eq_true rfl, Nat.le_of_ble_eq_true rfl⟩) ⟨pr_blind, w_recv hw.1 hxd rfl, pr_of hw.1⟩ rfl rfl hl.1 rfl (lv_room (Nat.le_of_ble_eq_true rfl)) dL_law_365 ⟨by show 64 + 6 * j + 0 ≤ 600000; omega, by show 18191 + 1700 * j + 0 ≤ 7302250; omega⟩) hw (fun v z' H locs hp hw => ?_)
  obtain ⟨rfl, hD⟩ := hp
  refine W.eq (g2 := F0 m 368 ls [.int (fAli S (xs (nI (5 * j) + 1).toNatClampNeg))]) rfl ?_
  refine lv_aload_n hx hb dL_law_368 rfl (lv_at hl 1 rfl) ?_
  refine lv_aload_n hx hb dL_law_369 rfl (lv_at hl 3 rfl) ?_
  refine lv_iload_n hx hb dL_law_370 rfl (lv_at hl 0 rfl) ?_
  refine lv_iconst (v := 1) hx hb dL_law_371 (by decide) ?_
  refine lv_iadd hx hb dL_law_372 ?_
  refine va_sld hx hb hX hbl hbA hw.1.2.2.1 (li_in hj hL 1 (by decide)) dL_law_373 ?_
  obtain ⟨fsm, hxm⟩ := MR_self hM
  refine w_call2 (va_runV (As := [.int (xs (nI (5 * j) + 1).toNatClampNeg)]) (rest := [.int (fAli S (xs (nI (5 * j) + 1).toNatClampNeg))]) ⟨hx, hb, hml, hown, hts⟩ (m_align l g k mo S j hM hS.1 (xs (nI (5 * j) + 1).toNatClampNeg) H.size) (cwV 1 hts gL_law_X7_align rfl rfl rfl (by decide +kernel) ⟨Nat.le_of_ble_eq_true rfl, Nat.le_of_ble_eq_true rfl⟩) ⟨pr_blind, w_recv hw.swap.1 hxm rfl, pr_of hw.swap.1⟩ rfl rfl hl.1 rfl (lv_room (Nat.le_of_ble_eq_true rfl)) dL_law_374 ⟨by show 64 + 6 * j + 0 + 0 ≤ 600000; omega, by show 18191 + 1700 * j + 0 + 0 ≤ 7302250; omega⟩) hw.swap (fun v z' H locs hp hw => ?_)
  obtain ⟨rfl, hM⟩ := hp
  have hw := hw.swap
  refine W.eq (g2 := F0 m 377 ls [.int (fAli S (xs (nI (5 * j) + 1).toNatClampNeg)), .int (fAli S (xs (nI (5 * j) + 1).toNatClampNeg))]) rfl ?_
  refine lv_icmp_eq (tgt := 448) hx hb dL_law_377 (by decide) (fun c9 => ?_) (fun c9 => ?_)
  · exact W.widen (k := 64 + 6 * j + 6) (n := 18191 + 1700 * j + 1700) (by omega) (by omega) (kk _ _ _ _ _ hD hM (wfX_mono hS (Nat.le_succ _)) hw)
  · exact absurd rfl c9
set_option maxHeartbeats 4000000 in
set_option maxRecDepth 100000 in
theorem law_members {p : Program} {e : Env} {s : State} {m : MethodId} {below : List Frame} {meth : Method} {c : Code} (l : Launch) {b L : Nat} {xs : Nat → Int32} (hL : L ≤ 2560) (C0 : lw_At p s m meth c b L xs) {g : GG} {x mo j : Nat} {S : List TyS} {h k : Nat → Option va_E} {H : Heap} {locs : List Loc} {ls : Array Slot} (hj : 5 * j + 5 ≤ L) (hD : DR g h x S) (hM : MR g k mo S) (hS : wfX j S) (hw : W2 g (fun q : Nat => s.heap.size ≤ q) s h k H locs) (hl : lv_has ls 4 [(3, .int (nI (5 * j))), (2, .ref mo), (1, .ref x), (0, .ref b)]) {Q : State → Prop} (kk : ∀ (S' : List TyS) (h' k' : Nat → Option va_E) (H' : Heap) (locs' : List Loc), DR g h' x S' → MR g k' mo S' → wfX (j + 1) S' → W2 g (fun q : Nat => s.heap.size ≤ q) s h' k' H' locs' → W p l e room_1 s m #[Value.ref b] below meth c H' locs' (64 + 6 * j + 6) (18191 + 1700 * j + 1700) Q (F0 m 448 ls [])) : W p l e room_1 s m #[Value.ref b] below meth c H locs (64 + 6 * j) (18191 + 1700 * j) Q (F0 m 382 ls []) := by
  obtain ⟨hx, hb, hr, hml, hown, hts0, hX, hbl, hlocks, hgv⟩ := id C0
  have hts : ∀ w ∈ wsL_law, w.before #[Value.ref b] s = true := fun w z => hts0 w (wsL_law_in w z)
  have hown : s.vm.findClass RL = some m.cls := hown
  have hbA : ¬ (fun q : Nat => s.heap.size ≤ q) b := Nat.not_le.mpr hbl
  refine lv_aload_n hx hb dL_law_382 rfl (lv_at hl 2 rfl) ?_
  refine lv_aload_n hx hb dL_law_383 rfl (lv_at hl 3 rfl) ?_
  refine lv_iload_n hx hb dL_law_384 rfl (lv_at hl 0 rfl) ?_
  refine lv_iconst (v := 1) hx hb dL_law_385 (by decide) ?_
  refine lv_iadd hx hb dL_law_386 ?_
  refine va_sld hx hb hX hbl hbA hw.1.2.2.1 (li_in hj hL 1 (by decide)) dL_law_387 ?_
  obtain ⟨fsd, hxd⟩ := DR_self hD
  refine w_call2 (va_runV (As := [.int (xs (nI (5 * j) + 1).toNatClampNeg)]) (rest := []) ⟨hx, hb, hml, hown, hts⟩ (d_members l g h x S j hD hS.1 (xs (nI (5 * j) + 1).toNatClampNeg) H.size) (cwV 1 hts gL_law_X4_members rfl rfl rfl (by decide +kernel) ⟨Nat.le_of_ble_eq_true rfl, Nat.le_of_ble_eq_true rfl⟩) ⟨pr_blind, w_recv hw.1 hxd rfl, pr_of hw.1⟩ rfl rfl hl.1 rfl (lv_room (Nat.le_of_ble_eq_true rfl)) dL_law_388 ⟨by show 64 + 6 * j + 0 ≤ 600000; omega, by show 18191 + 1700 * j + 0 ≤ 7302250; omega⟩) hw (fun v z' H locs hp hw => ?_)
  obtain ⟨rfl, hD⟩ := hp
  refine W.eq (g2 := F0 m 391 ls [.int (fMbs S (xs (nI (5 * j) + 1).toNatClampNeg))]) rfl ?_
  refine lv_aload_n hx hb dL_law_391 rfl (lv_at hl 1 rfl) ?_
  refine lv_aload_n hx hb dL_law_392 rfl (lv_at hl 3 rfl) ?_
  refine lv_iload_n hx hb dL_law_393 rfl (lv_at hl 0 rfl) ?_
  refine lv_iconst (v := 1) hx hb dL_law_394 (by decide) ?_
  refine lv_iadd hx hb dL_law_395 ?_
  refine va_sld hx hb hX hbl hbA hw.1.2.2.1 (li_in hj hL 1 (by decide)) dL_law_396 ?_
  obtain ⟨fsm, hxm⟩ := MR_self hM
  refine w_call2 (va_runV (As := [.int (xs (nI (5 * j) + 1).toNatClampNeg)]) (rest := [.int (fMbs S (xs (nI (5 * j) + 1).toNatClampNeg))]) ⟨hx, hb, hml, hown, hts⟩ (m_members l g k mo S j hM hS.1 (xs (nI (5 * j) + 1).toNatClampNeg) H.size) (cwV 1 hts gL_law_X7_members rfl rfl rfl (by decide +kernel) ⟨Nat.le_of_ble_eq_true rfl, Nat.le_of_ble_eq_true rfl⟩) ⟨pr_blind, w_recv hw.swap.1 hxm rfl, pr_of hw.swap.1⟩ rfl rfl hl.1 rfl (lv_room (Nat.le_of_ble_eq_true rfl)) dL_law_397 ⟨by show 64 + 6 * j + 0 + 0 ≤ 600000; omega, by show 18191 + 1700 * j + 0 + 0 ≤ 7302250; omega⟩) hw.swap (fun v z' H locs hp hw => ?_)
  obtain ⟨rfl, hM⟩ := hp
  have hw := hw.swap
  refine W.eq (g2 := F0 m 400 ls [.int (fMbs S (xs (nI (5 * j) + 1).toNatClampNeg)), .int (fMbs S (xs (nI (5 * j) + 1).toNatClampNeg))]) rfl ?_
  refine lv_icmp_eq (tgt := 448) hx hb dL_law_400 (by decide) (fun c9 => ?_) (fun c9 => ?_)
  · exact W.widen (k := 64 + 6 * j + 6) (n := 18191 + 1700 * j + 1700) (by omega) (by omega) (kk _ _ _ _ _ hD hM (wfX_mono hS (Nat.le_succ _)) hw)
  · exact absurd rfl c9
set_option maxHeartbeats 4000000 in
set_option maxRecDepth 100000 in
theorem law_member {p : Program} {e : Env} {s : State} {m : MethodId} {below : List Frame} {meth : Method} {c : Code} (l : Launch) {b L : Nat} {xs : Nat → Int32} (hL : L ≤ 2560) (C0 : lw_At p s m meth c b L xs) {g : GG} {x mo j : Nat} {S : List TyS} {h k : Nat → Option va_E} {H : Heap} {locs : List Loc} {ls : Array Slot} (hj : 5 * j + 5 ≤ L) (hD : DR g h x S) (hM : MR g k mo S) (hS : wfX j S) (hw : W2 g (fun q : Nat => s.heap.size ≤ q) s h k H locs) (hl : lv_has ls 4 [(3, .int (nI (5 * j))), (2, .ref mo), (1, .ref x), (0, .ref b)]) {Q : State → Prop} (kk : ∀ (S' : List TyS) (h' k' : Nat → Option va_E) (H' : Heap) (locs' : List Loc), DR g h' x S' → MR g k' mo S' → wfX (j + 1) S' → W2 g (fun q : Nat => s.heap.size ≤ q) s h' k' H' locs' → W p l e room_1 s m #[Value.ref b] below meth c H' locs' (64 + 6 * j + 6) (18191 + 1700 * j + 1700) Q (F0 m 448 ls [])) : W p l e room_1 s m #[Value.ref b] below meth c H locs (64 + 6 * j) (18191 + 1700 * j) Q (F0 m 405 ls []) := by
  obtain ⟨hx, hb, hr, hml, hown, hts0, hX, hbl, hlocks, hgv⟩ := id C0
  have hts : ∀ w ∈ wsL_law, w.before #[Value.ref b] s = true := fun w z => hts0 w (wsL_law_in w z)
  have hown : s.vm.findClass RL = some m.cls := hown
  have hbA : ¬ (fun q : Nat => s.heap.size ≤ q) b := Nat.not_le.mpr hbl
  refine lv_aload_n hx hb dL_law_405 rfl (lv_at hl 2 rfl) ?_
  refine lv_aload_n hx hb dL_law_406 rfl (lv_at hl 3 rfl) ?_
  refine lv_iload_n hx hb dL_law_407 rfl (lv_at hl 0 rfl) ?_
  refine lv_iconst (v := 1) hx hb dL_law_408 (by decide) ?_
  refine lv_iadd hx hb dL_law_409 ?_
  refine va_sld hx hb hX hbl hbA hw.1.2.2.1 (li_in hj hL 1 (by decide)) dL_law_410 ?_
  refine lv_aload_n hx hb dL_law_411 rfl (lv_at hl 3 rfl) ?_
  refine lv_iload_n hx hb dL_law_412 rfl (lv_at hl 0 rfl) ?_
  refine lv_iconst (v := 2) hx hb dL_law_413 (by decide) ?_
  refine lv_iadd hx hb dL_law_414 ?_
  refine va_sld hx hb hX hbl hbA hw.1.2.2.1 (li_in hj hL 2 (by decide)) dL_law_415 ?_
  refine lv_aload_n hx hb dL_law_416 rfl (lv_at hl 3 rfl) ?_
  refine lv_iload_n hx hb dL_law_417 rfl (lv_at hl 0 rfl) ?_
  refine lv_iconst (v := 3) hx hb dL_law_418 (by decide) ?_
  refine lv_iadd hx hb dL_law_419 ?_
  refine va_sld hx hb hX hbl hbA hw.1.2.2.1 (li_in hj hL 3 (by decide)) dL_law_420 ?_
  obtain ⟨fsd, hxd⟩ := DR_self hD
  refine w_call2 (va_runV (As := [.int (xs (nI (5 * j) + 1).toNatClampNeg), .int (xs (nI (5 * j) + 2).toNatClampNeg), .int (xs (nI (5 * j) + 3).toNatClampNeg)]) (rest := []) ⟨hx, hb, hml, hown, hts⟩ (d_member l g h x S j hD hS.1 (xs (nI (5 * j) + 1).toNatClampNeg) (xs (nI (5 * j) + 2).toNatClampNeg) (xs (nI (5 * j) + 3).toNatClampNeg) H.size) (cwV 3 hts gL_law_X4_member rfl rfl rfl (by decide +kernel) ⟨Nat.le_of_ble_eq_true rfl, Nat.le_of_ble_eq_true rfl⟩) ⟨pr_blind, w_recv hw.1 hxd rfl, pr_of hw.1⟩ rfl rfl hl.1 rfl (lv_room (Nat.le_of_ble_eq_true rfl)) dL_law_421 ⟨by show 64 + 6 * j + 0 ≤ 600000; omega, by show 18191 + 1700 * j + 0 ≤ 7302250; omega⟩) hw (fun v z' H locs hp hw => ?_)
  obtain ⟨rfl, hD⟩ := hp
  refine W.eq (g2 := F0 m 424 ls [.int (fMbr S (xs (nI (5 * j) + 1).toNatClampNeg) (xs (nI (5 * j) + 2).toNatClampNeg) (xs (nI (5 * j) + 3).toNatClampNeg))]) rfl ?_
  refine lv_aload_n hx hb dL_law_424 rfl (lv_at hl 1 rfl) ?_
  refine lv_aload_n hx hb dL_law_425 rfl (lv_at hl 3 rfl) ?_
  refine lv_iload_n hx hb dL_law_426 rfl (lv_at hl 0 rfl) ?_
  refine lv_iconst (v := 1) hx hb dL_law_427 (by decide) ?_
  refine lv_iadd hx hb dL_law_428 ?_
  refine va_sld hx hb hX hbl hbA hw.1.2.2.1 (li_in hj hL 1 (by decide)) dL_law_429 ?_
  refine lv_aload_n hx hb dL_law_430 rfl (lv_at hl 3 rfl) ?_
  refine lv_iload_n hx hb dL_law_431 rfl (lv_at hl 0 rfl) ?_
  refine lv_iconst (v := 2) hx hb dL_law_432 (by decide) ?_
  refine lv_iadd hx hb dL_law_433 ?_
  refine va_sld hx hb hX hbl hbA hw.1.2.2.1 (li_in hj hL 2 (by decide)) dL_law_434 ?_
  refine lv_aload_n hx hb dL_law_435 rfl (lv_at hl 3 rfl) ?_
  refine lv_iload_n hx hb dL_law_436 rfl (lv_at hl 0 rfl) ?_
  refine lv_iconst (v := 3) hx hb dL_law_437 (by decide) ?_
  refine lv_iadd hx hb dL_law_438 ?_
  refine va_sld hx hb hX hbl hbA hw.1.2.2.1 (li_in hj hL 3 (by decide)) dL_law_439 ?_
  obtain ⟨fsm, hxm⟩ := MR_self hM
  refine w_call2 (va_runV (As := [.int (xs (nI (5 * j) + 1).toNatClampNeg), .int (xs (nI (5 * j) + 2).toNatClampNeg), .int (xs (nI (5 * j) + 3).toNatClampNeg)]) (rest := [.int (fMbr S (xs (nI (5 * j) + 1).toNatClampNeg) (xs (nI (5 * j) + 2).toNatClampNeg) (xs (nI (5 * j) + 3).toNatClampNeg))]) ⟨hx, hb, hml, hown, hts⟩ (m_member l g k mo S j hM hS.1 (xs (nI (5 * j) + 1).toNatClampNeg) (xs (nI (5 * j) + 2).toNatClampNeg) (xs (nI (5 * j) + 3).toNatClampNeg) H.size) (cwV 3 hts gL_law_X7_member rfl rfl rfl (by decide +kernel) ⟨Nat.le_of_ble_eq_true rfl, Nat.le_of_ble_eq_true rfl⟩) ⟨pr_blind, w_recv hw.swap.1 hxm rfl, pr_of hw.swap.1⟩ rfl rfl hl.1 rfl (lv_room (Nat.le_of_ble_eq_true rfl)) dL_law_440 ⟨by show 64 + 6 * j + 0 + 0 ≤ 600000; omega, by show 18191 + 1700 * j + 0 + 0 ≤ 7302250; omega⟩) hw.swap (fun v z' H locs hp hw => ?_)
  obtain ⟨rfl, hM⟩ := hp
  have hw := hw.swap
  refine W.eq (g2 := F0 m 443 ls [.int (fMbr S (xs (nI (5 * j) + 1).toNatClampNeg) (xs (nI (5 * j) + 2).toNatClampNeg) (xs (nI (5 * j) + 3).toNatClampNeg)), .int (fMbr S (xs (nI (5 * j) + 1).toNatClampNeg) (xs (nI (5 * j) + 2).toNatClampNeg) (xs (nI (5 * j) + 3).toNatClampNeg))]) rfl ?_
  refine lv_icmp_eq (tgt := 448) hx hb dL_law_443 (by decide) (fun c9 => ?_) (fun c9 => ?_)
  · exact W.widen (k := 64 + 6 * j + 6) (n := 18191 + 1700 * j + 1700) (by omega) (by omega) (kk _ _ _ _ _ hD hM (wfX_mono hS (Nat.le_succ _)) hw)
  · exact absurd rfl c9
