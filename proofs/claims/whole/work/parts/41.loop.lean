/-! the law: its loop -/
set_option maxHeartbeats 4000000 in
set_option maxRecDepth 100000 in
theorem law_loop {p : Program} {e : Env} {s : State} {m : MethodId} {below : List Frame} {meth : Method} {c : Code} (l : Launch) {b L : Nat} {xs : Nat → Int32} (hL : L ≤ 2560) (C0 : lw_At p s m meth c b L xs) {g : GG} {x mo : Nat} : ∀ (n j : Nat) (S : List TyS) (h k : Nat → Option va_E) (H : Heap) (locs : List Loc) (ls : Array Slot), n + j = 513 → j ≤ 512 → DR g h x S → MR g k mo S → wfX j S → W2 g (fun q : Nat => s.heap.size ≤ q) s h k H locs → lv_has ls 4 [(3, .int (nI (5 * j))), (2, .ref mo), (1, .ref x), (0, .ref b)] → W p l e room_1 s m #[Value.ref b] below meth c H locs (64 + 6 * j) (18191 + 1700 * j) (lw_Z below #[Value.ref b] s) (F0 m 18 ls []) := by
  intro n
  induction n with
  | zero => intro j S h k H locs ls h1 h2; omega
  | succ n ih =>
    intro j S h k H locs ls hn hj0 hD hM hS hw hl
    obtain ⟨hx, hb, hr, hml, hown, hts0, hX, hbl, hlocks, hgv⟩ := id C0
    have hts : ∀ w ∈ wsL_law, w.before #[Value.ref b] s = true := fun w z => hts0 w (wsL_law_in w z)
    have hown : s.vm.findClass RL = some m.cls := hown
    have hbA : ¬ (fun q : Nat => s.heap.size ≤ q) b := Nat.not_le.mpr hbl
    refine lv_iload_n hx hb dL_law_18 rfl (lv_at hl 0 rfl) ?_
    refine lv_aload_n hx hb dL_law_19 rfl (lv_at hl 3 rfl) ?_
    refine va_slen hx hb hX hbl hbA hw.1.2.2.1 dL_law_20 ?_
    refine lv_iconst (v := 5) hx hb dL_law_21 (by decide) ?_
    refine lv_isub hx hb dL_law_22 ?_
    refine lv_icmp_gt (tgt := 454) hx hb dL_law_23 (by decide) (fun c23 => ?_) (fun c23 => ?_)
    · refine lv_iconst (v := 1) hx hb dL_law_454 (by decide) ?_
      refine va_forget (fun q hq => hw.1.2.2.1.2.2 q hq) ?_
      exact W.widen (k := 600000) (n := 7302250) (by omega) (by omega) (lw_ret hx hb hr hlocks dL_law_455)
    · have hj : 5 * j + 5 ≤ L := li_more hj0 hL c23
      have kk : ∀ (S' : List TyS) (h' k' : Nat → Option va_E) (H' : Heap) (locs' : List Loc), DR g h' x S' → MR g k' mo S' → wfX (j + 1) S' → W2 g (fun q : Nat => s.heap.size ≤ q) s h' k' H' locs' → W p l e room_1 s m #[Value.ref b] below meth c H' locs' (64 + 6 * j + 6) (18191 + 1700 * j + 1700) (lw_Z below #[Value.ref b] s) (F0 m 448 ls []) := by
        intro S' h' k' H' locs' hD' hM' hS' hw'
        refine lv_iinc (v := nI (5 * (j + 1))) (lv' := [(3, .int (nI (5 * (j + 1)))), (2, .ref mo), (1, .ref x), (0, .ref b)]) hx hb dL_law_448 hl (k := 0) rfl (by show nI (5 * j) + nI 5 = nI (5 * (j + 1)); rw [nI_add]; rfl) (by decide) rfl (fun ls hl => ?_)
        refine lv_goto (tgt := 18) hx hb dL_law_451 (by decide) ?_
        exact ih (j + 1) S' h' k' H' locs' ls (by omega) (by omega) hD' hM' hS' hw' hl
      refine lv_aload_n hx hb dL_law_26 rfl (lv_at hl 3 rfl) ?_
      refine lv_iload_n hx hb dL_law_27 rfl (lv_at hl 0 rfl) ?_
      refine va_sld hx hb hX hbl hbA hw.1.2.2.1 (vp_in_nI (by omega) (by omega)) dL_law_28 ?_
      refine lv_bipush (v := 15) hx hb dL_law_29 (by decide) ?_
      refine lv_iand hx hb dL_law_31 ?_
      refine lv_topi (fun y ey => ?_)
      rcases (show y.toInt = 0 ∨ y.toInt = 1 ∨ y.toInt = 2 ∨ y.toInt = 3 ∨ y.toInt = 4 ∨ y.toInt = 5 ∨ y.toInt = 6 ∨ y.toInt = 7 ∨ y.toInt = 8 ∨ y.toInt = 9 ∨ y.toInt = 10 ∨ y.toInt = 11 ∨ (y.toInt < 0 ∨ 11 < y.toInt) by omega) with hy | hy | hy | hy | hy | hy | hy | hy | hy | hy | hy | hy | hy
      · exact lv_tableIn (tgt := 96) hx hb dL_law_32 (by rw [hy]; decide) (by rw [hy]; decide) (by rw [hy]; rfl) (by decide) (law_pointer l hL C0 hj hD hM hS hw hl kk)
      · exact lv_tableIn (tgt := 119) hx hb dL_law_32 (by rw [hy]; decide) (by rw [hy]; decide) (by rw [hy]; rfl) (by decide) (law_array l hL C0 hj hD hM hS hw hl kk)
      · exact lv_tableIn (tgt := 152) hx hb dL_law_32 (by rw [hy]; decide) (by rw [hy]; decide) (by rw [hy]; rfl) (by decide) (law_record l hL C0 hj hD hM hS hw hl kk)
      · exact lv_tableIn (tgt := 175) hx hb dL_law_32 (by rw [hy]; decide) (by rw [hy]; decide) (by rw [hy]; rfl) (by decide) (law_field l hL C0 hj hD hM hS hw hl kk)
      · exact lv_tableIn (tgt := 208) hx hb dL_law_32 (by rw [hy]; decide) (by rw [hy]; decide) (by rw [hy]; rfl) (by decide) (law_bits l hL C0 hj hD hM hS hw hl kk)
      · exact lv_tableIn (tgt := 277) hx hb dL_law_32 (by rw [hy]; decide) (by rw [hy]; decide) (by rw [hy]; rfl) (by decide) (law_separate l hL C0 hj hD hM hS hw hl kk)
      · exact lv_tableIn (tgt := 300) hx hb dL_law_32 (by rw [hy]; decide) (by rw [hy]; decide) (by rw [hy]; rfl) (by decide) (law_finish l hL C0 hj hD hM hS hw hl kk)
      · exact lv_tableIn (tgt := 323) hx hb dL_law_32 (by rw [hy]; decide) (by rw [hy]; decide) (by rw [hy]; rfl) (by decide) (law_types l hL C0 hj hD hM hS hw hl kk)
      · exact lv_tableIn (tgt := 336) hx hb dL_law_32 (by rw [hy]; decide) (by rw [hy]; decide) (by rw [hy]; rfl) (by decide) (law_size l hL C0 hj hD hM hS hw hl kk)
      · exact lv_tableIn (tgt := 359) hx hb dL_law_32 (by rw [hy]; decide) (by rw [hy]; decide) (by rw [hy]; rfl) (by decide) (law_align l hL C0 hj hD hM hS hw hl kk)
      · exact lv_tableIn (tgt := 382) hx hb dL_law_32 (by rw [hy]; decide) (by rw [hy]; decide) (by rw [hy]; rfl) (by decide) (law_members l hL C0 hj hD hM hS hw hl kk)
      · exact lv_tableIn (tgt := 405) hx hb dL_law_32 (by rw [hy]; decide) (by rw [hy]; decide) (by rw [hy]; rfl) (by decide) (law_member l hL C0 hj hD hM hS hw hl kk)
      · exact lv_tableOut (tgt := 448) hx hb dL_law_32 hy (by decide) (W.widen (k := 64 + 6 * j + 6) (n := 18191 + 1700 * j + 1700) (by omega) (by omega) (kk S h k H locs hD hM (wfX_mono hS (Nat.le_succ _)) hw))
