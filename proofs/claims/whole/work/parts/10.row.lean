/-- a row's cells: the object n, its calls c, its results r -/
def RowAt (cy : Nat → ClassId) (N : Nat) (ad : Nat → Nat) (g : Nat → va_E) (n c r sz : Nat) (fc fr : Nat → Int32) : Prop := n < N ∧ c < N ∧ r < N ∧ n ≠ c ∧ n ≠ r ∧ c ≠ r ∧ sz ≤ 200 ∧ g n = .inr (5, [.ref (ad c), .ref (ad r), .int (nI sz)]) ∧ g c = .inl (cy 0, 200, .inl fc) ∧ g r = .inl (cy 0, 200, .inl fr)
theorem RowAt.fr {cy : Nat → ClassId} {N : Nat} {ad : Nat → Nat} {g g' : Nat → va_E} {n c r sz : Nat} {fc fr : Nat → Int32} (h : RowAt cy N ad g n c r sz fc fr) (h1 : g' n = g n) (h2 : g' c = g c) (h3 : g' r = g r) : RowAt cy N ad g' n c r sz fc fr := by
  obtain ⟨a1, a2, a3, a4, a5, a6, a7, a8, a9, a10⟩ := h
  exact ⟨a1, a2, a3, a4, a5, a6, a7, h1.trans a8, h2.trans a9, h3.trans a10⟩
def anyK (cl : Nat → Nat) (kd : Nat) : Nat → Bool
  | 0 => false
  | n + 1 => anyK cl kd n || decide (cl n / 16 = kd)
theorem anyK_mono {cl : Nat → Nat} {kd a : Nat} (h : anyK cl kd a = true) : ∀ {b : Nat}, a ≤ b → anyK cl kd b = true
  | 0, hb => by rw [show a = 0 by omega] at h; exact h
  | b + 1, hb => by
    by_cases e : a = b + 1
    · rw [← e]; exact h
    · unfold anyK
      rw [anyK_mono h (b := b) (by omega)]
      rfl
def sameK (f f' : Nat → Int32) : Nat → Bool
  | 0 => true
  | n + 1 => sameK f f' n && decide (f n = f' n)
theorem sameK_mono {f f' : Nat → Int32} {a : Nat} (h : sameK f f' a = false) : ∀ {b : Nat}, a ≤ b → sameK f f' b = false
  | 0, hb => by rw [show a = 0 by omega] at h; exact h
  | b + 1, hb => by
    by_cases e : a = b + 1
    · rw [← e]; exact h
    · unfold sameK
      rw [sameK_mono h (b := b) (by omega)]
      rfl

set_option maxHeartbeats 4000000 in
set_option maxRecDepth 100000 in
theorem c_rSize {l : Launch} {G : va_G} {cy : Nat → ClassId} {N : Nat} {ad : Nat → Nat} {g : Nat → va_E} {n c r sz : Nat} {fc fr : Nat → Int32} (hR : RowAt cy N ad g n c r sz fc fr) : RI l G cy (N, ad, g) yX5_size cX5_size 1 (some .int) (rmN 0) [.ref (ad n)] (nI sz) := by
  refine RI.mk (by decide) (by first | rfl | exact bI_nar) (Nat.le_of_ble_eq_true rfl) ?_
  intro jp je js jm below meth jc A Q X hW ret ls hl
  have jx := X.hx
  have jb := X.hb
  have hl : lv_has ls 1 [(0, .ref (ad n))] := hl
  have X : Cx G cy jp js jm _ jc cX5_size 1 RX5 A js.heap := X
  obtain ⟨hn, hc, hr, q1, q2, q3, hsz, fn, fc_, fr_⟩ := id hR
  refine lv_aload_n jx jb dX5_size_0 rfl (lv_at hl 0 rfl) ?_
  refine w_get X hW K5 hn fn 2 (by decide) fl_X5_18 rfl dX5_size_1 ?_
  exact ret _ _ _ _ _ dX5_size_4 hW rfl

set_option maxHeartbeats 4000000 in
set_option maxRecDepth 100000 in
theorem c_callAt {l : Launch} {G : va_G} {cy : Nat → ClassId} {N : Nat} {ad : Nat → Nat} {g : Nat → va_E} {n c r sz : Nat} {fc fr : Nat → Int32} {j : Nat} (hR : RowAt cy N ad g n c r sz fc fr) (hj : j < sz) : RI l G cy (N, ad, g) yX5_callAt cX5_callAt 2 (some .int) (rmN 1) [.ref (ad n), .int (nI j)] (fc j) := by
  refine RI.mk (by decide) (by first | rfl | exact bI_nar) (Nat.le_of_ble_eq_true rfl) ?_
  intro jp je js jm below meth jc A Q X hW ret ls hl
  have jx := X.hx
  have jb := X.hb
  have hl : lv_has ls 2 [(0, .ref (ad n)), (1, .int (nI j))] := hl
  have X : Cx G cy jp js jm _ jc cX5_callAt 2 RX5 A js.heap := X
  obtain ⟨hn, hc, hr, q1, q2, q3, hsz, fn, fc_, fr_⟩ := id hR
  refine lv_iload_n jx jb dX5_callAt_0 rfl (lv_at hl 1 rfl) ?_
  refine lv_aload_n jx jb dX5_callAt_1 rfl (lv_at hl 0 rfl) ?_
  refine w_get X hW K5 hn fn 2 (by decide) fl_X5_18 rfl dX5_callAt_2 ?_
  refine w_rN (As := [.int (nI j), .int (nI sz)]) X hW (c_isBelow) mn_X5_22 mf_X8_isBelow ⟨Nat.le_of_ble_eq_true rfl, Nat.le_of_ble_eq_true rfl⟩ hl.1 rfl (Nat.le_of_ble_eq_true rfl) ⟨Nat.le_of_ble_eq_true rfl, Nat.le_of_ble_eq_true rfl⟩ dX5_callAt_5 (fun H locs hW => ?_)
  refine lv_if_eq (tgt := 20) jx jb dX5_callAt_8 (by decide) (fun c8 => ?_) (fun c8 => ?_)
  · exact absurd (c8.symm.trans (bel_t hj (by omega))) (by decide)
  · refine lv_aload_n jx jb dX5_callAt_11 rfl (lv_at hl 0 rfl) ?_
    refine w_get X hW K5 hn fn 0 (by decide) fl_X5_9 rfl dX5_callAt_12 ?_
    refine lv_iload_n jx jb dX5_callAt_15 rfl (lv_at hl 1 rfl) ?_
    refine w_ild X hW hc fc_ j rfl (by omega) (by decide) dX5_callAt_16 ?_
    refine lv_goto (tgt := 21) jx jb dX5_callAt_17 (by decide) ?_
    exact ret _ _ _ _ _ dX5_callAt_21 hW rfl

set_option maxHeartbeats 4000000 in
set_option maxRecDepth 100000 in
theorem c_resultAt {l : Launch} {G : va_G} {cy : Nat → ClassId} {N : Nat} {ad : Nat → Nat} {g : Nat → va_E} {n c r sz : Nat} {fc fr : Nat → Int32} {j : Nat} (hR : RowAt cy N ad g n c r sz fc fr) (hj : j < sz) : RI l G cy (N, ad, g) yX5_resultAt cX5_resultAt 2 (some .int) (rmN 1) [.ref (ad n), .int (nI j)] (fr j) := by
  refine RI.mk (by decide) (by first | rfl | exact bI_nar) (Nat.le_of_ble_eq_true rfl) ?_
  intro jp je js jm below meth jc A Q X hW ret ls hl
  have jx := X.hx
  have jb := X.hb
  have hl : lv_has ls 2 [(0, .ref (ad n)), (1, .int (nI j))] := hl
  have X : Cx G cy jp js jm _ jc cX5_resultAt 2 RX5 A js.heap := X
  obtain ⟨hn, hc, hr, q1, q2, q3, hsz, fn, fc_, fr_⟩ := id hR
  refine lv_iload_n jx jb dX5_resultAt_0 rfl (lv_at hl 1 rfl) ?_
  refine lv_aload_n jx jb dX5_resultAt_1 rfl (lv_at hl 0 rfl) ?_
  refine w_get X hW K5 hn fn 2 (by decide) fl_X5_18 rfl dX5_resultAt_2 ?_
  refine w_rN (As := [.int (nI j), .int (nI sz)]) X hW (c_isBelow) mn_X5_22 mf_X8_isBelow ⟨Nat.le_of_ble_eq_true rfl, Nat.le_of_ble_eq_true rfl⟩ hl.1 rfl (Nat.le_of_ble_eq_true rfl) ⟨Nat.le_of_ble_eq_true rfl, Nat.le_of_ble_eq_true rfl⟩ dX5_resultAt_5 (fun H locs hW => ?_)
  refine lv_if_eq (tgt := 20) jx jb dX5_resultAt_8 (by decide) (fun c8 => ?_) (fun c8 => ?_)
  · exact absurd (c8.symm.trans (bel_t hj (by omega))) (by decide)
  · refine lv_aload_n jx jb dX5_resultAt_11 rfl (lv_at hl 0 rfl) ?_
    refine w_get X hW K5 hn fn 1 (by decide) fl_X5_15 rfl dX5_resultAt_12 ?_
    refine lv_iload_n jx jb dX5_resultAt_15 rfl (lv_at hl 1 rfl) ?_
    refine w_ild X hW hr fr_ j rfl (by omega) (by decide) dX5_resultAt_16 ?_
    refine lv_goto (tgt := 21) jx jb dX5_resultAt_17 (by decide) ?_
    exact ret _ _ _ _ _ dX5_resultAt_21 hW rfl

set_option maxHeartbeats 4000000 in
set_option maxRecDepth 100000 in
theorem c_rAdd {l : Launch} {G : va_G} {cy : Nat → ClassId} {N : Nat} {ad : Nat → Nat} {g : Nat → va_E} {n c r sz : Nat} {fc fr : Nat → Int32} {x y : Int32} (hR : RowAt cy N ad g n c r sz fc fr) (hs : sz < 200) : MV l G cy (N, ad, g) yX5_add cX5_add 3 none (rmN 0) [.ref (ad n), .int x, .int y] (nV N ad (fun g1 => RowAt cy N ad g1 n c r (sz + 1) (upd fc sz x) (upd fr sz y) ∧ Fr g g1 [n, c, r])) := by
  refine NV.mk (by decide) (Nat.le_of_ble_eq_true rfl) ?_
  intro jp je js jm below meth jc A Q X hW ret ls hl
  have jx := X.hx
  have jb := X.hb
  have hl : lv_has ls 3 [(0, .ref (ad n)), (1, .int x), (2, .int y)] := hl
  have X : Cx G cy jp js jm _ jc cX5_add 3 RX5 A js.heap := X
  obtain ⟨hn, hc, hr, q1, q2, q3, hsz, fn, fc_, fr_⟩ := id hR
  refine lv_aload_n jx jb dX5_add_0 rfl (lv_at hl 0 rfl) ?_
  refine w_get X hW K5 hn fn 2 (by decide) fl_X5_18 rfl dX5_add_1 ?_
  refine lv_sipush (v := 200) jx jb dX5_add_4 (by decide) ?_
  refine lv_icmp_ge (tgt := 40) jx jb dX5_add_7 (by decide) (fun c7 => ?_) (fun c7 => ?_)
  · exact absurd (n_le (a := 200) (by decide) (by omega) c7) (by omega)
  · refine lv_aload_n jx jb dX5_add_10 rfl (lv_at hl 0 rfl) ?_
    refine w_get X hW K5 hn fn 0 (by decide) fl_X5_9 rfl dX5_add_11 ?_
    refine lv_aload_n jx jb dX5_add_14 rfl (lv_at hl 0 rfl) ?_
    refine w_get X hW K5 hn fn 2 (by decide) fl_X5_18 rfl dX5_add_15 ?_
    refine lv_iload_n jx jb dX5_add_18 rfl (lv_at hl 1 rfl) ?_
    refine w_ist X hW hc fc_ sz rfl (by omega) (by decide) dX5_add_19 (fun H locs hW => ?_)
    obtain ⟨g_1, eg_1⟩ : ∃ zz, zz = va_up g c (.inl (cy 0, 200, .inl (upd fc sz x))) := ⟨_, rfl⟩
    have hW : Wd G A js.heap (N, ad, g_1) H locs := by rw [eg_1]; exact hW
    have hf2 : g_1 n = .inr (5, [.ref (ad c), .ref (ad r), .int (nI sz)]) := by rw [eg_1]; exact (va_up_n (by omega)).trans fn
    have hf3 : g_1 c = .inl (cy 0, 200, .inl (upd fc sz x)) := by rw [eg_1]; exact va_up_s
    have hf4 : g_1 r = .inl (cy 0, 200, .inl fr) := by rw [eg_1]; exact (va_up_n (by omega)).trans fr_
    refine lv_aload_n jx jb dX5_add_20 rfl (lv_at hl 0 rfl) ?_
    refine w_get X hW K5 hn hf2 1 (by decide) fl_X5_15 rfl dX5_add_21 ?_
    refine lv_aload_n jx jb dX5_add_24 rfl (lv_at hl 0 rfl) ?_
    refine w_get X hW K5 hn hf2 2 (by decide) fl_X5_18 rfl dX5_add_25 ?_
    refine lv_iload_n jx jb dX5_add_28 rfl (lv_at hl 2 rfl) ?_
    refine w_ist X hW hr hf4 sz rfl (by omega) (by decide) dX5_add_29 (fun H locs hW => ?_)
    obtain ⟨g_5, eg_5⟩ : ∃ zz, zz = va_up g_1 r (.inl (cy 0, 200, .inl (upd fr sz y))) := ⟨_, rfl⟩
    have hW : Wd G A js.heap (N, ad, g_5) H locs := by rw [eg_5]; exact hW
    have hf6 : g_5 n = .inr (5, [.ref (ad c), .ref (ad r), .int (nI sz)]) := by rw [eg_5]; exact (va_up_n (by omega)).trans hf2
    have hf7 : g_5 c = .inl (cy 0, 200, .inl (upd fc sz x)) := by rw [eg_5]; exact (va_up_n (by omega)).trans hf3
    have hf8 : g_5 r = .inl (cy 0, 200, .inl (upd fr sz y)) := by rw [eg_5]; exact va_up_s
    refine lv_aload_n jx jb dX5_add_30 rfl (lv_at hl 0 rfl) ?_
    refine lv_dup jx jb dX5_add_31 rfl ?_
    refine w_get X hW K5 hn hf6 2 (by decide) fl_X5_18 rfl dX5_add_32 ?_
    refine lv_iconst (v := 1) jx jb dX5_add_35 (by decide) ?_
    refine lv_iadd jx jb dX5_add_36 ?_
    refine top_eq (y := nI (sz + 1)) (nI_1 _) ?_
    refine w_put X hW K5 hn hf6 2 (by decide) fl_X5_18 rfl rfl rfl (Nat.le_of_ble_eq_true rfl) dX5_add_37 (fun H locs hW => ?_)
    obtain ⟨g_9, eg_9⟩ : ∃ zz, zz = va_up g_5 n (.inr (5, [.ref (ad c), .ref (ad r), .int (nI (sz + 1))])) := ⟨_, rfl⟩
    have hW : Wd G A js.heap (N, ad, g_9) H locs := by rw [eg_9]; exact hW
    have hf10 : g_9 n = .inr (5, [.ref (ad c), .ref (ad r), .int (nI (sz + 1))]) := by rw [eg_9]; exact va_up_s
    have hf11 : g_9 c = .inl (cy 0, 200, .inl (upd fc sz x)) := by rw [eg_9]; exact (va_up_n (by omega)).trans hf7
    have hf12 : g_9 r = .inl (cy 0, 200, .inl (upd fr sz y)) := by rw [eg_9]; exact (va_up_n (by omega)).trans hf8
    exact ret _ _ _ _ _ dX5_add_40 hW ⟨⟨hn, hc, hr, q1, q2, q3, by omega, hf10, hf11, hf12⟩, (fun k hk => by show g_9 k = _; simp only [List.mem_cons, List.not_mem_nil, or_false, not_or] at hk; rw [eg_9, va_up_n (by omega), eg_5, va_up_n (by omega), eg_1, va_up_n (by omega)])⟩

set_option maxHeartbeats 4000000 in
set_option maxRecDepth 100000 in
theorem c_move {l : Launch} {G : va_G} {cy : Nat → ClassId} {N : Nat} {ad : Nat → Nat} {g : Nat → va_E} {n c r sz : Nat} {fc fr : Nat → Int32} {a b : Nat} (hR : RowAt cy N ad g n c r sz fc fr) (ha : a < sz) (hb : b < sz) : MV l G cy (N, ad, g) yX5_move cX5_move 3 none (rmN 1) [.ref (ad n), .int (nI a), .int (nI b)] (nV N ad (fun g1 => RowAt cy N ad g1 n c r sz (upd fc b (fc a)) fr ∧ Fr g g1 [n, c, r])) := by
  refine NV.mk (by decide) (Nat.le_of_ble_eq_true rfl) ?_
  intro jp je js jm below meth jc A Q X hW ret ls hl
  have jx := X.hx
  have jb := X.hb
  have hl : lv_has ls 3 [(0, .ref (ad n)), (1, .int (nI a)), (2, .int (nI b))] := hl
  have X : Cx G cy jp js jm _ jc cX5_move 3 RX5 A js.heap := X
  obtain ⟨hn, hc, hr, q1, q2, q3, hsz, fn, fc_, fr_⟩ := id hR
  refine lv_iload_n jx jb dX5_move_0 rfl (lv_at hl 1 rfl) ?_
  refine lv_aload_n jx jb dX5_move_1 rfl (lv_at hl 0 rfl) ?_
  refine w_get X hW K5 hn fn 2 (by decide) fl_X5_18 rfl dX5_move_2 ?_
  refine w_rN (As := [.int (nI a), .int (nI sz)]) X hW (c_isBelow) mn_X5_22 mf_X8_isBelow ⟨Nat.le_of_ble_eq_true rfl, Nat.le_of_ble_eq_true rfl⟩ hl.1 rfl (Nat.le_of_ble_eq_true rfl) ⟨Nat.le_of_ble_eq_true rfl, Nat.le_of_ble_eq_true rfl⟩ dX5_move_5 (fun H locs hW => ?_)
  refine lv_if_eq (tgt := 34) jx jb dX5_move_8 (by decide) (fun c8 => ?_) (fun c8 => ?_)
  · exact absurd (c8.symm.trans (bel_t ha (by omega))) (by decide)
  · refine lv_iload_n jx jb dX5_move_11 rfl (lv_at hl 2 rfl) ?_
    refine lv_aload_n jx jb dX5_move_12 rfl (lv_at hl 0 rfl) ?_
    refine w_get X hW K5 hn fn 2 (by decide) fl_X5_18 rfl dX5_move_13 ?_
    refine w_rN (As := [.int (nI b), .int (nI sz)]) X hW (c_isBelow) mn_X5_22 mf_X8_isBelow ⟨Nat.le_of_ble_eq_true rfl, Nat.le_of_ble_eq_true rfl⟩ hl.1 rfl (Nat.le_of_ble_eq_true rfl) ⟨Nat.le_of_ble_eq_true rfl, Nat.le_of_ble_eq_true rfl⟩ dX5_move_16 (fun H locs hW => ?_)
    refine lv_if_eq (tgt := 34) jx jb dX5_move_19 (by decide) (fun c19 => ?_) (fun c19 => ?_)
    · exact absurd (c19.symm.trans (bel_t hb (by omega))) (by decide)
    · refine lv_aload_n jx jb dX5_move_22 rfl (lv_at hl 0 rfl) ?_
      refine w_get X hW K5 hn fn 0 (by decide) fl_X5_9 rfl dX5_move_23 ?_
      refine lv_iload_n jx jb dX5_move_26 rfl (lv_at hl 2 rfl) ?_
      refine lv_aload_n jx jb dX5_move_27 rfl (lv_at hl 0 rfl) ?_
      refine w_get X hW K5 hn fn 0 (by decide) fl_X5_9 rfl dX5_move_28 ?_
      refine lv_iload_n jx jb dX5_move_31 rfl (lv_at hl 1 rfl) ?_
      refine w_ild X hW hc fc_ a rfl (by omega) (by decide) dX5_move_32 ?_
      refine w_ist X hW hc fc_ b rfl (by omega) (by decide) dX5_move_33 (fun H locs hW => ?_)
      obtain ⟨g_1, eg_1⟩ : ∃ zz, zz = va_up g c (.inl (cy 0, 200, .inl (upd fc b (fc a)))) := ⟨_, rfl⟩
      have hW : Wd G A js.heap (N, ad, g_1) H locs := by rw [eg_1]; exact hW
      have hf2 : g_1 n = .inr (5, [.ref (ad c), .ref (ad r), .int (nI sz)]) := by rw [eg_1]; exact (va_up_n (by omega)).trans fn
      have hf3 : g_1 c = .inl (cy 0, 200, .inl (upd fc b (fc a))) := by rw [eg_1]; exact va_up_s
      have hf4 : g_1 r = .inl (cy 0, 200, .inl fr) := by rw [eg_1]; exact (va_up_n (by omega)).trans fr_
      exact ret _ _ _ _ _ dX5_move_34 hW ⟨⟨hn, hc, hr, q1, q2, q3, hsz, hf2, hf3, hf4⟩, (fun k hk => by show g_1 k = _; simp only [List.mem_cons, List.not_mem_nil, or_false, not_or] at hk; rw [eg_1, va_up_n (by omega)])⟩

set_option maxHeartbeats 4000000 in
set_option maxRecDepth 100000 in
theorem c_cutTo {l : Launch} {G : va_G} {cy : Nat → ClassId} {N : Nat} {ad : Nat → Nat} {g : Nat → va_E} {n c r sz : Nat} {fc fr : Nat → Int32} {j : Nat} (hR : RowAt cy N ad g n c r sz fc fr) (hj : j ≤ sz) : MV l G cy (N, ad, g) yX5_cutTo cX5_cutTo 2 none (rmN 1) [.ref (ad n), .int (nI j)] (nV N ad (fun g1 => RowAt cy N ad g1 n c r j fc fr ∧ Fr g g1 [n, c, r])) := by
  refine NV.mk (by decide) (Nat.le_of_ble_eq_true rfl) ?_
  intro jp je js jm below meth jc A Q X hW ret ls hl
  have jx := X.hx
  have jb := X.hb
  have hl : lv_has ls 2 [(0, .ref (ad n)), (1, .int (nI j))] := hl
  have X : Cx G cy jp js jm _ jc cX5_cutTo 2 RX5 A js.heap := X
  obtain ⟨hn, hc, hr, q1, q2, q3, hsz, fn, fc_, fr_⟩ := id hR
  refine lv_iload_n jx jb dX5_cutTo_0 rfl (lv_at hl 1 rfl) ?_
  refine lv_aload_n jx jb dX5_cutTo_1 rfl (lv_at hl 0 rfl) ?_
  refine w_get X hW K5 hn fn 2 (by decide) fl_X5_18 rfl dX5_cutTo_2 ?_
  refine w_rN (As := [.int (nI j), .int (nI sz)]) X hW (c_isBelow) mn_X5_22 mf_X8_isBelow ⟨Nat.le_of_ble_eq_true rfl, Nat.le_of_ble_eq_true rfl⟩ hl.1 rfl (Nat.le_of_ble_eq_true rfl) ⟨Nat.le_of_ble_eq_true rfl, Nat.le_of_ble_eq_true rfl⟩ dX5_cutTo_5 (fun H locs hW => ?_)
  refine lv_if_eq (tgt := 16) jx jb dX5_cutTo_8 (by decide) (fun c8 => ?_) (fun c8 => ?_)
  · exact ret _ _ _ _ _ dX5_cutTo_16 hW ⟨by have e : j = sz := (by rcases Nat.lt_or_ge j sz with q | q; exact absurd (c8.symm.trans (bel_t q (by omega))) (by decide); omega); rw [e]; exact hR, (fun k hk => rfl)⟩
  · refine lv_aload_n jx jb dX5_cutTo_11 rfl (lv_at hl 0 rfl) ?_
    refine lv_iload_n jx jb dX5_cutTo_12 rfl (lv_at hl 1 rfl) ?_
    refine w_put X hW K5 hn fn 2 (by decide) fl_X5_18 rfl rfl rfl (Nat.le_of_ble_eq_true rfl) dX5_cutTo_13 (fun H locs hW => ?_)
    obtain ⟨g_1, eg_1⟩ : ∃ zz, zz = va_up g n (.inr (5, [.ref (ad c), .ref (ad r), .int (nI j)])) := ⟨_, rfl⟩
    have hW : Wd G A js.heap (N, ad, g_1) H locs := by rw [eg_1]; exact hW
    have hf2 : g_1 n = .inr (5, [.ref (ad c), .ref (ad r), .int (nI j)]) := by rw [eg_1]; exact va_up_s
    have hf3 : g_1 c = .inl (cy 0, 200, .inl fc) := by rw [eg_1]; exact (va_up_n (by omega)).trans fc_
    have hf4 : g_1 r = .inl (cy 0, 200, .inl fr) := by rw [eg_1]; exact (va_up_n (by omega)).trans fr_
    exact ret _ _ _ _ _ dX5_cutTo_16 hW ⟨⟨hn, hc, hr, q1, q2, q3, by omega, hf2, hf3, hf4⟩, (fun k hk => by show g_1 k = _; simp only [List.mem_cons, List.not_mem_nil, or_false, not_or] at hk; rw [eg_1, va_up_n (by omega)])⟩

set_option maxHeartbeats 4000000 in
set_option maxRecDepth 100000 in
theorem c_copyStart {l : Launch} {G : va_G} {cy : Nat → ClassId} {N : Nat} {ad : Nat → Nat} {g : Nat → va_E} {n c r sz : Nat} {fc fr : Nat → Int32} {n' c' r' sz' : Nat} {fc' fr' : Nat → Int32} {len : Nat} (hR : RowAt cy N ad g n c r sz fc fr) (hR' : RowAt cy N ad g n' c' r' sz' fc' fr') (hd : n ≠ n' ∧ n ≠ c' ∧ n ≠ r' ∧ c ≠ n' ∧ c ≠ c' ∧ c ≠ r' ∧ r ≠ n' ∧ r ≠ c' ∧ r ≠ r') (hlen : len ≤ sz') : MV l G cy (N, ad, g) yX5_copyStart cX5_copyStart 4 none (rmN 1) [.ref (ad n), .ref (ad n'), .int (nI len)] (nV N ad (fun g1 => ∃ fk fq, RowAt cy N ad g1 n c r len fk fq ∧ (∀ i, i < len → fk i = fc' i) ∧ Fr g g1 [n, c, r])) := by
  refine NV.mk (by decide) (Nat.le_of_ble_eq_true rfl) ?_
  intro jp je js jm below meth jc A Q X hW ret ls hl
  have jx := X.hx
  have jb := X.hb
  have hl : lv_has ls 4 [(0, .ref (ad n)), (1, .ref (ad n')), (2, .int (nI len))] := hl
  have X : Cx G cy jp js jm _ jc cX5_copyStart 4 RX5 A js.heap := X
  obtain ⟨hn, hc, hr, q1, q2, q3, hsz, fn, fc_, fr_⟩ := id hR
  obtain ⟨hn', hc', hr', q1', q2', q3', hsz', fn', fc_', fr_'⟩ := id hR'
  refine lv_aload_n jx jb dX5_copyStart_0 rfl (lv_at hl 0 rfl) ?_
  refine lv_iconst (v := 0) jx jb dX5_copyStart_1 (by decide) ?_
  refine w_put X hW K5 hn fn 2 (by decide) fl_X5_18 rfl rfl rfl (Nat.le_of_ble_eq_true rfl) dX5_copyStart_2 (fun H locs hW => ?_)
  obtain ⟨g_1, eg_1⟩ : ∃ zz, zz = va_up g n (.inr (5, [.ref (ad c), .ref (ad r), .int 0])) := ⟨_, rfl⟩
  have hW : Wd G A js.heap (N, ad, g_1) H locs := by rw [eg_1]; exact hW
  have hf2 : g_1 n = .inr (5, [.ref (ad c), .ref (ad r), .int 0]) := by rw [eg_1]; exact va_up_s
  have hf3 : g_1 c = .inl (cy 0, 200, .inl fc) := by rw [eg_1]; exact (va_up_n (by omega)).trans fc_
  have hf4 : g_1 r = .inl (cy 0, 200, .inl fr) := by rw [eg_1]; exact (va_up_n (by omega)).trans fr_
  have hf5 : g_1 n' = .inr (5, [.ref (ad c'), .ref (ad r'), .int (nI sz')]) := by rw [eg_1]; exact (va_up_n (by omega)).trans fn'
  have hf6 : g_1 c' = .inl (cy 0, 200, .inl fc') := by rw [eg_1]; exact (va_up_n (by omega)).trans fc_'
  have hf7 : g_1 r' = .inl (cy 0, 200, .inl fr') := by rw [eg_1]; exact (va_up_n (by omega)).trans fr_'
  refine lv_iconst (v := 0) jx jb dX5_copyStart_5 (by decide) ?_
  refine lv_istore_n (lv' := [(3, .int 0), (0, .ref (ad n)), (1, .ref (ad n')), (2, .int (nI len))]) jx jb dX5_copyStart_6 rfl hl (by decide) rfl (fun ls hl => ?_)
  have loop7 : ∀ (fuel7 : Nat) (k : Nat) (fk : Nat → Int32) (fq : Nat → Int32) (gL7 : Nat → va_E) (H : Heap) (locs : List Loc) (ls : Array Slot), (k ≤ len) → (∀ i, i < k → fk i = fc' i) → gL7 n = .inr (5, [.ref (ad c), .ref (ad r), .int (nI k)]) → gL7 c = .inl (cy 0, 200, .inl fk) → gL7 r = .inl (cy 0, 200, .inl fq) → gL7 n' = .inr (5, [.ref (ad c'), .ref (ad r'), .int (nI sz')]) → gL7 c' = .inl (cy 0, 200, .inl fc') → gL7 r' = .inl (cy 0, 200, .inl fr') → Fr g gL7 [n, c, r] → len - k < fuel7 → Wd G A js.heap (N, ad, gL7) H locs → lv_has ls 4 [(0, .ref (ad n)), (1, .ref (ad n')), (2, .int (nI len)), (3, .int (nI k))] → W jp l je (rmN 1) js jm [.ref (ad n), .ref (ad n'), .int (nI len)].toArray below meth jc H locs 0 0 Q (F0 jm 7 ls []) := by
    intro fuel7
    induction fuel7 with
    | zero => intro k fk fq gL7 H locs ls hk hcp fL7_0 fL7_1 fL7_2 fL7_3 fL7_4 fL7_5 hfr7 hm7; exact absurd hm7 (Nat.not_lt_zero _)
    | succ fuel7 ih7 =>
      intro k fk fq gL7 H locs ls hk hcp fL7_0 fL7_1 fL7_2 fL7_3 fL7_4 fL7_5 hfr7 hm7 hW hl
      refine lv_iload_n jx jb dX5_copyStart_7 rfl (lv_at hl 3 rfl) ?_
      refine lv_iload_n jx jb dX5_copyStart_8 rfl (lv_at hl 2 rfl) ?_
      refine lv_icmp_ge (tgt := 42) jx jb dX5_copyStart_9 (by decide) (fun c9 => ?_) (fun c9 => ?_)
      · exact ret _ _ _ _ _ dX5_copyStart_42 hW ⟨_, _, (by have := n_le (by omega) (by omega) c9; have e : k = len := (by omega); rw [← e]; exact ⟨hn, hc, hr, q1, q2, q3, by omega, fL7_0, fL7_1, fL7_2⟩), (by have := n_le (by omega) (by omega) c9; have e : k = len := (by omega); rw [← e]; exact hcp), (fun k hk => by show gL7 k = _; simp only [List.mem_cons, List.not_mem_nil, or_false, not_or] at hk; rw [hfr7 k (by simp only [List.mem_cons, List.not_mem_nil, or_false, not_or] <;> omega)])⟩
      · have hlt : k < len := n_nle (by omega) (by omega) c9
        refine lv_iload_n jx jb dX5_copyStart_12 rfl (lv_at hl 3 rfl) ?_
        refine lv_aload_n jx jb dX5_copyStart_13 rfl (lv_at hl 1 rfl) ?_
        refine w_get X hW K5 hn' fL7_3 2 (by decide) fl_X5_18 rfl dX5_copyStart_14 ?_
        refine lv_icmp_ge (tgt := 42) jx jb dX5_copyStart_17 (by decide) (fun c17 => ?_) (fun c17 => ?_)
        · exact absurd (n_le (by omega) (by omega) c17) (by omega)
        · refine lv_aload_n jx jb dX5_copyStart_20 rfl (lv_at hl 0 rfl) ?_
          refine lv_aload_n jx jb dX5_copyStart_21 rfl (lv_at hl 1 rfl) ?_
          refine w_get X hW K5 hn' fL7_3 0 (by decide) fl_X5_9 rfl dX5_copyStart_22 ?_
          refine lv_iload_n jx jb dX5_copyStart_25 rfl (lv_at hl 3 rfl) ?_
          refine w_ild X hW hc' fL7_4 k rfl (by omega) (by decide) dX5_copyStart_26 ?_
          refine lv_aload_n jx jb dX5_copyStart_27 rfl (lv_at hl 1 rfl) ?_
          refine w_get X hW K5 hn' fL7_3 1 (by decide) fl_X5_15 rfl dX5_copyStart_28 ?_
          refine lv_iload_n jx jb dX5_copyStart_31 rfl (lv_at hl 3 rfl) ?_
          refine w_ild X hW hr' fL7_5 k rfl (by omega) (by decide) dX5_copyStart_32 ?_
          refine w_nVv (As := [.int (fc' k), .int (fr' k)]) X hW (c_rAdd (n := n) (c := c) (r := r) ⟨hn, hc, hr, q1, q2, q3, by omega, fL7_0, fL7_1, fL7_2⟩ (by omega)) hn fL7_0 rfl rfl ml_X5_26 mf_X5_add ⟨Nat.le_of_ble_eq_true rfl, Nat.le_of_ble_eq_true rfl⟩ hl.1 rfl (Nat.le_of_ble_eq_true rfl) ⟨Nat.le_of_ble_eq_true rfl, Nat.le_of_ble_eq_true rfl⟩ dX5_copyStart_33 (fun g1 H locs hp hW => ?_)
          obtain ⟨⟨-, -, -, -, -, -, -, p8, p9, p10⟩, pfr⟩ := hp
          have hf8 : g1 n' = .inr (5, [.ref (ad c'), .ref (ad r'), .int (nI sz')]) := (pfr n' (by simp only [List.mem_cons, List.not_mem_nil, or_false, not_or] <;> omega)).trans fL7_3
          have hf9 : g1 c' = .inl (cy 0, 200, .inl fc') := (pfr c' (by simp only [List.mem_cons, List.not_mem_nil, or_false, not_or] <;> omega)).trans fL7_4
          have hf10 : g1 r' = .inl (cy 0, 200, .inl fr') := (pfr r' (by simp only [List.mem_cons, List.not_mem_nil, or_false, not_or] <;> omega)).trans fL7_5
          refine lv_iinc (v := nI (k + 1)) (lv' := [(3, .int (nI (k + 1))), (0, .ref (ad n)), (1, .ref (ad n')), (2, .int (nI len))]) jx jb dX5_copyStart_36 hl (k := 3) rfl (show nI k + 1 = nI (k + 1) from nI_1 _) (by decide) rfl (fun ls hl => ?_)
          refine lv_goto (tgt := 7) jx jb dX5_copyStart_39 (by decide) ?_
          exact ih7 (k + 1) _ _ g1 _ _ _ (by omega) (fun i hi => by by_cases e : i = k; (rw [e, pk_us]); (rw [pk_un e]; exact hcp i (by omega))) p8 p9 p10 hf8 hf9 hf10 (fun k hk => by show g1 k = _; simp only [List.mem_cons, List.not_mem_nil, or_false, not_or] at hk; rw [pfr k (by simp only [List.mem_cons, List.not_mem_nil, or_false, not_or] <;> omega), hfr7 k (by simp only [List.mem_cons, List.not_mem_nil, or_false, not_or] <;> omega)]) (by omega) hW (lv_sub hl [1, 2, 3, 0] rfl)
  exact loop7 _ 0 _ _ g_1 _ _ _ (by omega) (fun i hi => absurd hi (by omega)) hf2 hf3 hf4 hf5 hf6 hf7 (fun k hk => by show g_1 k = _; simp only [List.mem_cons, List.not_mem_nil, or_false, not_or] at hk; rw [eg_1, va_up_n (by omega)]) (Nat.lt_succ_self _) hW (lv_sub hl [1, 2, 3, 0] rfl)

set_option maxHeartbeats 4000000 in
set_option maxRecDepth 100000 in
theorem c_hasCallOf {l : Launch} {G : va_G} {cy : Nat → ClassId} {N : Nat} {ad : Nat → Nat} {g : Nat → va_E} {n c r sz : Nat} {fc fr : Nat → Int32} {cl : Nat → Nat} {kd : Nat} (hR : RowAt cy N ad g n c r sz fc fr) (hC : ∀ k, k < sz → fc k = nI (cl k) ∧ cl k < 96) (hkd : kd < 6) : RI l G cy (N, ad, g) yX5_hasCallOf cX5_hasCallOf 3 (some .boolean) (rmN 1) [.ref (ad n), .int (nI kd)] (bI (anyK cl kd sz = true)) := by
  refine RI.mk (by decide) (by first | rfl | exact bI_nar) (Nat.le_of_ble_eq_true rfl) ?_
  intro jp je js jm below meth jc A Q X hW ret ls hl
  have jx := X.hx
  have jb := X.hb
  have hl : lv_has ls 3 [(0, .ref (ad n)), (1, .int (nI kd))] := hl
  have X : Cx G cy jp js jm _ jc cX5_hasCallOf 3 RX5 A js.heap := X
  obtain ⟨hn, hc, hr, q1, q2, q3, hsz, fn, fc_, fr_⟩ := id hR
  refine lv_iconst (v := 0) jx jb dX5_hasCallOf_0 (by decide) ?_
  refine lv_istore_n (lv' := [(2, .int 0), (0, .ref (ad n)), (1, .int (nI kd))]) jx jb dX5_hasCallOf_1 rfl hl (by decide) rfl (fun ls hl => ?_)
  have loop2 : ∀ (fuel2 : Nat) (k : Nat) (H : Heap) (locs : List Loc) (ls : Array Slot), (k ≤ sz) → (anyK cl kd k = false) → sz - k < fuel2 → Wd G A js.heap (N, ad, g) H locs → lv_has ls 3 [(0, .ref (ad n)), (1, .int (nI kd)), (2, .int (nI k))] → W jp l je (rmN 1) js jm [.ref (ad n), .int (nI kd)].toArray below meth jc H locs 0 0 Q (F0 jm 2 ls []) := by
    intro fuel2
    induction fuel2 with
    | zero => intro k H locs ls hk ha  hm2; exact absurd hm2 (Nat.not_lt_zero _)
    | succ fuel2 ih2 =>
      intro k H locs ls hk ha  hm2 hW hl
      refine lv_iload_n jx jb dX5_hasCallOf_2 rfl (lv_at hl 2 rfl) ?_
      refine lv_aload_n jx jb dX5_hasCallOf_3 rfl (lv_at hl 0 rfl) ?_
      refine w_get X hW K5 hn fn 2 (by decide) fl_X5_18 rfl dX5_hasCallOf_4 ?_
      refine lv_icmp_ge (tgt := 31) jx jb dX5_hasCallOf_7 (by decide) (fun c7 => ?_) (fun c7 => ?_)
      · refine lv_iconst (v := 0) jx jb dX5_hasCallOf_31 (by decide) ?_
        exact ret _ _ _ _ _ dX5_hasCallOf_32 hW (by have := n_le (by omega) (by omega) c7; have e : k = sz := (by omega); rw [← e, ha]; rfl)
      · have hlt : k < sz := n_nle (by omega) (by omega) c7
        have h96 := (hC k hlt).2
        refine lv_aload_n jx jb dX5_hasCallOf_10 rfl (lv_at hl 0 rfl) ?_
        refine w_get X hW K5 hn fn 0 (by decide) fl_X5_9 rfl dX5_hasCallOf_11 ?_
        refine lv_iload_n jx jb dX5_hasCallOf_14 rfl (lv_at hl 2 rfl) ?_
        refine w_ild X hW hc fc_ k rfl (by omega) (by decide) dX5_hasCallOf_15 ?_
        refine top_eq (y := nI (cl k)) ((hC k hlt).1) ?_
        refine w_rN (As := [.int (nI (cl k))]) X hW (c_kindOf (by have := (hC k hlt).2; omega)) mn_X5_36 mf_X8_kindOf ⟨Nat.le_of_ble_eq_true rfl, Nat.le_of_ble_eq_true rfl⟩ hl.1 rfl (Nat.le_of_ble_eq_true rfl) ⟨Nat.le_of_ble_eq_true rfl, Nat.le_of_ble_eq_true rfl⟩ dX5_hasCallOf_16 (fun H locs hW => ?_)
        refine lv_iload_n jx jb dX5_hasCallOf_19 rfl (lv_at hl 1 rfl) ?_
        refine lv_icmp_ne (tgt := 25) jx jb dX5_hasCallOf_20 (by decide) (fun c20 => ?_) (fun c20 => ?_)
        · have hne : ¬ cl k / 16 = kd := n_ne (by omega) (by omega) c20
          refine lv_iinc (v := nI (k + 1)) (lv' := [(2, .int (nI (k + 1))), (0, .ref (ad n)), (1, .int (nI kd))]) jx jb dX5_hasCallOf_25 hl (k := 2) rfl (show nI k + 1 = nI (k + 1) from nI_1 _) (by decide) rfl (fun ls hl => ?_)
          refine lv_goto (tgt := 2) jx jb dX5_hasCallOf_28 (by decide) ?_
          exact ih2 (k + 1)  _ _ _ (by omega) (by unfold anyK; rw [ha]; simp; exact hne)  (by omega) hW (lv_sub hl [1, 2, 0] rfl)
        · refine lv_iconst (v := 1) jx jb dX5_hasCallOf_23 (by decide) ?_
          exact ret _ _ _ _ _ dX5_hasCallOf_24 hW (bI_t (anyK_mono (a := k + 1) (by unfold anyK; rw [n_eq (by omega) (by omega) c20]; simp) (by omega))).symm
  exact loop2 _ 0  _ _ _ (by omega) rfl  (Nat.lt_succ_self _) hW (lv_sub hl [1, 2, 0] rfl)

set_option maxHeartbeats 4000000 in
set_option maxRecDepth 100000 in
theorem c_hasSameCalls {l : Launch} {G : va_G} {cy : Nat → ClassId} {N : Nat} {ad : Nat → Nat} {g : Nat → va_E} {n c r sz : Nat} {fc fr : Nat → Int32} {n' c' r' sz' : Nat} {fc' fr' : Nat → Int32} (hR : RowAt cy N ad g n c r sz fc fr) (hR' : RowAt cy N ad g n' c' r' sz' fc' fr') : RI l G cy (N, ad, g) yX5_hasSameCalls cX5_hasSameCalls 3 (some .boolean) (rmN 0) [.ref (ad n), .ref (ad n')] (bI (sz = sz' ∧ sameK fc fc' sz = true)) := by
  refine RI.mk (by decide) (by first | rfl | exact bI_nar) (Nat.le_of_ble_eq_true rfl) ?_
  intro jp je js jm below meth jc A Q X hW ret ls hl
  have jx := X.hx
  have jb := X.hb
  have hl : lv_has ls 3 [(0, .ref (ad n)), (1, .ref (ad n'))] := hl
  have X : Cx G cy jp js jm _ jc cX5_hasSameCalls 3 RX5 A js.heap := X
  obtain ⟨hn, hc, hr, q1, q2, q3, hsz, fn, fc_, fr_⟩ := id hR
  obtain ⟨hn', hc', hr', q1', q2', q3', hsz', fn', fc_', fr_'⟩ := id hR'
  refine lv_aload_n jx jb dX5_hasSameCalls_0 rfl (lv_at hl 0 rfl) ?_
  refine w_get X hW K5 hn fn 2 (by decide) fl_X5_18 rfl dX5_hasSameCalls_1 ?_
  refine lv_aload_n jx jb dX5_hasSameCalls_4 rfl (lv_at hl 1 rfl) ?_
  refine w_get X hW K5 hn' fn' 2 (by decide) fl_X5_18 rfl dX5_hasSameCalls_5 ?_
  refine lv_icmp_eq (tgt := 13) jx jb dX5_hasSameCalls_8 (by decide) (fun c8 => ?_) (fun c8 => ?_)
  · have hss : sz = sz' := n_eq (by omega) (by omega) c8
    refine lv_iconst (v := 0) jx jb dX5_hasSameCalls_13 (by decide) ?_
    refine lv_istore_n (lv' := [(2, .int 0), (0, .ref (ad n)), (1, .ref (ad n'))]) jx jb dX5_hasSameCalls_14 rfl hl (by decide) rfl (fun ls hl => ?_)
    have loop15 : ∀ (fuel15 : Nat) (k : Nat) (H : Heap) (locs : List Loc) (ls : Array Slot), (k ≤ sz) → (sameK fc fc' k = true) → sz - k < fuel15 → Wd G A js.heap (N, ad, g) H locs → lv_has ls 3 [(0, .ref (ad n)), (1, .ref (ad n')), (2, .int (nI k))] → W jp l je (rmN 0) js jm [.ref (ad n), .ref (ad n')].toArray below meth jc H locs 0 0 Q (F0 jm 15 ls []) := by
      intro fuel15
      induction fuel15 with
      | zero => intro k H locs ls hk ha  hm15; exact absurd hm15 (Nat.not_lt_zero _)
      | succ fuel15 ih15 =>
        intro k H locs ls hk ha  hm15 hW hl
        refine lv_iload_n jx jb dX5_hasSameCalls_15 rfl (lv_at hl 2 rfl) ?_
        refine lv_aload_n jx jb dX5_hasSameCalls_16 rfl (lv_at hl 0 rfl) ?_
        refine w_get X hW K5 hn fn 2 (by decide) fl_X5_18 rfl dX5_hasSameCalls_17 ?_
        refine lv_icmp_ge (tgt := 46) jx jb dX5_hasSameCalls_20 (by decide) (fun c20 => ?_) (fun c20 => ?_)
        · refine lv_iconst (v := 1) jx jb dX5_hasSameCalls_46 (by decide) ?_
          exact ret _ _ _ _ _ dX5_hasSameCalls_47 hW (bI_t ⟨hss, by have := n_le (by omega) (by omega) c20; have e : k = sz := (by omega); rw [← e]; exact ha⟩).symm
        · have hlt : k < sz := n_nle (by omega) (by omega) c20
          refine lv_aload_n jx jb dX5_hasSameCalls_23 rfl (lv_at hl 0 rfl) ?_
          refine w_get X hW K5 hn fn 0 (by decide) fl_X5_9 rfl dX5_hasSameCalls_24 ?_
          refine lv_iload_n jx jb dX5_hasSameCalls_27 rfl (lv_at hl 2 rfl) ?_
          refine w_ild X hW hc fc_ k rfl (by omega) (by decide) dX5_hasSameCalls_28 ?_
          refine lv_aload_n jx jb dX5_hasSameCalls_29 rfl (lv_at hl 1 rfl) ?_
          refine w_get X hW K5 hn' fn' 0 (by decide) fl_X5_9 rfl dX5_hasSameCalls_30 ?_
          refine lv_iload_n jx jb dX5_hasSameCalls_33 rfl (lv_at hl 2 rfl) ?_
          refine w_ild X hW hc' fc_' k rfl (by omega) (by decide) dX5_hasSameCalls_34 ?_
          refine lv_icmp_eq (tgt := 40) jx jb dX5_hasSameCalls_35 (by decide) (fun c35 => ?_) (fun c35 => ?_)
          · refine lv_iinc (v := nI (k + 1)) (lv' := [(2, .int (nI (k + 1))), (0, .ref (ad n)), (1, .ref (ad n'))]) jx jb dX5_hasSameCalls_40 hl (k := 2) rfl (show nI k + 1 = nI (k + 1) from nI_1 _) (by decide) rfl (fun ls hl => ?_)
            refine lv_goto (tgt := 15) jx jb dX5_hasSameCalls_43 (by decide) ?_
            exact ih15 (k + 1)  _ _ _ (by omega) (by unfold sameK; rw [ha]; simp; exact c35)  (by omega) hW (lv_sub hl [1, 2, 0] rfl)
          · refine lv_iconst (v := 0) jx jb dX5_hasSameCalls_38 (by decide) ?_
            exact ret _ _ _ _ _ dX5_hasSameCalls_39 hW (bI_f (fun q => by have h1 := sameK_mono (f := fc) (f' := fc') (a := k + 1) (by unfold sameK; simp [c35]) (b := sz) (by omega); rw [q.2] at h1; cases h1)).symm
    exact loop15 _ 0  _ _ _ (by omega) rfl  (Nat.lt_succ_self _) hW (lv_sub hl [1, 2, 0] rfl)
  · refine lv_iconst (v := 0) jx jb dX5_hasSameCalls_11 (by decide) ?_
    exact ret _ _ _ _ _ dX5_hasSameCalls_12 hW (bI_f (fun q => n_ne (by omega) (by omega) c8 q.1)).symm
