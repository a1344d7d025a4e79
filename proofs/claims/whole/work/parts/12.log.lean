/-- the log's cells: the object 4, its row 5 6 7, the branches taken 8 -/
def LogAt (cy : Nat → ClassId) (N : Nat) (ad : Nat → Nat) (g : Nat → va_E) (sz : Nat) (fc fr ft : Nat → Int32) (st : Nat) : Prop := 83 ≤ N ∧ RowAt cy N ad g 5 6 7 sz fc fr ∧ st < 65536 ∧ g 4 = .inr (1, [.ref (ad 5), .ref (ad 8), .int (nI st)]) ∧ g 8 = .inl (cy 0, 200, .inl ft)
theorem LogAt.fr {cy : Nat → ClassId} {N : Nat} {ad : Nat → Nat} {g g' : Nat → va_E} {sz : Nat} {fc fr ft : Nat → Int32} {st : Nat} (h : LogAt cy N ad g sz fc fr ft st) (h1 : ∀ k, 4 ≤ k → k ≤ 8 → g' k = g k) : LogAt cy N ad g' sz fc fr ft st := by
  obtain ⟨a, b, b2, c, d⟩ := h
  exact ⟨a, b.fr (h1 5 (by omega) (by omega)) (h1 6 (by omega) (by omega)) (h1 7 (by omega) (by omega)), b2, (h1 4 (by omega) (by omega)).trans c, (h1 8 (by omega) (by omega)).trans d⟩
def tellV (sz : Nat) (cl : Nat → Nat) (fr ft : Nat → Int32) (i what : Int32) : Int32 := if 0 ≤ i ∧ i < nI sz then (if what = 0 then nI (cl i.toNatClampNeg / 16) else if what = 1 then nI (cl i.toNatClampNeg % 16) else if what = 2 then fr i.toNatClampNeg else if what = 3 then ft i.toNatClampNeg else -1) else -1
theorem tell_no {sz : Nat} {cl : Nat → Nat} {fr ft : Nat → Int32} {i what : Int32} (h : bI (0 ≤ i ∧ i < nI sz) = 0) : (-1 : Int32) = tellV sz cl fr ft i what := by
  unfold tellV
  rw [if_neg (bI_0.mp h)]
theorem sw_out {x : Int32} {n : Nat} (hn : n < 2 ^ 31) (h : x.toInt < 0 ∨ ((n : Int) - 1) < x.toInt) {k : Nat} (hk : k < n) : ¬ x = nI k := fun e => by
  rw [e, nI_toInt (by omega)] at h
  omega

set_option maxHeartbeats 4000000 in
set_option maxRecDepth 100000 in
theorem c_lSize {l : Launch} {G : va_G} {cy : Nat → ClassId} {N : Nat} {ad : Nat → Nat} {g : Nat → va_E} {sz : Nat} {fc fr ft : Nat → Int32} {st : Nat} (hL : LogAt cy N ad g sz fc fr ft st) : RI l G cy (N, ad, g) yX1_size cX1_size 1 (some .int) (rmN 1) [.ref (ad 4)] (nI sz) := by
  refine RI.mk (by decide) (by first | rfl | exact bI_nar) (Nat.le_of_ble_eq_true rfl) ?_
  intro jp je js jm below meth jc A Q X hW ret ls hl
  have jx := X.hx
  have jb := X.hb
  have hl : lv_has ls 1 [(0, .ref (ad 4))] := hl
  have X : Cx G cy jp js jm _ jc cX1_size 1 RX1 A js.heap := X
  obtain ⟨h83, hR, hst, f4, f8⟩ := id hL
  obtain ⟨hn, hc, hr, q1, q2, q3, hsz, fn, fc_, fr_⟩ := id hR
  refine lv_aload_n jx jb dX1_size_0 rfl (lv_at hl 0 rfl) ?_
  refine w_get X hW K1 (by omega) f4 0 (by decide) fl_X1_12 rfl dX1_size_1 ?_
  refine w_rV (As := []) X hW (c_rSize hR) (by omega) fn rfl rfl ml_X1_26 mf_X5_size ⟨Nat.le_of_ble_eq_true rfl, Nat.le_of_ble_eq_true rfl⟩ hl.1 rfl (Nat.le_of_ble_eq_true rfl) ⟨Nat.le_of_ble_eq_true rfl, Nat.le_of_ble_eq_true rfl⟩ dX1_size_4 (fun H locs hW => ?_)
  exact ret _ _ _ _ _ dX1_size_7 hW rfl

set_option maxHeartbeats 4000000 in
set_option maxRecDepth 100000 in
theorem c_logFull {l : Launch} {G : va_G} {cy : Nat → ClassId} {N : Nat} {ad : Nat → Nat} {g : Nat → va_E} {sz : Nat} {fc fr ft : Nat → Int32} {st : Nat} {c0 : Nat} (hL : LogAt cy N ad g sz fc fr ft st) (h200 : sz = 200) : RI l G cy (N, ad, g) yX1_add cX1_add 4 (some .int) (rmN 3) [.ref (ad 4), .int (nI c0), .ref (ad 1)] (-1) := by
  refine RI.mk (by decide) (by first | rfl | exact bI_nar) (Nat.le_of_ble_eq_true rfl) ?_
  intro jp je js jm below meth jc A Q X hW ret ls hl
  have jx := X.hx
  have jb := X.hb
  have hl : lv_has ls 4 [(0, .ref (ad 4)), (1, .int (nI c0)), (2, .ref (ad 1))] := hl
  have X : Cx G cy jp js jm _ jc cX1_add 4 RX1 A js.heap := X
  obtain ⟨h83, hR, hst, f4, f8⟩ := id hL
  obtain ⟨hn, hc, hr, q1, q2, q3, hsz, fn, fc_, fr_⟩ := id hR
  refine lv_aload_n jx jb dX1_add_0 rfl (lv_at hl 0 rfl) ?_
  refine w_get X hW K1 (by omega) f4 0 (by decide) fl_X1_12 rfl dX1_add_1 ?_
  refine w_rV (As := []) X hW (c_rSize hR) (by omega) fn rfl rfl ml_X1_26 mf_X5_size ⟨Nat.le_of_ble_eq_true rfl, Nat.le_of_ble_eq_true rfl⟩ hl.1 rfl (Nat.le_of_ble_eq_true rfl) ⟨Nat.le_of_ble_eq_true rfl, Nat.le_of_ble_eq_true rfl⟩ dX1_add_4 (fun H locs hW => ?_)
  refine lv_istore_n (lv' := [(3, .int (nI sz)), (0, .ref (ad 4)), (1, .int (nI c0)), (2, .ref (ad 1))]) jx jb dX1_add_7 rfl hl (by decide) rfl (fun ls hl => ?_)
  refine lv_iload_n jx jb dX1_add_8 rfl (lv_at hl 0 rfl) ?_
  refine lv_sipush (v := 200) jx jb dX1_add_9 (by decide) ?_
  refine lv_icmp_lt (tgt := 17) jx jb dX1_add_12 (by decide) (fun c12 => ?_) (fun c12 => ?_)
  · exact absurd (n_lt (b := 200) (by omega) (by decide) c12) (by omega)
  · refine lv_iconst (v := -1) jx jb dX1_add_15 (by decide) ?_
    exact ret _ _ _ _ _ dX1_add_16 hW rfl

set_option maxHeartbeats 4000000 in
set_option maxRecDepth 100000 in
theorem c_logAdd {l : Launch} {G : va_G} {cy : Nat → ClassId} {N : Nat} {ad : Nat → Nat} {g : Nat → va_E} {sz : Nat} {fc fr ft : Nat → Int32} {st : Nat} {M : M4} {c0 : Nat} (hM : MachAt cy N ad g M) (hL : LogAt cy N ad g sz fc fr ft st) (hc96 : c0 < 96) (hs : sz < 200) : MI l G cy (N, ad, g) yX1_add cX1_add 4 (some .int) (rmN 3) [.ref (ad 4), .int (nI c0), .ref (ad 1)] (nA N ad (fun v g1 => v = rs M (tk M (c0 / 16) st) (stp M c0 st) ∧ LogAt cy N ad g1 (sz + 1) (upd fc sz (nI c0)) (upd fr sz (rs M (tk M (c0 / 16) st) (stp M c0 st))) (upd ft sz (tI (tk M (c0 / 16) st))) (stp M c0 st) ∧ Fr g g1 [4, 5, 6, 7, 8])) := by
  refine NI.mk (by decide) (by intros; first | rfl | (simp_all; done)) (Nat.le_of_ble_eq_true rfl) ?_
  intro jp je js jm below meth jc A Q X hW ret ls hl
  have jx := X.hx
  have jb := X.hb
  have hl : lv_has ls 4 [(0, .ref (ad 4)), (1, .int (nI c0)), (2, .ref (ad 1))] := hl
  have X : Cx G cy jp js jm _ jc cX1_add 4 RX1 A js.heap := X
  have hok := hM.1
  obtain ⟨-, -, bc_, fs_, f1, -⟩ := id hM
  obtain ⟨h83, hR, hst, f4, f8⟩ := id hL
  obtain ⟨hn, hc, hr, q1, q2, q3, hsz, fn, fc_, fr_⟩ := id hR
  have hst1 : stp M c0 st < 65536 := nx_lt hok (by omega) hst
  refine lv_aload_n jx jb dX1_add_0 rfl (lv_at hl 0 rfl) ?_
  refine w_get X hW K1 (by omega) f4 0 (by decide) fl_X1_12 rfl dX1_add_1 ?_
  refine w_rV (As := []) X hW (c_rSize hR) (by omega) fn rfl rfl ml_X1_26 mf_X5_size ⟨Nat.le_of_ble_eq_true rfl, Nat.le_of_ble_eq_true rfl⟩ hl.1 rfl (Nat.le_of_ble_eq_true rfl) ⟨Nat.le_of_ble_eq_true rfl, Nat.le_of_ble_eq_true rfl⟩ dX1_add_4 (fun H locs hW => ?_)
  refine lv_istore_n (lv' := [(3, .int (nI sz)), (0, .ref (ad 4)), (1, .int (nI c0)), (2, .ref (ad 1))]) jx jb dX1_add_7 rfl hl (by decide) rfl (fun ls hl => ?_)
  refine lv_iload_n jx jb dX1_add_8 rfl (lv_at hl 0 rfl) ?_
  refine lv_sipush (v := 200) jx jb dX1_add_9 (by decide) ?_
  refine lv_icmp_lt (tgt := 17) jx jb dX1_add_12 (by decide) (fun c12 => ?_) (fun c12 => ?_)
  · refine lv_aload_n jx jb dX1_add_17 rfl (lv_at hl 1 rfl) ?_
    refine w_get X hW K1 (by omega) f4 1 (by decide) fl_X1_18 rfl dX1_add_18 ?_
    refine lv_iload_n jx jb dX1_add_21 rfl (lv_at hl 0 rfl) ?_
    refine lv_aload_n jx jb dX1_add_22 rfl (lv_at hl 3 rfl) ?_
    refine lv_iload_n jx jb dX1_add_23 rfl (lv_at hl 2 rfl) ?_
    refine lv_aload_n jx jb dX1_add_24 rfl (lv_at hl 1 rfl) ?_
    refine w_get X hW K1 (by omega) f4 2 (by decide) fl_X1_22 rfl dX1_add_25 ?_
    refine w_rV (As := [.int (nI c0), .int (nI st)]) X hW (c_takenBy (hM.fr (fun k hk => by show g k = _; rfl)) hc96 hst) (by omega) f1 rfl rfl ml_X1_30 mf_X2_takenBy ⟨Nat.le_of_ble_eq_true rfl, Nat.le_of_ble_eq_true rfl⟩ hl.1 rfl (Nat.le_of_ble_eq_true rfl) ⟨Nat.le_of_ble_eq_true rfl, Nat.le_of_ble_eq_true rfl⟩ dX1_add_28 (fun H locs hW => ?_)
    refine w_ist X hW (by omega) f8 sz rfl hs (by decide) dX1_add_31 (fun H locs hW => ?_)
    obtain ⟨g_1, eg_1⟩ : ∃ zz, zz = va_up g 8 (.inl (cy 0, 200, .inl (upd ft sz (tI (tk M (c0 / 16) st))))) := ⟨_, rfl⟩
    have hW : Wd G A js.heap (N, ad, g_1) H locs := by rw [eg_1]; exact hW
    have hf2 : g_1 4 = .inr (1, [.ref (ad 5), .ref (ad 8), .int (nI st)]) := by rw [eg_1]; exact (va_up_n (by decide)).trans f4
    have hf3 : g_1 5 = .inr (5, [.ref (ad 6), .ref (ad 7), .int (nI sz)]) := by rw [eg_1]; exact (va_up_n (by decide)).trans fn
    have hf4 : g_1 6 = .inl (cy 0, 200, .inl fc) := by rw [eg_1]; exact (va_up_n (by decide)).trans fc_
    have hf5 : g_1 7 = .inl (cy 0, 200, .inl fr) := by rw [eg_1]; exact (va_up_n (by decide)).trans fr_
    have hf6 : g_1 8 = .inl (cy 0, 200, .inl (upd ft sz (tI (tk M (c0 / 16) st)))) := by rw [eg_1]; exact va_up_s
    have hf7 : g_1 1 = .inr (2, [.ref (ad 2), .ref (ad 3)]) := by rw [eg_1]; exact (va_up_n (by decide)).trans f1
    refine lv_aload_n jx jb dX1_add_32 rfl (lv_at hl 1 rfl) ?_
    refine lv_aload_n jx jb dX1_add_33 rfl (lv_at hl 3 rfl) ?_
    refine lv_aload_n jx jb dX1_add_34 rfl (lv_at hl 1 rfl) ?_
    refine w_get X hW K1 (by omega) hf2 1 (by decide) fl_X1_18 rfl dX1_add_35 ?_
    refine lv_iload_n jx jb dX1_add_38 rfl (lv_at hl 0 rfl) ?_
    refine w_ild X hW (by omega) hf6 sz rfl hs (by decide) dX1_add_39 ?_
    refine top_eq (y := tI (tk M (c0 / 16) st)) (pk_us) ?_
    refine lv_aload_n jx jb dX1_add_40 rfl (lv_at hl 1 rfl) ?_
    refine w_get X hW K1 (by omega) hf2 2 (by decide) fl_X1_22 rfl dX1_add_41 ?_
    refine lv_iload_n jx jb dX1_add_44 rfl (lv_at hl 2 rfl) ?_
    refine w_rN (As := [.int (nI c0)]) X hW (c_numberOf (by omega)) mn_X1_36 mf_X8_numberOf ⟨Nat.le_of_ble_eq_true rfl, Nat.le_of_ble_eq_true rfl⟩ hl.1 rfl (Nat.le_of_ble_eq_true rfl) ⟨Nat.le_of_ble_eq_true rfl, Nat.le_of_ble_eq_true rfl⟩ dX1_add_45 (fun H locs hW => ?_)
    refine w_rV (As := [.int (tI (tk M (c0 / 16) st)), .int (nI st), .int (nI (c0 % 16))]) X hW (c_mStateBehind (hM.fr (fun k hk => by show g_1 k = _; rw [eg_1, va_up_n (by omega)])) (by omega) hst (Nat.mod_lt _ (by decide))) (by omega) hf7 rfl rfl ml_X1_40 mf_X2_stateBehind ⟨Nat.le_of_ble_eq_true rfl, Nat.le_of_ble_eq_true rfl⟩ hl.1 rfl (Nat.le_of_ble_eq_true rfl) ⟨Nat.le_of_ble_eq_true rfl, Nat.le_of_ble_eq_true rfl⟩ dX1_add_48 (fun H locs hW => ?_)
    refine top_eq (y := nI (stp M c0 st)) (rfl) ?_
    refine w_put X hW K1 (by omega) hf2 2 (by decide) fl_X1_22 rfl rfl rfl (Nat.le_of_ble_eq_true rfl) dX1_add_51 (fun H locs hW => ?_)
    obtain ⟨g_8, eg_8⟩ : ∃ zz, zz = va_up g_1 4 (.inr (1, [.ref (ad 5), .ref (ad 8), .int (nI (stp M c0 st))])) := ⟨_, rfl⟩
    have hW : Wd G A js.heap (N, ad, g_8) H locs := by rw [eg_8]; exact hW
    have hf9 : g_8 4 = .inr (1, [.ref (ad 5), .ref (ad 8), .int (nI (stp M c0 st))]) := by rw [eg_8]; exact va_up_s
    have hf10 : g_8 5 = .inr (5, [.ref (ad 6), .ref (ad 7), .int (nI sz)]) := by rw [eg_8]; exact (va_up_n (by decide)).trans hf3
    have hf11 : g_8 6 = .inl (cy 0, 200, .inl fc) := by rw [eg_8]; exact (va_up_n (by decide)).trans hf4
    have hf12 : g_8 7 = .inl (cy 0, 200, .inl fr) := by rw [eg_8]; exact (va_up_n (by decide)).trans hf5
    have hf13 : g_8 8 = .inl (cy 0, 200, .inl (upd ft sz (tI (tk M (c0 / 16) st)))) := by rw [eg_8]; exact (va_up_n (by decide)).trans hf6
    have hf14 : g_8 1 = .inr (2, [.ref (ad 2), .ref (ad 3)]) := by rw [eg_8]; exact (va_up_n (by decide)).trans hf7
    refine lv_aload_n jx jb dX1_add_54 rfl (lv_at hl 1 rfl) ?_
    refine w_get X hW K1 (by omega) hf9 0 (by decide) fl_X1_12 rfl dX1_add_55 ?_
    refine lv_iload_n jx jb dX1_add_58 rfl (lv_at hl 2 rfl) ?_
    refine lv_aload_n jx jb dX1_add_59 rfl (lv_at hl 3 rfl) ?_
    refine lv_aload_n jx jb dX1_add_60 rfl (lv_at hl 1 rfl) ?_
    refine w_get X hW K1 (by omega) hf9 1 (by decide) fl_X1_18 rfl dX1_add_61 ?_
    refine lv_iload_n jx jb dX1_add_64 rfl (lv_at hl 0 rfl) ?_
    refine w_ild X hW (by omega) hf13 sz rfl hs (by decide) dX1_add_65 ?_
    refine top_eq (y := tI (tk M (c0 / 16) st)) (pk_us) ?_
    refine lv_aload_n jx jb dX1_add_66 rfl (lv_at hl 1 rfl) ?_
    refine w_get X hW K1 (by omega) hf9 2 (by decide) fl_X1_22 rfl dX1_add_67 ?_
    refine w_rV (As := [.int (tI (tk M (c0 / 16) st)), .int (nI (stp M c0 st))]) X hW (c_resultOf (hM.fr (fun k hk => by show g_8 k = _; rw [eg_8, va_up_n (by omega), eg_1, va_up_n (by omega)])) (by omega) hst1) (by omega) hf14 rfl rfl ml_X1_44 mf_X2_resultOf ⟨Nat.le_of_ble_eq_true rfl, Nat.le_of_ble_eq_true rfl⟩ hl.1 rfl (Nat.le_of_ble_eq_true rfl) ⟨Nat.le_of_ble_eq_true rfl, Nat.le_of_ble_eq_true rfl⟩ dX1_add_70 (fun H locs hW => ?_)
    refine w_nVv (As := [.int (nI c0), .int (rs M (tk M (c0 / 16) st) (stp M c0 st))]) X hW (c_rAdd ⟨hn, hc, hr, q1, q2, q3, hsz, hf10, hf11, hf12⟩ hs) (by omega) hf10 rfl rfl ml_X1_47 mf_X5_add ⟨Nat.le_of_ble_eq_true rfl, Nat.le_of_ble_eq_true rfl⟩ hl.1 rfl (Nat.le_of_ble_eq_true rfl) ⟨Nat.le_of_ble_eq_true rfl, Nat.le_of_ble_eq_true rfl⟩ dX1_add_73 (fun g1 H locs hp hW => ?_)
    obtain ⟨hR1, pfr⟩ := hp
    obtain ⟨-, -, -, -, -, -, -, p8, p9, p10⟩ := id hR1
    have hf15 : g1 4 = .inr (1, [.ref (ad 5), .ref (ad 8), .int (nI (stp M c0 st))]) := (pfr 4 (by simp only [List.mem_cons, List.not_mem_nil, or_false, not_or] <;> omega)).trans hf9
    have hf16 : g1 8 = .inl (cy 0, 200, .inl (upd ft sz (tI (tk M (c0 / 16) st)))) := (pfr 8 (by simp only [List.mem_cons, List.not_mem_nil, or_false, not_or] <;> omega)).trans hf13
    have hf17 : g1 1 = .inr (2, [.ref (ad 2), .ref (ad 3)]) := (pfr 1 (by simp only [List.mem_cons, List.not_mem_nil, or_false, not_or] <;> omega)).trans hf14
    refine lv_aload_n jx jb dX1_add_76 rfl (lv_at hl 1 rfl) ?_
    refine w_get X hW K1 (by omega) hf15 0 (by decide) fl_X1_12 rfl dX1_add_77 ?_
    refine lv_iload_n jx jb dX1_add_80 rfl (lv_at hl 0 rfl) ?_
    refine w_rV (As := [.int (nI sz)]) X hW (c_resultAt hR1 (Nat.lt_succ_self _)) (by omega) p8 rfl rfl ml_X1_51 mf_X5_resultAt ⟨Nat.le_of_ble_eq_true rfl, Nat.le_of_ble_eq_true rfl⟩ hl.1 rfl (Nat.le_of_ble_eq_true rfl) ⟨Nat.le_of_ble_eq_true rfl, Nat.le_of_ble_eq_true rfl⟩ dX1_add_81 (fun H locs hW => ?_)
    refine top_eq (y := rs M (tk M (c0 / 16) st) (stp M c0 st)) (pk_us) ?_
    exact ret _ _ _ _ _ _ dX1_add_84 hW ⟨rfl, ⟨h83, hR1, hst1, hf15, hf16⟩, (fun k hk => by show g1 k = _; simp only [List.mem_cons, List.not_mem_nil, or_false, not_or] at hk; rw [pfr k (by simp only [List.mem_cons, List.not_mem_nil, or_false, not_or] <;> omega), eg_8, va_up_n (by omega), eg_1, va_up_n (by omega)])⟩
  · exact absurd (nI_lt (b := 200) hs (by decide)) c12

set_option maxHeartbeats 4000000 in
set_option maxRecDepth 100000 in
theorem c_clear {l : Launch} {G : va_G} {cy : Nat → ClassId} {N : Nat} {ad : Nat → Nat} {g : Nat → va_E} {sz : Nat} {fc fr ft : Nat → Int32} {st : Nat} (hL : LogAt cy N ad g sz fc fr ft st) : MI l G cy (N, ad, g) yX1_clear cX1_clear 2 (some .int) (rmN 2) [.ref (ad 4)] (nA N ad (fun v g1 => v = nI sz ∧ LogAt cy N ad g1 0 fc fr ft 0 ∧ Fr g g1 [4, 5, 6, 7, 8])) := by
  refine NI.mk (by decide) (by intros; first | rfl | (simp_all; done)) (Nat.le_of_ble_eq_true rfl) ?_
  intro jp je js jm below meth jc A Q X hW ret ls hl
  have jx := X.hx
  have jb := X.hb
  have hl : lv_has ls 2 [(0, .ref (ad 4))] := hl
  have X : Cx G cy jp js jm _ jc cX1_clear 2 RX1 A js.heap := X
  obtain ⟨h83, hR, hst, f4, f8⟩ := id hL
  obtain ⟨hn, hc, hr, q1, q2, q3, hsz, fn, fc_, fr_⟩ := id hR
  refine lv_aload_n jx jb dX1_clear_0 rfl (lv_at hl 0 rfl) ?_
  refine w_get X hW K1 (by omega) f4 0 (by decide) fl_X1_12 rfl dX1_clear_1 ?_
  refine w_rV (As := []) X hW (c_rSize hR) (by omega) fn rfl rfl ml_X1_26 mf_X5_size ⟨Nat.le_of_ble_eq_true rfl, Nat.le_of_ble_eq_true rfl⟩ hl.1 rfl (Nat.le_of_ble_eq_true rfl) ⟨Nat.le_of_ble_eq_true rfl, Nat.le_of_ble_eq_true rfl⟩ dX1_clear_4 (fun H locs hW => ?_)
  refine lv_istore_n (lv' := [(1, .int (nI sz)), (0, .ref (ad 4))]) jx jb dX1_clear_7 rfl hl (by decide) rfl (fun ls hl => ?_)
  refine lv_aload_n jx jb dX1_clear_8 rfl (lv_at hl 1 rfl) ?_
  refine w_get X hW K1 (by omega) f4 0 (by decide) fl_X1_12 rfl dX1_clear_9 ?_
  refine lv_iconst (v := 0) jx jb dX1_clear_12 (by decide) ?_
  refine w_nVv (As := [.int 0]) X hW (c_cutTo (j := 0) ⟨hn, hc, hr, q1, q2, q3, hsz, fn, fc_, fr_⟩ (Nat.zero_le _)) (by omega) fn rfl rfl ml_X1_54 mf_X5_cutTo ⟨Nat.le_of_ble_eq_true rfl, Nat.le_of_ble_eq_true rfl⟩ hl.1 rfl (Nat.le_of_ble_eq_true rfl) ⟨Nat.le_of_ble_eq_true rfl, Nat.le_of_ble_eq_true rfl⟩ dX1_clear_13 (fun g1 H locs hp hW => ?_)
  obtain ⟨hR1, pfr⟩ := hp
  obtain ⟨-, -, -, -, -, -, -, p8, p9, p10⟩ := id hR1
  have hf1 : g1 4 = .inr (1, [.ref (ad 5), .ref (ad 8), .int (nI st)]) := (pfr 4 (by simp only [List.mem_cons, List.not_mem_nil, or_false, not_or] <;> omega)).trans f4
  have hf2 : g1 8 = .inl (cy 0, 200, .inl ft) := (pfr 8 (by simp only [List.mem_cons, List.not_mem_nil, or_false, not_or] <;> omega)).trans f8
  refine lv_aload_n jx jb dX1_clear_16 rfl (lv_at hl 1 rfl) ?_
  refine lv_iconst (v := 0) jx jb dX1_clear_17 (by decide) ?_
  refine w_put X hW K1 (by omega) hf1 2 (by decide) fl_X1_22 rfl rfl rfl (Nat.le_of_ble_eq_true rfl) dX1_clear_18 (fun H locs hW => ?_)
  obtain ⟨g_3, eg_3⟩ : ∃ zz, zz = va_up g1 4 (.inr (1, [.ref (ad 5), .ref (ad 8), .int 0])) := ⟨_, rfl⟩
  have hW : Wd G A js.heap (N, ad, g_3) H locs := by rw [eg_3]; exact hW
  have hf4 : g_3 4 = .inr (1, [.ref (ad 5), .ref (ad 8), .int 0]) := by rw [eg_3]; exact va_up_s
  have hf5 : g_3 5 = .inr (5, [.ref (ad 6), .ref (ad 7), .int (nI 0)]) := by rw [eg_3]; exact (va_up_n (by decide)).trans p8
  have hf6 : g_3 6 = .inl (cy 0, 200, .inl fc) := by rw [eg_3]; exact (va_up_n (by decide)).trans p9
  have hf7 : g_3 7 = .inl (cy 0, 200, .inl fr) := by rw [eg_3]; exact (va_up_n (by decide)).trans p10
  have hf8 : g_3 8 = .inl (cy 0, 200, .inl ft) := by rw [eg_3]; exact (va_up_n (by decide)).trans hf2
  refine lv_iload_n jx jb dX1_clear_21 rfl (lv_at hl 0 rfl) ?_
  exact ret _ _ _ _ _ _ dX1_clear_22 hW ⟨rfl, ⟨h83, ⟨hn, hc, hr, q1, q2, q3, Nat.zero_le _, hf5, hf6, hf7⟩, by decide, hf4, hf8⟩, (fun k hk => by show g_3 k = _; simp only [List.mem_cons, List.not_mem_nil, or_false, not_or] at hk; rw [eg_3, va_up_n (by omega), pfr k (by simp only [List.mem_cons, List.not_mem_nil, or_false, not_or] <;> omega)])⟩

set_option maxHeartbeats 4000000 in
set_option maxRecDepth 100000 in
theorem c_tell {l : Launch} {G : va_G} {cy : Nat → ClassId} {N : Nat} {ad : Nat → Nat} {g : Nat → va_E} {sz : Nat} {fc fr ft : Nat → Int32} {st : Nat} {cl : Nat → Nat} {i what : Int32} (hL : LogAt cy N ad g sz fc fr ft st) (hC : ∀ k, k < sz → fc k = nI (cl k) ∧ cl k < 96) : RI l G cy (N, ad, g) yX1_tell cX1_tell 3 (some .int) (rmN 2) [.ref (ad 4), .int i, .int what] (tellV sz cl fr ft i what) := by
  refine RI.mk (by decide) (by first | rfl | exact bI_nar) (Nat.le_of_ble_eq_true rfl) ?_
  intro jp je js jm below meth jc A Q X hW ret ls hl
  have jx := X.hx
  have jb := X.hb
  have hl : lv_has ls 3 [(0, .ref (ad 4)), (1, .int i), (2, .int what)] := hl
  have X : Cx G cy jp js jm _ jc cX1_tell 3 RX1 A js.heap := X
  obtain ⟨h83, hR, hst, f4, f8⟩ := id hL
  obtain ⟨hn, hc, hr, q1, q2, q3, hsz, fn, fc_, fr_⟩ := id hR
  refine lv_iload_n jx jb dX1_tell_0 rfl (lv_at hl 1 rfl) ?_
  refine lv_aload_n jx jb dX1_tell_1 rfl (lv_at hl 0 rfl) ?_
  refine w_get X hW K1 (by omega) f4 0 (by decide) fl_X1_12 rfl dX1_tell_2 ?_
  refine w_rV (As := []) X hW (c_rSize hR) (by omega) fn rfl rfl ml_X1_26 mf_X5_size ⟨Nat.le_of_ble_eq_true rfl, Nat.le_of_ble_eq_true rfl⟩ hl.1 rfl (Nat.le_of_ble_eq_true rfl) ⟨Nat.le_of_ble_eq_true rfl, Nat.le_of_ble_eq_true rfl⟩ dX1_tell_5 (fun H locs hW => ?_)
  refine w_rN (As := [.int i, .int (nI sz)]) X hW (c_isBelow) mn_X1_58 mf_X8_isBelow ⟨Nat.le_of_ble_eq_true rfl, Nat.le_of_ble_eq_true rfl⟩ hl.1 rfl (Nat.le_of_ble_eq_true rfl) ⟨Nat.le_of_ble_eq_true rfl, Nat.le_of_ble_eq_true rfl⟩ dX1_tell_8 (fun H locs hW => ?_)
  refine lv_if_ne (tgt := 16) jx jb dX1_tell_11 (by decide) (fun c11 => ?_) (fun c11 => ?_)
  · obtain ⟨j, hj, ej⟩ := i_below (by omega) (bI_n0.mp c11)
    have hC0 := hC j hj
    have hte := bI_n0.mp c11
    refine lv_iload_n jx jb dX1_tell_16 rfl (lv_at hl 2 rfl) ?_
    rcases sw_cases what 4 (by decide) with ⟨kS, hkS, eS⟩ | eS
    · rcases (show kS = 0 ∨ kS = 1 ∨ kS = 2 ∨ kS = 3 by omega) with rfl | rfl | rfl | rfl
      · refine lv_tableIn (tgt := 48) (off := 31) jx jb dX1_tell_17 (by rw [eS]; decide) (by rw [eS]; decide) (by rw [eS]; rfl) (by decide) ?_
        refine lv_aload_n jx jb dX1_tell_48 rfl (lv_at hl 0 rfl) ?_
        refine w_get X hW K1 (by omega) f4 0 (by decide) fl_X1_12 rfl dX1_tell_49 ?_
        refine lv_iload_n jx jb dX1_tell_52 rfl (lv_at hl 1 rfl) ?_
        refine top_eq (y := nI j) ej ?_
        refine w_rV (As := [.int (nI j)]) X hW (c_callAt hR hj) (by omega) fn rfl rfl ml_X1_62 mf_X5_callAt ⟨Nat.le_of_ble_eq_true rfl, Nat.le_of_ble_eq_true rfl⟩ hl.1 rfl (Nat.le_of_ble_eq_true rfl) ⟨Nat.le_of_ble_eq_true rfl, Nat.le_of_ble_eq_true rfl⟩ dX1_tell_53 (fun H locs hW => ?_)
        refine top_eq (y := nI (cl j)) (hC0.1) ?_
        refine w_rN (As := [.int (nI (cl j))]) X hW (c_kindOf (by omega)) mn_X1_65 mf_X8_kindOf ⟨Nat.le_of_ble_eq_true rfl, Nat.le_of_ble_eq_true rfl⟩ hl.1 rfl (Nat.le_of_ble_eq_true rfl) ⟨Nat.le_of_ble_eq_true rfl, Nat.le_of_ble_eq_true rfl⟩ dX1_tell_56 (fun H locs hW => ?_)
        exact ret _ _ _ _ _ dX1_tell_59 hW (by unfold tellV; rw [if_pos hte, ej, i_cl (by omega), eS]; rfl)
      · refine lv_tableIn (tgt := 60) (off := 43) jx jb dX1_tell_17 (by rw [eS]; decide) (by rw [eS]; decide) (by rw [eS]; rfl) (by decide) ?_
        refine lv_aload_n jx jb dX1_tell_60 rfl (lv_at hl 0 rfl) ?_
        refine w_get X hW K1 (by omega) f4 0 (by decide) fl_X1_12 rfl dX1_tell_61 ?_
        refine lv_iload_n jx jb dX1_tell_64 rfl (lv_at hl 1 rfl) ?_
        refine top_eq (y := nI j) ej ?_
        refine w_rV (As := [.int (nI j)]) X hW (c_callAt hR hj) (by omega) fn rfl rfl ml_X1_62 mf_X5_callAt ⟨Nat.le_of_ble_eq_true rfl, Nat.le_of_ble_eq_true rfl⟩ hl.1 rfl (Nat.le_of_ble_eq_true rfl) ⟨Nat.le_of_ble_eq_true rfl, Nat.le_of_ble_eq_true rfl⟩ dX1_tell_65 (fun H locs hW => ?_)
        refine top_eq (y := nI (cl j)) (hC0.1) ?_
        refine w_rN (As := [.int (nI (cl j))]) X hW (c_numberOf (by omega)) mn_X1_36 mf_X8_numberOf ⟨Nat.le_of_ble_eq_true rfl, Nat.le_of_ble_eq_true rfl⟩ hl.1 rfl (Nat.le_of_ble_eq_true rfl) ⟨Nat.le_of_ble_eq_true rfl, Nat.le_of_ble_eq_true rfl⟩ dX1_tell_68 (fun H locs hW => ?_)
        exact ret _ _ _ _ _ dX1_tell_71 hW (by unfold tellV; rw [if_pos hte, ej, i_cl (by omega), eS]; rfl)
      · refine lv_tableIn (tgt := 72) (off := 55) jx jb dX1_tell_17 (by rw [eS]; decide) (by rw [eS]; decide) (by rw [eS]; rfl) (by decide) ?_
        refine lv_aload_n jx jb dX1_tell_72 rfl (lv_at hl 0 rfl) ?_
        refine w_get X hW K1 (by omega) f4 0 (by decide) fl_X1_12 rfl dX1_tell_73 ?_
        refine lv_iload_n jx jb dX1_tell_76 rfl (lv_at hl 1 rfl) ?_
        refine top_eq (y := nI j) ej ?_
        refine w_rV (As := [.int (nI j)]) X hW (c_resultAt hR hj) (by omega) fn rfl rfl ml_X1_51 mf_X5_resultAt ⟨Nat.le_of_ble_eq_true rfl, Nat.le_of_ble_eq_true rfl⟩ hl.1 rfl (Nat.le_of_ble_eq_true rfl) ⟨Nat.le_of_ble_eq_true rfl, Nat.le_of_ble_eq_true rfl⟩ dX1_tell_77 (fun H locs hW => ?_)
        exact ret _ _ _ _ _ dX1_tell_80 hW (by unfold tellV; rw [if_pos hte, ej, i_cl (by omega), eS]; rfl)
      · refine lv_tableIn (tgt := 81) (off := 64) jx jb dX1_tell_17 (by rw [eS]; decide) (by rw [eS]; decide) (by rw [eS]; rfl) (by decide) ?_
        refine lv_aload_n jx jb dX1_tell_81 rfl (lv_at hl 0 rfl) ?_
        refine w_get X hW K1 (by omega) f4 1 (by decide) fl_X1_18 rfl dX1_tell_82 ?_
        refine lv_iload_n jx jb dX1_tell_85 rfl (lv_at hl 1 rfl) ?_
        refine w_ild X hW (by omega) f8 j ej (by omega) (by decide) dX1_tell_86 ?_
        exact ret _ _ _ _ _ dX1_tell_87 hW (by unfold tellV; rw [if_pos hte, ej, i_cl (by omega), eS]; rfl)
    · refine lv_tableOut (tgt := 88) jx jb dX1_tell_17 eS (by decide) ?_
      refine lv_iconst (v := -1) jx jb dX1_tell_88 (by decide) ?_
      exact ret _ _ _ _ _ dX1_tell_89 hW (by unfold tellV; rw [if_pos hte, if_neg (show ¬ what = 0 from sw_out (k := 0) (by decide) eS (by decide)), if_neg (show ¬ what = 1 from sw_out (k := 1) (by decide) eS (by decide)), if_neg (show ¬ what = 2 from sw_out (k := 2) (by decide) eS (by decide)), if_neg (show ¬ what = 3 from sw_out (k := 3) (by decide) eS (by decide))])
  · refine lv_iconst (v := -1) jx jb dX1_tell_14 (by decide) ?_
    exact ret _ _ _ _ _ dX1_tell_15 hW (tell_no c11)

set_option maxHeartbeats 4000000 in
set_option maxRecDepth 100000 in
theorem c_settle {l : Launch} {G : va_G} {cy : Nat → ClassId} {N : Nat} {ad : Nat → Nat} {g : Nat → va_E} {n c r sz : Nat} {fc fr : Nat → Int32} {t : Nat} {m0 t0 b0 : Int32} {pf : Nat → Int32} {mt lt : Int32} (hP : RepAt cy N ad g sz pf mt lt) (hR : RowAt cy N ad g n c r sz fc fr) (hd : n ≠ 60 ∧ n ≠ 61 ∧ c ≠ 60 ∧ c ≠ 61 ∧ r ≠ 60 ∧ r ≠ 61) (ht : t < N) (ft_ : g t = .inr (3, [.ref (ad n), .int m0, .int t0, .int b0])) (hd2 : t ≠ n ∧ t ≠ c ∧ t ≠ r ∧ t ≠ 60 ∧ t ≠ 61) : MV l G cy (N, ad, g) yX3_settle cX3_settle 2 none (rmN 3) [.ref (ad t), .ref (ad 60)] (nV N ad (fun g1 => ∃ f1, g1 t = .inr (3, [.ref (ad n), .int mt, .int 0, .int 0]) ∧ RowAt cy N ad g1 n c r sz fc f1 ∧ (∀ i, i < sz → f1 i = pf i) ∧ Fr g g1 [t, n, c, r])) := by
  refine NV.mk (by decide) (Nat.le_of_ble_eq_true rfl) ?_
  intro jp je js jm below meth jc A Q X hW ret ls hl
  have jx := X.hx
  have jb := X.hb
  have hl : lv_has ls 2 [(0, .ref (ad t)), (1, .ref (ad 60))] := hl
  have X : Cx G cy jp js jm _ jc cX3_settle 2 RX3 A js.heap := X
  obtain ⟨h83, hpsz, f60, f61⟩ := id hP
  obtain ⟨hn, hc, hr, q1, q2, q3, hsz, fn, fc_, fr_⟩ := id hR
  refine lv_aload_n jx jb dX3_settle_0 rfl (lv_at hl 0 rfl) ?_
  refine w_get X hW K3 ht ft_ 0 (by decide) fl_X3_10 rfl dX3_settle_1 ?_
  refine lv_aload_n jx jb dX3_settle_4 rfl (lv_at hl 1 rfl) ?_
  refine w_nVv (As := [.ref (ad 60)]) X hW (c_takeResults hP hR hd) hn fn rfl rfl ml_X3_27 mf_X5_takeResults ⟨Nat.le_of_ble_eq_true rfl, Nat.le_of_ble_eq_true rfl⟩ hl.1 rfl (Nat.le_of_ble_eq_true rfl) ⟨Nat.le_of_ble_eq_true rfl, Nat.le_of_ble_eq_true rfl⟩ dX3_settle_5 (fun g1 H locs hp hW => ?_)
  obtain ⟨f1, hR1, hres, pfr⟩ := hp
  obtain ⟨-, -, -, -, -, -, -, p8, p9, p10⟩ := id hR1
  have hf1 : g1 t = .inr (3, [.ref (ad n), .int m0, .int t0, .int b0]) := (pfr t (by simp only [List.mem_cons, List.not_mem_nil, or_false, not_or] <;> omega)).trans ft_
  have hf2 : g1 60 = .inr (4, [.ref (ad 1), .ref (ad 61), .int (nI sz), .int mt, .int lt]) := (pfr 60 (by simp only [List.mem_cons, List.not_mem_nil, or_false, not_or] <;> omega)).trans f60
  have hf3 : g1 61 = .inl (cy 0, 200, .inl pf) := (pfr 61 (by simp only [List.mem_cons, List.not_mem_nil, or_false, not_or] <;> omega)).trans f61
  refine lv_aload_n jx jb dX3_settle_8 rfl (lv_at hl 0 rfl) ?_
  refine lv_aload_n jx jb dX3_settle_9 rfl (lv_at hl 1 rfl) ?_
  refine w_rV (As := []) X hW (c_met ⟨h83, hpsz, hf2, hf3⟩) (by omega) hf2 rfl rfl ml_X3_31 mf_X4_met ⟨Nat.le_of_ble_eq_true rfl, Nat.le_of_ble_eq_true rfl⟩ hl.1 rfl (Nat.le_of_ble_eq_true rfl) ⟨Nat.le_of_ble_eq_true rfl, Nat.le_of_ble_eq_true rfl⟩ dX3_settle_10 (fun H locs hW => ?_)
  refine w_put X hW K3 ht hf1 1 (by decide) fl_X3_16 rfl rfl rfl (Nat.le_of_ble_eq_true rfl) dX3_settle_13 (fun H locs hW => ?_)
  obtain ⟨g_4, eg_4⟩ : ∃ zz, zz = va_up g1 t (.inr (3, [.ref (ad n), .int mt, .int t0, .int b0])) := ⟨_, rfl⟩
  have hW : Wd G A js.heap (N, ad, g_4) H locs := by rw [eg_4]; exact hW
  have hf5 : g_4 t = .inr (3, [.ref (ad n), .int mt, .int t0, .int b0]) := by rw [eg_4]; exact va_up_s
  have hf6 : g_4 60 = .inr (4, [.ref (ad 1), .ref (ad 61), .int (nI sz), .int mt, .int lt]) := by rw [eg_4]; exact (va_up_n (by omega)).trans hf2
  have hf7 : g_4 61 = .inl (cy 0, 200, .inl pf) := by rw [eg_4]; exact (va_up_n (by omega)).trans hf3
  have hf8 : g_4 n = .inr (5, [.ref (ad c), .ref (ad r), .int (nI sz)]) := by rw [eg_4]; exact (va_up_n (by omega)).trans p8
  have hf9 : g_4 c = .inl (cy 0, 200, .inl fc) := by rw [eg_4]; exact (va_up_n (by omega)).trans p9
  have hf10 : g_4 r = .inl (cy 0, 200, .inl f1) := by rw [eg_4]; exact (va_up_n (by omega)).trans p10
  refine lv_aload_n jx jb dX3_settle_16 rfl (lv_at hl 0 rfl) ?_
  refine lv_iconst (v := 0) jx jb dX3_settle_17 (by decide) ?_
  refine w_put X hW K3 ht hf5 2 (by decide) fl_X3_20 rfl rfl rfl (Nat.le_of_ble_eq_true rfl) dX3_settle_18 (fun H locs hW => ?_)
  obtain ⟨g_11, eg_11⟩ : ∃ zz, zz = va_up g_4 t (.inr (3, [.ref (ad n), .int mt, .int 0, .int b0])) := ⟨_, rfl⟩
  have hW : Wd G A js.heap (N, ad, g_11) H locs := by rw [eg_11]; exact hW
  have hf12 : g_11 t = .inr (3, [.ref (ad n), .int mt, .int 0, .int b0]) := by rw [eg_11]; exact va_up_s
  have hf13 : g_11 60 = .inr (4, [.ref (ad 1), .ref (ad 61), .int (nI sz), .int mt, .int lt]) := by rw [eg_11]; exact (va_up_n (by omega)).trans hf6
  have hf14 : g_11 61 = .inl (cy 0, 200, .inl pf) := by rw [eg_11]; exact (va_up_n (by omega)).trans hf7
  have hf15 : g_11 n = .inr (5, [.ref (ad c), .ref (ad r), .int (nI sz)]) := by rw [eg_11]; exact (va_up_n (by omega)).trans hf8
  have hf16 : g_11 c = .inl (cy 0, 200, .inl fc) := by rw [eg_11]; exact (va_up_n (by omega)).trans hf9
  have hf17 : g_11 r = .inl (cy 0, 200, .inl f1) := by rw [eg_11]; exact (va_up_n (by omega)).trans hf10
  refine lv_aload_n jx jb dX3_settle_21 rfl (lv_at hl 0 rfl) ?_
  refine lv_iconst (v := 0) jx jb dX3_settle_22 (by decide) ?_
  refine w_put X hW K3 ht hf12 3 (by decide) fl_X3_24 rfl rfl rfl (Nat.le_of_ble_eq_true rfl) dX3_settle_23 (fun H locs hW => ?_)
  obtain ⟨g_18, eg_18⟩ : ∃ zz, zz = va_up g_11 t (.inr (3, [.ref (ad n), .int mt, .int 0, .int 0])) := ⟨_, rfl⟩
  have hW : Wd G A js.heap (N, ad, g_18) H locs := by rw [eg_18]; exact hW
  have hf19 : g_18 t = .inr (3, [.ref (ad n), .int mt, .int 0, .int 0]) := by rw [eg_18]; exact va_up_s
  have hf20 : g_18 60 = .inr (4, [.ref (ad 1), .ref (ad 61), .int (nI sz), .int mt, .int lt]) := by rw [eg_18]; exact (va_up_n (by omega)).trans hf13
  have hf21 : g_18 61 = .inl (cy 0, 200, .inl pf) := by rw [eg_18]; exact (va_up_n (by omega)).trans hf14
  have hf22 : g_18 n = .inr (5, [.ref (ad c), .ref (ad r), .int (nI sz)]) := by rw [eg_18]; exact (va_up_n (by omega)).trans hf15
  have hf23 : g_18 c = .inl (cy 0, 200, .inl fc) := by rw [eg_18]; exact (va_up_n (by omega)).trans hf16
  have hf24 : g_18 r = .inl (cy 0, 200, .inl f1) := by rw [eg_18]; exact (va_up_n (by omega)).trans hf17
  exact ret _ _ _ _ _ dX3_settle_26 hW ⟨f1, hf19, ⟨hn, hc, hr, q1, q2, q3, hsz, hf22, hf23, hf24⟩, hres, (fun k hk => by show g_18 k = _; simp only [List.mem_cons, List.not_mem_nil, or_false, not_or] at hk; rw [eg_18, va_up_n (by omega), eg_11, va_up_n (by omega), eg_4, va_up_n (by omega), pfr k (by simp only [List.mem_cons, List.not_mem_nil, or_false, not_or] <;> omega)])⟩
