set_option maxHeartbeats 4000000 in
set_option maxRecDepth 100000 in
theorem c_Row_init {l : Launch} {G : va_G} {cy : Nat → ClassId} {N : Nat} {ad : Nat → Nat} {g : Nat → va_E} {n : Nat} (hn : n < N) (hg : g n = .inr (5, [.null, .null, .int 0])) : MV l G cy (N, ad, g) yX5_init cX5_init 1 none (rmA 1 2 400) [.ref (ad n)] (fun u => ∃ ad1 g1, u = (N + 2, ad1, g1) ∧ (∀ k, k < N → ad1 k = ad k) ∧ RowAt cy (N + 2) ad1 g1 n N (N + 1) 0 (fun _ => 0) (fun _ => 0) ∧ ∀ k, k < N → k ≠ n → g1 k = g k) := by
  refine MV.mk (by decide) (Nat.le_of_ble_eq_true rfl) ?_
  intro jp je js jm below meth jc A Q hin X hW ret ls hl
  have jx := X.hx
  have jb := X.hb
  have hl : lv_has ls 1 [(0, .ref (ad n))] := hl
  have X : Cx G cy jp js jm _ jc cX5_init 1 RX5 A js.heap := X
  generalize hlocs0 : ([] : List Loc) = locs at hW ⊢
  refine lv_aload_n jx jb dX5_init_0 rfl (lv_at hl 0 rfl) ?_
  refine W.objInit jx jb X.1.2.2.2.1 (X.ht ml_X5_3) (X.ht im_objectInit) (X.ht co_objectInit) rfl (by rw [X.1.2.2.1]; exact hl.1) rfl dX5_init_1 (Nat.le_of_ble_eq_true rfl) (Nat.le_of_ble_eq_true rfl) ?_
  refine W.eq (g2 := F0 jm 4 ls []) rfl ?_
  refine lv_aload_n jx jb dX5_init_4 rfl (lv_at hl 0 rfl) ?_
  refine lv_sipush (v := 200) jx jb dX5_init_5 (by decide) ?_
  refine w_newi X hW (k := 200) (len := 200) (by decide) (by decide) (by decide) (Nat.le_of_ble_eq_true rfl) (Nat.le_of_ble_eq_true rfl) dX5_init_8 (fun q1 H hW => ?_)
  obtain ⟨ad1, ea1⟩ : ∃ zz, zz = va_up ad N q1 := ⟨_, rfl⟩
  obtain ⟨g_1, eg_1⟩ : ∃ zz, zz = va_up g N (.inl (cy 0, 200, .inl (fun _ => 0))) := ⟨_, rfl⟩
  have hW : Wd G A js.heap (N + 1, ad1, g_1) H locs := by rw [ea1, eg_1]; exact hW
  have hq1 : ad1 N = q1 := by rw [ea1]; exact va_up_s
  have ha1 : ∀ k, k < N → ad1 k = ad k := fun k hk => by rw [ea1]; exact va_up_n (by omega)
  refine W.eq (g2 := F0 jm 10 ls [.ref (ad1 N), .ref (ad1 n)]) (by rw [hq1, ha1 n (by omega)]) ?_
  have hl : lv_has ls 1 [(0, .ref (ad1 n))] := by rw [ha1 n (by omega)]; exact hl
  have hf2 : g_1 n = .inr (5, [.null, .null, .int 0]) := by rw [eg_1, va_up_n (by omega)]; exact hg
  have hn1 : g_1 N = .inl (cy 0, 200, .inl (fun _ => 0)) := by rw [eg_1]; exact va_up_s
  refine w_putF X hW K5 (by omega) hf2 0 (by decide) fl_X5_9 rfl hin rfl rfl rfl (Nat.le_of_ble_eq_true rfl) dX5_init_10 (fun H locs hW => ?_)
  obtain ⟨g_3, eg_3⟩ : ∃ zz, zz = va_up g_1 n (.inr (5, [.ref (ad1 N), .null, .int 0])) := ⟨_, rfl⟩
  have hW : Wd G A js.heap (N + 1, ad1, g_3) H locs := by rw [eg_3]; exact hW
  have hf4 : g_3 n = .inr (5, [.ref (ad1 N), .null, .int 0]) := by rw [eg_3]; exact va_up_s
  have hf5 : g_3 N = .inl (cy 0, 200, .inl (fun _ => 0)) := by rw [eg_3]; exact (va_up_n (by omega)).trans hn1
  refine lv_aload_n jx jb dX5_init_13 rfl (lv_at hl 0 rfl) ?_
  refine lv_sipush (v := 200) jx jb dX5_init_14 (by decide) ?_
  refine w_newi X hW (k := 200) (len := 200) (by decide) (by decide) (by decide) (Nat.le_of_ble_eq_true rfl) (Nat.le_of_ble_eq_true rfl) dX5_init_17 (fun q6 H hW => ?_)
  obtain ⟨ad6, ea6⟩ : ∃ zz, zz = va_up ad1 (N + 1) q6 := ⟨_, rfl⟩
  obtain ⟨g_6, eg_6⟩ : ∃ zz, zz = va_up g_3 (N + 1) (.inl (cy 0, 200, .inl (fun _ => 0))) := ⟨_, rfl⟩
  have hW : Wd G A js.heap (N + 2, ad6, g_6) H locs := by rw [ea6, eg_6]; exact hW
  have hq6 : ad6 (N + 1) = q6 := by rw [ea6]; exact va_up_s
  have ha6 : ∀ k, k < N + 1 → ad6 k = ad1 k := fun k hk => by rw [ea6]; exact va_up_n (by omega)
  refine W.eq (g2 := F0 jm 19 ls [.ref (ad6 (N + 1)), .ref (ad6 n)]) (by rw [hq6, ha6 n (by omega)]) ?_
  have hl : lv_has ls 1 [(0, .ref (ad6 n))] := by rw [ha6 n (by omega)]; exact hl
  have hf7 : g_6 n = .inr (5, [.ref (ad6 N), .null, .int 0]) := by rw [eg_6, va_up_n (by omega), ha6 N (by omega)]; exact hf4
  have hf8 : g_6 N = .inl (cy 0, 200, .inl (fun _ => 0)) := by rw [eg_6, va_up_n (by omega)]; exact hf5
  have hn6 : g_6 (N + 1) = .inl (cy 0, 200, .inl (fun _ => 0)) := by rw [eg_6]; exact va_up_s
  refine w_putF X hW K5 (by omega) hf7 1 (by decide) fl_X5_15 rfl hin rfl rfl rfl (Nat.le_of_ble_eq_true rfl) dX5_init_19 (fun H locs hW => ?_)
  obtain ⟨g_9, eg_9⟩ : ∃ zz, zz = va_up g_6 n (.inr (5, [.ref (ad6 N), .ref (ad6 (N + 1)), .int 0])) := ⟨_, rfl⟩
  have hW : Wd G A js.heap (N + 2, ad6, g_9) H locs := by rw [eg_9]; exact hW
  have hf10 : g_9 n = .inr (5, [.ref (ad6 N), .ref (ad6 (N + 1)), .int 0]) := by rw [eg_9]; exact va_up_s
  have hf11 : g_9 N = .inl (cy 0, 200, .inl (fun _ => 0)) := by rw [eg_9]; exact (va_up_n (by omega)).trans hf8
  have hf12 : g_9 (N + 1) = .inl (cy 0, 200, .inl (fun _ => 0)) := by rw [eg_9]; exact (va_up_n (by omega)).trans hn6
  refine lv_aload_n jx jb dX5_init_22 rfl (lv_at hl 0 rfl) ?_
  refine lv_iconst (v := 0) jx jb dX5_init_23 (by decide) ?_
  refine w_put X hW K5 (by omega) hf10 2 (by decide) fl_X5_18 rfl rfl rfl (Nat.le_of_ble_eq_true rfl) dX5_init_24 (fun H locs hW => ?_)
  obtain ⟨g_13, eg_13⟩ : ∃ zz, zz = va_up g_9 n (.inr (5, [.ref (ad6 N), .ref (ad6 (N + 1)), .int 0])) := ⟨_, rfl⟩
  have hW : Wd G A js.heap (N + 2, ad6, g_13) H locs := by rw [eg_13]; exact hW
  have hf14 : g_13 n = .inr (5, [.ref (ad6 N), .ref (ad6 (N + 1)), .int 0]) := by rw [eg_13]; exact va_up_s
  have hf15 : g_13 N = .inl (cy 0, 200, .inl (fun _ => 0)) := by rw [eg_13]; exact (va_up_n (by omega)).trans hf11
  have hf16 : g_13 (N + 1) = .inl (cy 0, 200, .inl (fun _ => 0)) := by rw [eg_13]; exact (va_up_n (by omega)).trans hf12
  exact ret _ _ _ _ _ dX5_init_27 hW ⟨_, _, rfl, (fun k hk => by rw [ha6 k (by omega), ha1 k (by omega)]), ⟨by omega, by omega, by omega, by omega, by omega, by omega, by omega, hf14, hf15, hf16⟩, (fun k hk hkn => by show g_13 k = _; rw [eg_13, va_up_n (by omega), eg_9, va_up_n (by omega), eg_6, va_up_n (by omega), eg_3, va_up_n (by omega), eg_1, va_up_n (by omega)])⟩

set_option maxHeartbeats 4000000 in
set_option maxRecDepth 100000 in
theorem c_Log_init {l : Launch} {G : va_G} {cy : Nat → ClassId} {N : Nat} {ad : Nat → Nat} {g : Nat → va_E} {n : Nat} (hn : n < N) (hg : g n = .inr (1, [.null, .null, .int 0])) : MV l G cy (N, ad, g) yX1_init cX1_init 1 none (rmA 2 4 603) [.ref (ad n)] (fun u => ∃ ad1 g1, u = (N + 4, ad1, g1) ∧ (∀ k, k < N → ad1 k = ad k) ∧ (RowAt cy (N + 4) ad1 g1 N (N + 1) (N + 2) 0 (fun _ => 0) (fun _ => 0) ∧ g1 n = .inr (1, [.ref (ad1 N), .ref (ad1 (N + 3)), .int 0]) ∧ g1 (N + 3) = .inl (cy 0, 200, .inl (fun _ => 0))) ∧ ∀ k, k < N → k ≠ n → g1 k = g k) := by
  refine MV.mk (by decide) (Nat.le_of_ble_eq_true rfl) ?_
  intro jp je js jm below meth jc A Q hin X hW ret ls hl
  have jx := X.hx
  have jb := X.hb
  have hl : lv_has ls 1 [(0, .ref (ad n))] := hl
  have X : Cx G cy jp js jm _ jc cX1_init 1 RX1 A js.heap := X
  generalize hlocs0 : ([] : List Loc) = locs at hW ⊢
  refine lv_aload_n jx jb dX1_init_0 rfl (lv_at hl 0 rfl) ?_
  refine W.objInit jx jb X.1.2.2.2.1 (X.ht ml_X1_3) (X.ht im_objectInit) (X.ht co_objectInit) rfl (by rw [X.1.2.2.1]; exact hl.1) rfl dX1_init_1 (Nat.le_of_ble_eq_true rfl) (Nat.le_of_ble_eq_true rfl) ?_
  refine W.eq (g2 := F0 jm 4 ls []) rfl ?_
  refine lv_aload_n jx jb dX1_init_4 rfl (lv_at hl 0 rfl) ?_
  refine w_new X hW K5 cl_X1_9 inst_X5 ini_X5 (fs := [.null, .null, .int 0]) (fun j hj => by rcases (show j = 0 ∨ j = 1 ∨ j = 2 by omega) with rfl | rfl | rfl <;> rfl) (Nat.le_of_ble_eq_true rfl) (Nat.le_of_ble_eq_true rfl) dX1_init_5 (fun q1 H hW => ?_)
  obtain ⟨ad1, ea1⟩ : ∃ zz, zz = va_up ad N q1 := ⟨_, rfl⟩
  obtain ⟨g_1, eg_1⟩ : ∃ zz, zz = va_up g N (.inr (5, [.null, .null, .int 0])) := ⟨_, rfl⟩
  have hW : Wd G A js.heap (N + 1, ad1, g_1) H locs := by rw [ea1, eg_1]; exact hW
  have hq1 : ad1 N = q1 := by rw [ea1]; exact va_up_s
  have ha1 : ∀ k, k < N → ad1 k = ad k := fun k hk => by rw [ea1]; exact va_up_n (by omega)
  refine W.eq (g2 := F0 jm 8 ls [.ref (ad1 N), .ref (ad1 n)]) (by rw [hq1, ha1 n (by omega)]) ?_
  have hl : lv_has ls 1 [(0, .ref (ad1 n))] := by rw [ha1 n (by omega)]; exact hl
  have hf2 : g_1 n = .inr (1, [.null, .null, .int 0]) := by rw [eg_1, va_up_n (by omega)]; exact hg
  have hn1 : g_1 N = .inr (5, [.null, .null, .int 0]) := by rw [eg_1]; exact va_up_s
  refine lv_dup jx jb dX1_init_8 rfl ?_
  refine w_cINv (As := []) (b := ad1 N) X hW (c_Row_init (n := N) (by omega) hn1) mn_X1_11 mf_X5_init ⟨Nat.le_of_ble_eq_true rfl, Nat.le_of_ble_eq_true rfl⟩ hl.1 rfl (Nat.le_of_ble_eq_true rfl) dX1_init_9 ⟨Nat.le_of_ble_eq_true rfl, Nat.le_of_ble_eq_true rfl⟩ (fun u H locs hp hW => ?_)
  obtain ⟨ad3, g_3, eu3, ha3, hs3, hg3⟩ := hp
  subst eu3
  refine W.eq (g2 := F0 jm 12 ls [.ref (ad3 N), .ref (ad3 n)]) (by rw [ha3 N (by omega), ha3 n (by omega)]) ?_
  have hl : lv_has ls 1 [(0, .ref (ad3 n))] := by rw [ha3 n (by omega)]; exact hl
  have hf4 : g_3 n = .inr (1, [.null, .null, .int 0]) := by rw [hg3 n (by omega) (by omega)]; exact hf2
  refine w_putF X hW K1 (by omega) hf4 0 (by decide) fl_X1_12 rfl hin rfl rfl rfl (Nat.le_of_ble_eq_true rfl) dX1_init_12 (fun H locs hW => ?_)
  obtain ⟨g_5, eg_5⟩ : ∃ zz, zz = va_up g_3 n (.inr (1, [.ref (ad3 N), .null, .int 0])) := ⟨_, rfl⟩
  have hW : Wd G A js.heap (N + 3, ad3, g_5) H locs := by rw [eg_5]; exact hW
  have hf6 : g_5 n = .inr (1, [.ref (ad3 N), .null, .int 0]) := by rw [eg_5]; exact va_up_s
  have hf7 : g_5 N = .inr (5, [.ref (ad3 (N + 1)), .ref (ad3 (N + 2)), .int (nI 0)]) := by rw [eg_5]; exact (va_up_n (by omega)).trans hs3.2.2.2.2.2.2.2.1
  have hf8 : g_5 (N + 1) = .inl (cy 0, 200, .inl (fun _ => 0)) := by rw [eg_5]; exact (va_up_n (by omega)).trans hs3.2.2.2.2.2.2.2.2.1
  have hf9 : g_5 (N + 2) = .inl (cy 0, 200, .inl (fun _ => 0)) := by rw [eg_5]; exact (va_up_n (by omega)).trans hs3.2.2.2.2.2.2.2.2.2
  refine lv_aload_n jx jb dX1_init_15 rfl (lv_at hl 0 rfl) ?_
  refine lv_sipush (v := 200) jx jb dX1_init_16 (by decide) ?_
  refine w_newi X hW (k := 200) (len := 200) (by decide) (by decide) (by decide) (Nat.le_of_ble_eq_true rfl) (Nat.le_of_ble_eq_true rfl) dX1_init_19 (fun q10 H hW => ?_)
  obtain ⟨ad10, ea10⟩ : ∃ zz, zz = va_up ad3 (N + 3) q10 := ⟨_, rfl⟩
  obtain ⟨g_10, eg_10⟩ : ∃ zz, zz = va_up g_5 (N + 3) (.inl (cy 0, 200, .inl (fun _ => 0))) := ⟨_, rfl⟩
  have hW : Wd G A js.heap (N + 4, ad10, g_10) H locs := by rw [ea10, eg_10]; exact hW
  have hq10 : ad10 (N + 3) = q10 := by rw [ea10]; exact va_up_s
  have ha10 : ∀ k, k < N + 3 → ad10 k = ad3 k := fun k hk => by rw [ea10]; exact va_up_n (by omega)
  refine W.eq (g2 := F0 jm 21 ls [.ref (ad10 (N + 3)), .ref (ad10 n)]) (by rw [hq10, ha10 n (by omega)]) ?_
  have hl : lv_has ls 1 [(0, .ref (ad10 n))] := by rw [ha10 n (by omega)]; exact hl
  have hf11 : g_10 n = .inr (1, [.ref (ad10 N), .null, .int 0]) := by rw [eg_10, va_up_n (by omega), ha10 N (by omega)]; exact hf6
  have hf12 : g_10 N = .inr (5, [.ref (ad10 (N + 1)), .ref (ad10 (N + 2)), .int (nI 0)]) := by rw [eg_10, va_up_n (by omega), ha10 (N + 1) (by omega), ha10 (N + 2) (by omega)]; exact hf7
  have hf13 : g_10 (N + 1) = .inl (cy 0, 200, .inl (fun _ => 0)) := by rw [eg_10, va_up_n (by omega)]; exact hf8
  have hf14 : g_10 (N + 2) = .inl (cy 0, 200, .inl (fun _ => 0)) := by rw [eg_10, va_up_n (by omega)]; exact hf9
  have hn10 : g_10 (N + 3) = .inl (cy 0, 200, .inl (fun _ => 0)) := by rw [eg_10]; exact va_up_s
  refine w_putF X hW K1 (by omega) hf11 1 (by decide) fl_X1_18 rfl hin rfl rfl rfl (Nat.le_of_ble_eq_true rfl) dX1_init_21 (fun H locs hW => ?_)
  obtain ⟨g_15, eg_15⟩ : ∃ zz, zz = va_up g_10 n (.inr (1, [.ref (ad10 N), .ref (ad10 (N + 3)), .int 0])) := ⟨_, rfl⟩
  have hW : Wd G A js.heap (N + 4, ad10, g_15) H locs := by rw [eg_15]; exact hW
  have hf16 : g_15 n = .inr (1, [.ref (ad10 N), .ref (ad10 (N + 3)), .int 0]) := by rw [eg_15]; exact va_up_s
  have hf17 : g_15 N = .inr (5, [.ref (ad10 (N + 1)), .ref (ad10 (N + 2)), .int (nI 0)]) := by rw [eg_15]; exact (va_up_n (by omega)).trans hf12
  have hf18 : g_15 (N + 1) = .inl (cy 0, 200, .inl (fun _ => 0)) := by rw [eg_15]; exact (va_up_n (by omega)).trans hf13
  have hf19 : g_15 (N + 2) = .inl (cy 0, 200, .inl (fun _ => 0)) := by rw [eg_15]; exact (va_up_n (by omega)).trans hf14
  have hf20 : g_15 (N + 3) = .inl (cy 0, 200, .inl (fun _ => 0)) := by rw [eg_15]; exact (va_up_n (by omega)).trans hn10
  refine lv_aload_n jx jb dX1_init_24 rfl (lv_at hl 0 rfl) ?_
  refine lv_iconst (v := 0) jx jb dX1_init_25 (by decide) ?_
  refine w_put X hW K1 (by omega) hf16 2 (by decide) fl_X1_22 rfl rfl rfl (Nat.le_of_ble_eq_true rfl) dX1_init_26 (fun H locs hW => ?_)
  obtain ⟨g_21, eg_21⟩ : ∃ zz, zz = va_up g_15 n (.inr (1, [.ref (ad10 N), .ref (ad10 (N + 3)), .int 0])) := ⟨_, rfl⟩
  have hW : Wd G A js.heap (N + 4, ad10, g_21) H locs := by rw [eg_21]; exact hW
  have hf22 : g_21 n = .inr (1, [.ref (ad10 N), .ref (ad10 (N + 3)), .int 0]) := by rw [eg_21]; exact va_up_s
  have hf23 : g_21 N = .inr (5, [.ref (ad10 (N + 1)), .ref (ad10 (N + 2)), .int (nI 0)]) := by rw [eg_21]; exact (va_up_n (by omega)).trans hf17
  have hf24 : g_21 (N + 1) = .inl (cy 0, 200, .inl (fun _ => 0)) := by rw [eg_21]; exact (va_up_n (by omega)).trans hf18
  have hf25 : g_21 (N + 2) = .inl (cy 0, 200, .inl (fun _ => 0)) := by rw [eg_21]; exact (va_up_n (by omega)).trans hf19
  have hf26 : g_21 (N + 3) = .inl (cy 0, 200, .inl (fun _ => 0)) := by rw [eg_21]; exact (va_up_n (by omega)).trans hf20
  exact ret _ _ _ _ _ dX1_init_29 hW ⟨_, _, rfl, (fun k hk => by rw [ha10 k (by omega), ha3 k (by omega), ha1 k (by omega)]), ⟨⟨by omega, by omega, by omega, by omega, by omega, by omega, by omega, hf23, hf24, hf25⟩, hf22, hf26⟩, (fun k hk hkn => by show g_21 k = _; rw [eg_21, va_up_n (by omega), eg_15, va_up_n (by omega), eg_10, va_up_n (by omega), eg_5, va_up_n (by omega), hg3 k (by omega) (by omega), eg_1, va_up_n (by omega)])⟩

set_option maxHeartbeats 4000000 in
set_option maxRecDepth 100000 in
theorem c_Machine_init {l : Launch} {G : va_G} {cy : Nat → ClassId} {N : Nat} {ad : Nat → Nat} {g : Nat → va_E} {n : Nat} (hn : n < N) (hg : g n = .inr (2, [.null, .null])) : MV l G cy (N, ad, g) yX2_init cX2_init 1 none (rmA 1 2 30) [.ref (ad n)] (fun u => ∃ ad1 g1, u = (N + 2, ad1, g1) ∧ (∀ k, k < N → ad1 k = ad k) ∧ (g1 n = .inr (2, [.ref (ad1 N), .ref (ad1 (N + 1))]) ∧ g1 N = .inl (cy 2, 24, .inr (.inr (.inr (.inr (fun _ => none))))) ∧ g1 (N + 1) = .inl (cy 0, 6, .inl (fun _ => 0))) ∧ ∀ k, k < N → k ≠ n → g1 k = g k) := by
  refine MV.mk (by decide) (Nat.le_of_ble_eq_true rfl) ?_
  intro jp je js jm below meth jc A Q hin X hW ret ls hl
  have jx := X.hx
  have jb := X.hb
  have hl : lv_has ls 1 [(0, .ref (ad n))] := hl
  have X : Cx G cy jp js jm _ jc cX2_init 1 RX2 A js.heap := X
  generalize hlocs0 : ([] : List Loc) = locs at hW ⊢
  refine lv_aload_n jx jb dX2_init_0 rfl (lv_at hl 0 rfl) ?_
  refine W.objInit jx jb X.1.2.2.2.1 (X.ht ml_X2_3) (X.ht im_objectInit) (X.ht co_objectInit) rfl (by rw [X.1.2.2.1]; exact hl.1) rfl dX2_init_1 (Nat.le_of_ble_eq_true rfl) (Nat.le_of_ble_eq_true rfl) ?_
  refine W.eq (g2 := F0 jm 4 ls []) rfl ?_
  refine lv_aload_n jx jb dX2_init_4 rfl (lv_at hl 0 rfl) ?_
  refine lv_bipush (v := 24) jx jb dX2_init_5 (by decide) ?_
  refine w_newq X hW (k := 24) (len := 24) (t := 2) rfl cl_X2_9 X.2.2.1.2.1 (by decide) (by decide) (by decide) (Nat.le_of_ble_eq_true rfl) (Nat.le_of_ble_eq_true rfl) dX2_init_7 (fun q1 H hW => ?_)
  obtain ⟨ad1, ea1⟩ : ∃ zz, zz = va_up ad N q1 := ⟨_, rfl⟩
  obtain ⟨g_1, eg_1⟩ : ∃ zz, zz = va_up g N (.inl (cy 2, 24, .inr (.inr (.inr (.inr (fun _ => none)))))) := ⟨_, rfl⟩
  have hW : Wd G A js.heap (N + 1, ad1, g_1) H locs := by rw [ea1, eg_1]; exact hW
  have hq1 : ad1 N = q1 := by rw [ea1]; exact va_up_s
  have ha1 : ∀ k, k < N → ad1 k = ad k := fun k hk => by rw [ea1]; exact va_up_n (by omega)
  refine W.eq (g2 := F0 jm 10 ls [.ref (ad1 N), .ref (ad1 n)]) (by rw [hq1, ha1 n (by omega)]) ?_
  have hl : lv_has ls 1 [(0, .ref (ad1 n))] := by rw [ha1 n (by omega)]; exact hl
  have hf2 : g_1 n = .inr (2, [.null, .null]) := by rw [eg_1, va_up_n (by omega)]; exact hg
  have hn1 : g_1 N = .inl (cy 2, 24, .inr (.inr (.inr (.inr (fun _ => none))))) := by rw [eg_1]; exact va_up_s
  refine w_putF X hW K2 (by omega) hf2 0 (by decide) fl_X2_11 rfl hin rfl rfl rfl (Nat.le_of_ble_eq_true rfl) dX2_init_10 (fun H locs hW => ?_)
  obtain ⟨g_3, eg_3⟩ : ∃ zz, zz = va_up g_1 n (.inr (2, [.ref (ad1 N), .null])) := ⟨_, rfl⟩
  have hW : Wd G A js.heap (N + 1, ad1, g_3) H locs := by rw [eg_3]; exact hW
  have hf4 : g_3 n = .inr (2, [.ref (ad1 N), .null]) := by rw [eg_3]; exact va_up_s
  have hf5 : g_3 N = .inl (cy 2, 24, .inr (.inr (.inr (.inr (fun _ => none))))) := by rw [eg_3]; exact (va_up_n (by omega)).trans hn1
  refine lv_aload_n jx jb dX2_init_13 rfl (lv_at hl 0 rfl) ?_
  refine lv_bipush (v := 6) jx jb dX2_init_14 (by decide) ?_
  refine w_newi X hW (k := 6) (len := 6) (by decide) (by decide) (by decide) (Nat.le_of_ble_eq_true rfl) (Nat.le_of_ble_eq_true rfl) dX2_init_16 (fun q6 H hW => ?_)
  obtain ⟨ad6, ea6⟩ : ∃ zz, zz = va_up ad1 (N + 1) q6 := ⟨_, rfl⟩
  obtain ⟨g_6, eg_6⟩ : ∃ zz, zz = va_up g_3 (N + 1) (.inl (cy 0, 6, .inl (fun _ => 0))) := ⟨_, rfl⟩
  have hW : Wd G A js.heap (N + 2, ad6, g_6) H locs := by rw [ea6, eg_6]; exact hW
  have hq6 : ad6 (N + 1) = q6 := by rw [ea6]; exact va_up_s
  have ha6 : ∀ k, k < N + 1 → ad6 k = ad1 k := fun k hk => by rw [ea6]; exact va_up_n (by omega)
  refine W.eq (g2 := F0 jm 18 ls [.ref (ad6 (N + 1)), .ref (ad6 n)]) (by rw [hq6, ha6 n (by omega)]) ?_
  have hl : lv_has ls 1 [(0, .ref (ad6 n))] := by rw [ha6 n (by omega)]; exact hl
  have hf7 : g_6 n = .inr (2, [.ref (ad6 N), .null]) := by rw [eg_6, va_up_n (by omega), ha6 N (by omega)]; exact hf4
  have hf8 : g_6 N = .inl (cy 2, 24, .inr (.inr (.inr (.inr (fun _ => none))))) := by rw [eg_6, va_up_n (by omega)]; exact hf5
  have hn6 : g_6 (N + 1) = .inl (cy 0, 6, .inl (fun _ => 0)) := by rw [eg_6]; exact va_up_s
  refine w_putF X hW K2 (by omega) hf7 1 (by decide) fl_X2_17 rfl hin rfl rfl rfl (Nat.le_of_ble_eq_true rfl) dX2_init_18 (fun H locs hW => ?_)
  obtain ⟨g_9, eg_9⟩ : ∃ zz, zz = va_up g_6 n (.inr (2, [.ref (ad6 N), .ref (ad6 (N + 1))])) := ⟨_, rfl⟩
  have hW : Wd G A js.heap (N + 2, ad6, g_9) H locs := by rw [eg_9]; exact hW
  have hf10 : g_9 n = .inr (2, [.ref (ad6 N), .ref (ad6 (N + 1))]) := by rw [eg_9]; exact va_up_s
  have hf11 : g_9 N = .inl (cy 2, 24, .inr (.inr (.inr (.inr (fun _ => none))))) := by rw [eg_9]; exact (va_up_n (by omega)).trans hf8
  have hf12 : g_9 (N + 1) = .inl (cy 0, 6, .inl (fun _ => 0)) := by rw [eg_9]; exact (va_up_n (by omega)).trans hn6
  exact ret _ _ _ _ _ dX2_init_21 hW ⟨_, _, rfl, (fun k hk => by rw [ha6 k (by omega), ha1 k (by omega)]), ⟨hf10, hf11, hf12⟩, (fun k hk hkn => by show g_9 k = _; rw [eg_9, va_up_n (by omega), eg_6, va_up_n (by omega), eg_3, va_up_n (by omega), eg_1, va_up_n (by omega)])⟩

set_option maxHeartbeats 4000000 in
set_option maxRecDepth 100000 in
theorem c_MadeTest_init {l : Launch} {G : va_G} {cy : Nat → ClassId} {N : Nat} {ad : Nat → Nat} {g : Nat → va_E} {n : Nat} (hn : n < N) (hg : g n = .inr (3, [.null, .int 0, .int 0, .int 0])) : MV l G cy (N, ad, g) yX3_init cX3_init 1 none (rmA 2 3 403) [.ref (ad n)] (fun u => ∃ ad1 g1, u = (N + 3, ad1, g1) ∧ (∀ k, k < N → ad1 k = ad k) ∧ (RowAt cy (N + 3) ad1 g1 N (N + 1) (N + 2) 0 (fun _ => 0) (fun _ => 0) ∧ g1 n = .inr (3, [.ref (ad1 N), .int 0, .int 0, .int 0])) ∧ ∀ k, k < N → k ≠ n → g1 k = g k) := by
  refine MV.mk (by decide) (Nat.le_of_ble_eq_true rfl) ?_
  intro jp je js jm below meth jc A Q hin X hW ret ls hl
  have jx := X.hx
  have jb := X.hb
  have hl : lv_has ls 1 [(0, .ref (ad n))] := hl
  have X : Cx G cy jp js jm _ jc cX3_init 1 RX3 A js.heap := X
  generalize hlocs0 : ([] : List Loc) = locs at hW ⊢
  refine lv_aload_n jx jb dX3_init_0 rfl (lv_at hl 0 rfl) ?_
  refine W.objInit jx jb X.1.2.2.2.1 (X.ht ml_X3_1) (X.ht im_objectInit) (X.ht co_objectInit) rfl (by rw [X.1.2.2.1]; exact hl.1) rfl dX3_init_1 (Nat.le_of_ble_eq_true rfl) (Nat.le_of_ble_eq_true rfl) ?_
  refine W.eq (g2 := F0 jm 4 ls []) rfl ?_
  refine lv_aload_n jx jb dX3_init_4 rfl (lv_at hl 0 rfl) ?_
  refine w_new X hW K5 cl_X3_7 inst_X5 ini_X5 (fs := [.null, .null, .int 0]) (fun j hj => by rcases (show j = 0 ∨ j = 1 ∨ j = 2 by omega) with rfl | rfl | rfl <;> rfl) (Nat.le_of_ble_eq_true rfl) (Nat.le_of_ble_eq_true rfl) dX3_init_5 (fun q1 H hW => ?_)
  obtain ⟨ad1, ea1⟩ : ∃ zz, zz = va_up ad N q1 := ⟨_, rfl⟩
  obtain ⟨g_1, eg_1⟩ : ∃ zz, zz = va_up g N (.inr (5, [.null, .null, .int 0])) := ⟨_, rfl⟩
  have hW : Wd G A js.heap (N + 1, ad1, g_1) H locs := by rw [ea1, eg_1]; exact hW
  have hq1 : ad1 N = q1 := by rw [ea1]; exact va_up_s
  have ha1 : ∀ k, k < N → ad1 k = ad k := fun k hk => by rw [ea1]; exact va_up_n (by omega)
  refine W.eq (g2 := F0 jm 8 ls [.ref (ad1 N), .ref (ad1 n)]) (by rw [hq1, ha1 n (by omega)]) ?_
  have hl : lv_has ls 1 [(0, .ref (ad1 n))] := by rw [ha1 n (by omega)]; exact hl
  have hf2 : g_1 n = .inr (3, [.null, .int 0, .int 0, .int 0]) := by rw [eg_1, va_up_n (by omega)]; exact hg
  have hn1 : g_1 N = .inr (5, [.null, .null, .int 0]) := by rw [eg_1]; exact va_up_s
  refine lv_dup jx jb dX3_init_8 rfl ?_
  refine w_cINv (As := []) (b := ad1 N) X hW (c_Row_init (n := N) (by omega) hn1) mn_X3_9 mf_X5_init ⟨Nat.le_of_ble_eq_true rfl, Nat.le_of_ble_eq_true rfl⟩ hl.1 rfl (Nat.le_of_ble_eq_true rfl) dX3_init_9 ⟨Nat.le_of_ble_eq_true rfl, Nat.le_of_ble_eq_true rfl⟩ (fun u H locs hp hW => ?_)
  obtain ⟨ad3, g_3, eu3, ha3, hs3, hg3⟩ := hp
  subst eu3
  refine W.eq (g2 := F0 jm 12 ls [.ref (ad3 N), .ref (ad3 n)]) (by rw [ha3 N (by omega), ha3 n (by omega)]) ?_
  have hl : lv_has ls 1 [(0, .ref (ad3 n))] := by rw [ha3 n (by omega)]; exact hl
  have hf4 : g_3 n = .inr (3, [.null, .int 0, .int 0, .int 0]) := by rw [hg3 n (by omega) (by omega)]; exact hf2
  refine w_putF X hW K3 (by omega) hf4 0 (by decide) fl_X3_10 rfl hin rfl rfl rfl (Nat.le_of_ble_eq_true rfl) dX3_init_12 (fun H locs hW => ?_)
  obtain ⟨g_5, eg_5⟩ : ∃ zz, zz = va_up g_3 n (.inr (3, [.ref (ad3 N), .int 0, .int 0, .int 0])) := ⟨_, rfl⟩
  have hW : Wd G A js.heap (N + 3, ad3, g_5) H locs := by rw [eg_5]; exact hW
  have hf6 : g_5 n = .inr (3, [.ref (ad3 N), .int 0, .int 0, .int 0]) := by rw [eg_5]; exact va_up_s
  have hf7 : g_5 N = .inr (5, [.ref (ad3 (N + 1)), .ref (ad3 (N + 2)), .int (nI 0)]) := by rw [eg_5]; exact (va_up_n (by omega)).trans hs3.2.2.2.2.2.2.2.1
  have hf8 : g_5 (N + 1) = .inl (cy 0, 200, .inl (fun _ => 0)) := by rw [eg_5]; exact (va_up_n (by omega)).trans hs3.2.2.2.2.2.2.2.2.1
  have hf9 : g_5 (N + 2) = .inl (cy 0, 200, .inl (fun _ => 0)) := by rw [eg_5]; exact (va_up_n (by omega)).trans hs3.2.2.2.2.2.2.2.2.2
  refine lv_aload_n jx jb dX3_init_15 rfl (lv_at hl 0 rfl) ?_
  refine lv_iconst (v := 0) jx jb dX3_init_16 (by decide) ?_
  refine w_put X hW K3 (by omega) hf6 1 (by decide) fl_X3_16 rfl rfl rfl (Nat.le_of_ble_eq_true rfl) dX3_init_17 (fun H locs hW => ?_)
  obtain ⟨g_10, eg_10⟩ : ∃ zz, zz = va_up g_5 n (.inr (3, [.ref (ad3 N), .int 0, .int 0, .int 0])) := ⟨_, rfl⟩
  have hW : Wd G A js.heap (N + 3, ad3, g_10) H locs := by rw [eg_10]; exact hW
  have hf11 : g_10 n = .inr (3, [.ref (ad3 N), .int 0, .int 0, .int 0]) := by rw [eg_10]; exact va_up_s
  have hf12 : g_10 N = .inr (5, [.ref (ad3 (N + 1)), .ref (ad3 (N + 2)), .int (nI 0)]) := by rw [eg_10]; exact (va_up_n (by omega)).trans hf7
  have hf13 : g_10 (N + 1) = .inl (cy 0, 200, .inl (fun _ => 0)) := by rw [eg_10]; exact (va_up_n (by omega)).trans hf8
  have hf14 : g_10 (N + 2) = .inl (cy 0, 200, .inl (fun _ => 0)) := by rw [eg_10]; exact (va_up_n (by omega)).trans hf9
  refine lv_aload_n jx jb dX3_init_20 rfl (lv_at hl 0 rfl) ?_
  refine lv_iconst (v := 0) jx jb dX3_init_21 (by decide) ?_
  refine w_put X hW K3 (by omega) hf11 2 (by decide) fl_X3_20 rfl rfl rfl (Nat.le_of_ble_eq_true rfl) dX3_init_22 (fun H locs hW => ?_)
  obtain ⟨g_15, eg_15⟩ : ∃ zz, zz = va_up g_10 n (.inr (3, [.ref (ad3 N), .int 0, .int 0, .int 0])) := ⟨_, rfl⟩
  have hW : Wd G A js.heap (N + 3, ad3, g_15) H locs := by rw [eg_15]; exact hW
  have hf16 : g_15 n = .inr (3, [.ref (ad3 N), .int 0, .int 0, .int 0]) := by rw [eg_15]; exact va_up_s
  have hf17 : g_15 N = .inr (5, [.ref (ad3 (N + 1)), .ref (ad3 (N + 2)), .int (nI 0)]) := by rw [eg_15]; exact (va_up_n (by omega)).trans hf12
  have hf18 : g_15 (N + 1) = .inl (cy 0, 200, .inl (fun _ => 0)) := by rw [eg_15]; exact (va_up_n (by omega)).trans hf13
  have hf19 : g_15 (N + 2) = .inl (cy 0, 200, .inl (fun _ => 0)) := by rw [eg_15]; exact (va_up_n (by omega)).trans hf14
  refine lv_aload_n jx jb dX3_init_25 rfl (lv_at hl 0 rfl) ?_
  refine lv_iconst (v := 0) jx jb dX3_init_26 (by decide) ?_
  refine w_put X hW K3 (by omega) hf16 3 (by decide) fl_X3_24 rfl rfl rfl (Nat.le_of_ble_eq_true rfl) dX3_init_27 (fun H locs hW => ?_)
  obtain ⟨g_20, eg_20⟩ : ∃ zz, zz = va_up g_15 n (.inr (3, [.ref (ad3 N), .int 0, .int 0, .int 0])) := ⟨_, rfl⟩
  have hW : Wd G A js.heap (N + 3, ad3, g_20) H locs := by rw [eg_20]; exact hW
  have hf21 : g_20 n = .inr (3, [.ref (ad3 N), .int 0, .int 0, .int 0]) := by rw [eg_20]; exact va_up_s
  have hf22 : g_20 N = .inr (5, [.ref (ad3 (N + 1)), .ref (ad3 (N + 2)), .int (nI 0)]) := by rw [eg_20]; exact (va_up_n (by omega)).trans hf17
  have hf23 : g_20 (N + 1) = .inl (cy 0, 200, .inl (fun _ => 0)) := by rw [eg_20]; exact (va_up_n (by omega)).trans hf18
  have hf24 : g_20 (N + 2) = .inl (cy 0, 200, .inl (fun _ => 0)) := by rw [eg_20]; exact (va_up_n (by omega)).trans hf19
  exact ret _ _ _ _ _ dX3_init_30 hW ⟨_, _, rfl, (fun k hk => by rw [ha3 k (by omega), ha1 k (by omega)]), ⟨⟨by omega, by omega, by omega, by omega, by omega, by omega, by omega, hf22, hf23, hf24⟩, hf21⟩, (fun k hk hkn => by show g_20 k = _; rw [eg_20, va_up_n (by omega), eg_15, va_up_n (by omega), eg_10, va_up_n (by omega), eg_5, va_up_n (by omega), hg3 k (by omega) (by omega), eg_1, va_up_n (by omega)])⟩

set_option maxHeartbeats 4000000 in
set_option maxRecDepth 100000 in
theorem c_Replay_init {l : Launch} {G : va_G} {cy : Nat → ClassId} {N : Nat} {ad : Nat → Nat} {g : Nat → va_E} {n m : Nat} (hn : n < N) (hm : m < N) (hg : g n = .inr (4, [.null, .null, .int 0, .int 0, .int 0])) : MV l G cy (N, ad, g) yX4_init cX4_init 2 none (rmA 1 1 200) [.ref (ad n), .ref (ad m)] (fun u => ∃ ad1 g1, u = (N + 1, ad1, g1) ∧ (∀ k, k < N → ad1 k = ad k) ∧ (g1 n = .inr (4, [.ref (ad1 m), .ref (ad1 N), .int 0, .int 0, .int (-1)]) ∧ g1 N = .inl (cy 0, 200, .inl (fun _ => 0))) ∧ ∀ k, k < N → k ≠ n → g1 k = g k) := by
  refine MV.mk (by decide) (Nat.le_of_ble_eq_true rfl) ?_
  intro jp je js jm below meth jc A Q hin X hW ret ls hl
  have jx := X.hx
  have jb := X.hb
  have hl : lv_has ls 2 [(0, .ref (ad n)), (1, .ref (ad m))] := hl
  have X : Cx G cy jp js jm _ jc cX4_init 2 RX4 A js.heap := X
  generalize hlocs0 : ([] : List Loc) = locs at hW ⊢
  refine lv_aload_n jx jb dX4_init_0 rfl (lv_at hl 0 rfl) ?_
  refine W.objInit jx jb X.1.2.2.2.1 (X.ht ml_X4_3) (X.ht im_objectInit) (X.ht co_objectInit) rfl (by rw [X.1.2.2.1]; exact hl.1) rfl dX4_init_1 (Nat.le_of_ble_eq_true rfl) (Nat.le_of_ble_eq_true rfl) ?_
  refine W.eq (g2 := F0 jm 4 ls []) rfl ?_
  refine lv_aload_n jx jb dX4_init_4 rfl (lv_at hl 0 rfl) ?_
  refine lv_sipush (v := 200) jx jb dX4_init_5 (by decide) ?_
  refine w_newi X hW (k := 200) (len := 200) (by decide) (by decide) (by decide) (Nat.le_of_ble_eq_true rfl) (Nat.le_of_ble_eq_true rfl) dX4_init_8 (fun q1 H hW => ?_)
  obtain ⟨ad1, ea1⟩ : ∃ zz, zz = va_up ad N q1 := ⟨_, rfl⟩
  obtain ⟨g_1, eg_1⟩ : ∃ zz, zz = va_up g N (.inl (cy 0, 200, .inl (fun _ => 0))) := ⟨_, rfl⟩
  have hW : Wd G A js.heap (N + 1, ad1, g_1) H locs := by rw [ea1, eg_1]; exact hW
  have hq1 : ad1 N = q1 := by rw [ea1]; exact va_up_s
  have ha1 : ∀ k, k < N → ad1 k = ad k := fun k hk => by rw [ea1]; exact va_up_n (by omega)
  refine W.eq (g2 := F0 jm 10 ls [.ref (ad1 N), .ref (ad1 n)]) (by rw [hq1, ha1 n (by omega)]) ?_
  have hl : lv_has ls 2 [(0, .ref (ad1 n)), (1, .ref (ad1 m))] := by rw [ha1 n (by omega), ha1 m (by omega)]; exact hl
  have hf2 : g_1 n = .inr (4, [.null, .null, .int 0, .int 0, .int 0]) := by rw [eg_1, va_up_n (by omega)]; exact hg
  have hn1 : g_1 N = .inl (cy 0, 200, .inl (fun _ => 0)) := by rw [eg_1]; exact va_up_s
  refine w_putF X hW K4 (by omega) hf2 1 (by decide) fl_X4_9 rfl hin rfl rfl rfl (Nat.le_of_ble_eq_true rfl) dX4_init_10 (fun H locs hW => ?_)
  obtain ⟨g_3, eg_3⟩ : ∃ zz, zz = va_up g_1 n (.inr (4, [.null, .ref (ad1 N), .int 0, .int 0, .int 0])) := ⟨_, rfl⟩
  have hW : Wd G A js.heap (N + 1, ad1, g_3) H locs := by rw [eg_3]; exact hW
  have hf4 : g_3 n = .inr (4, [.null, .ref (ad1 N), .int 0, .int 0, .int 0]) := by rw [eg_3]; exact va_up_s
  have hf5 : g_3 N = .inl (cy 0, 200, .inl (fun _ => 0)) := by rw [eg_3]; exact (va_up_n (by omega)).trans hn1
  refine lv_aload_n jx jb dX4_init_13 rfl (lv_at hl 0 rfl) ?_
  refine lv_iconst (v := 0) jx jb dX4_init_14 (by decide) ?_
  refine w_put X hW K4 (by omega) hf4 2 (by decide) fl_X4_15 rfl rfl rfl (Nat.le_of_ble_eq_true rfl) dX4_init_15 (fun H locs hW => ?_)
  obtain ⟨g_6, eg_6⟩ : ∃ zz, zz = va_up g_3 n (.inr (4, [.null, .ref (ad1 N), .int 0, .int 0, .int 0])) := ⟨_, rfl⟩
  have hW : Wd G A js.heap (N + 1, ad1, g_6) H locs := by rw [eg_6]; exact hW
  have hf7 : g_6 n = .inr (4, [.null, .ref (ad1 N), .int 0, .int 0, .int 0]) := by rw [eg_6]; exact va_up_s
  have hf8 : g_6 N = .inl (cy 0, 200, .inl (fun _ => 0)) := by rw [eg_6]; exact (va_up_n (by omega)).trans hf5
  refine lv_aload_n jx jb dX4_init_18 rfl (lv_at hl 0 rfl) ?_
  refine lv_iconst (v := 0) jx jb dX4_init_19 (by decide) ?_
  refine w_put X hW K4 (by omega) hf7 3 (by decide) fl_X4_19 rfl rfl rfl (Nat.le_of_ble_eq_true rfl) dX4_init_20 (fun H locs hW => ?_)
  obtain ⟨g_9, eg_9⟩ : ∃ zz, zz = va_up g_6 n (.inr (4, [.null, .ref (ad1 N), .int 0, .int 0, .int 0])) := ⟨_, rfl⟩
  have hW : Wd G A js.heap (N + 1, ad1, g_9) H locs := by rw [eg_9]; exact hW
  have hf10 : g_9 n = .inr (4, [.null, .ref (ad1 N), .int 0, .int 0, .int 0]) := by rw [eg_9]; exact va_up_s
  have hf11 : g_9 N = .inl (cy 0, 200, .inl (fun _ => 0)) := by rw [eg_9]; exact (va_up_n (by omega)).trans hf8
  refine lv_aload_n jx jb dX4_init_23 rfl (lv_at hl 0 rfl) ?_
  refine lv_iconst (v := -1) jx jb dX4_init_24 (by decide) ?_
  refine w_put X hW K4 (by omega) hf10 4 (by decide) fl_X4_22 rfl rfl rfl (Nat.le_of_ble_eq_true rfl) dX4_init_25 (fun H locs hW => ?_)
  obtain ⟨g_12, eg_12⟩ : ∃ zz, zz = va_up g_9 n (.inr (4, [.null, .ref (ad1 N), .int 0, .int 0, .int (-1)])) := ⟨_, rfl⟩
  have hW : Wd G A js.heap (N + 1, ad1, g_12) H locs := by rw [eg_12]; exact hW
  have hf13 : g_12 n = .inr (4, [.null, .ref (ad1 N), .int 0, .int 0, .int (-1)]) := by rw [eg_12]; exact va_up_s
  have hf14 : g_12 N = .inl (cy 0, 200, .inl (fun _ => 0)) := by rw [eg_12]; exact (va_up_n (by omega)).trans hf11
  refine lv_aload_n jx jb dX4_init_28 rfl (lv_at hl 0 rfl) ?_
  refine lv_aload_n jx jb dX4_init_29 rfl (lv_at hl 1 rfl) ?_
  refine w_putF X hW K4 (by omega) hf13 0 (by decide) fl_X4_25 rfl hin rfl rfl rfl (Nat.le_of_ble_eq_true rfl) dX4_init_30 (fun H locs hW => ?_)
  obtain ⟨g_15, eg_15⟩ : ∃ zz, zz = va_up g_12 n (.inr (4, [.ref (ad1 m), .ref (ad1 N), .int 0, .int 0, .int (-1)])) := ⟨_, rfl⟩
  have hW : Wd G A js.heap (N + 1, ad1, g_15) H locs := by rw [eg_15]; exact hW
  have hf16 : g_15 n = .inr (4, [.ref (ad1 m), .ref (ad1 N), .int 0, .int 0, .int (-1)]) := by rw [eg_15]; exact va_up_s
  have hf17 : g_15 N = .inl (cy 0, 200, .inl (fun _ => 0)) := by rw [eg_15]; exact (va_up_n (by omega)).trans hf14
  exact ret _ _ _ _ _ dX4_init_33 hW ⟨_, _, rfl, (fun k hk => by rw [ha1 k (by omega)]), ⟨hf16, hf17⟩, (fun k hk hkn => by show g_15 k = _; rw [eg_15, va_up_n (by omega), eg_12, va_up_n (by omega), eg_9, va_up_n (by omega), eg_6, va_up_n (by omega), eg_3, va_up_n (by omega), eg_1, va_up_n (by omega)])⟩

set_option maxHeartbeats 4000000 in
set_option maxRecDepth 100000 in
theorem c_Shortener_init {l : Launch} {G : va_G} {cy : Nat → ClassId} {N : Nat} {ad : Nat → Nat} {g : Nat → va_E} {n m : Nat} (hn : n < N) (hg : g n = .inr (6, [.null, .int 0, .int 0])) : MV l G cy (N, ad, g) yX6_init cX6_init 2 none (rmA 1 0 0) [.ref (ad n), .ref (ad m)] (nV N ad (fun g1 => g1 n = .inr (6, [.ref (ad m), .int (-1), .int (-1)]) ∧ Fr g g1 [n])) := by
  refine MV.mk (by decide) (Nat.le_of_ble_eq_true rfl) ?_
  intro jp je js jm below meth jc A Q hin X hW ret ls hl
  have jx := X.hx
  have jb := X.hb
  have hl : lv_has ls 2 [(0, .ref (ad n)), (1, .ref (ad m))] := hl
  have X : Cx G cy jp js jm _ jc cX6_init 2 RX6 A js.heap := X
  refine lv_aload_n jx jb dX6_init_0 rfl (lv_at hl 0 rfl) ?_
  refine W.objInit jx jb X.1.2.2.2.1 (X.ht ml_X6_3) (X.ht im_objectInit) (X.ht co_objectInit) rfl (by rw [X.1.2.2.1]; exact hl.1) rfl dX6_init_1 (Nat.le_of_ble_eq_true rfl) (Nat.le_of_ble_eq_true rfl) ?_
  refine W.eq (g2 := F0 jm 4 ls []) rfl ?_
  refine lv_aload_n jx jb dX6_init_4 rfl (lv_at hl 0 rfl) ?_
  refine lv_iconst (v := -1) jx jb dX6_init_5 (by decide) ?_
  refine w_put X hW K6 hn hg 1 (by decide) fl_X6_9 rfl rfl rfl (Nat.le_of_ble_eq_true rfl) dX6_init_6 (fun H locs hW => ?_)
  obtain ⟨g_1, eg_1⟩ : ∃ zz, zz = va_up g n (.inr (6, [.null, .int (-1), .int 0])) := ⟨_, rfl⟩
  have hW : Wd G A js.heap (N, ad, g_1) H locs := by rw [eg_1]; exact hW
  have hf2 : g_1 n = .inr (6, [.null, .int (-1), .int 0]) := by rw [eg_1]; exact va_up_s
  refine lv_aload_n jx jb dX6_init_9 rfl (lv_at hl 0 rfl) ?_
  refine lv_iconst (v := -1) jx jb dX6_init_10 (by decide) ?_
  refine w_put X hW K6 hn hf2 2 (by decide) fl_X6_15 rfl rfl rfl (Nat.le_of_ble_eq_true rfl) dX6_init_11 (fun H locs hW => ?_)
  obtain ⟨g_3, eg_3⟩ : ∃ zz, zz = va_up g_1 n (.inr (6, [.null, .int (-1), .int (-1)])) := ⟨_, rfl⟩
  have hW : Wd G A js.heap (N, ad, g_3) H locs := by rw [eg_3]; exact hW
  have hf4 : g_3 n = .inr (6, [.null, .int (-1), .int (-1)]) := by rw [eg_3]; exact va_up_s
  refine lv_aload_n jx jb dX6_init_14 rfl (lv_at hl 0 rfl) ?_
  refine lv_aload_n jx jb dX6_init_15 rfl (lv_at hl 1 rfl) ?_
  refine w_putF X hW K6 hn hf4 0 (by decide) fl_X6_18 rfl hin rfl rfl rfl (Nat.le_of_ble_eq_true rfl) dX6_init_16 (fun H locs hW => ?_)
  obtain ⟨g_5, eg_5⟩ : ∃ zz, zz = va_up g_3 n (.inr (6, [.ref (ad m), .int (-1), .int (-1)])) := ⟨_, rfl⟩
  have hW : Wd G A js.heap (N, ad, g_5) H locs := by rw [eg_5]; exact hW
  have hf6 : g_5 n = .inr (6, [.ref (ad m), .int (-1), .int (-1)]) := by rw [eg_5]; exact va_up_s
  exact ret _ _ _ _ _ dX6_init_19 hW ⟨rfl, rfl, hf6, (fun k hk => by show g_5 k = _; simp only [List.mem_cons, List.not_mem_nil, or_false, not_or] at hk; rw [eg_5, va_up_n (by omega), eg_3, va_up_n (by omega), eg_1, va_up_n (by omega)])⟩
