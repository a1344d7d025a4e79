/-- the class's cells as they are made -/
def URaw (cy : Nat → ClassId) (N : Nat) (ad : Nat → Nat) (g : Nat → va_E) : Prop := g 0 = .inr (8, [.ref (ad 1), .ref (ad 4), .ref (ad 9), .ref (ad 60), .ref (ad 62)]) ∧ (g 1 = .inr (2, [.ref (ad 2), .ref (ad 3)]) ∧ g 2 = .inl (cy 2, 24, .inr (.inr (.inr (.inr (fun _ => none))))) ∧ g 3 = .inl (cy 0, 6, .inl (fun _ => 0))) ∧ (RowAt cy N ad g 5 6 7 0 (fun _ => 0) (fun _ => 0) ∧ g 4 = .inr (1, [.ref (ad 5), .ref (ad 8), .int 0]) ∧ g 8 = .inl (cy 0, 200, .inl (fun _ => 0))) ∧ SRaw cy N ad g ∧ (g 60 = .inr (4, [.ref (ad 1), .ref (ad 61), .int 0, .int 0, .int (-1)]) ∧ g 61 = .inl (cy 0, 200, .inl (fun _ => 0))) ∧ g 62 = .inr (6, [.ref (ad 1), .int (-1), .int (-1)])

set_option maxHeartbeats 4000000 in
set_option maxRecDepth 100000 in
theorem c_Use_init {l : Launch} {G : va_G} {cy : Nat → ClassId} {ad : Nat → Nat} {g : Nat → va_E} (hg : g 0 = .inr (8, [.null, .null, .null, .null, .null])) : MV l G cy (1, ad, g) yX8_init cX8_init 1 none (rmA 4 62 5757) [.ref (ad 0)] (fun u => ∃ ad1 g1, u = (63, ad1, g1) ∧ (∀ k, k < 1 → ad1 k = ad k) ∧ URaw cy 63 ad1 g1) := by
  refine MV.mk (by decide) (Nat.le_of_ble_eq_true rfl) ?_
  intro jp je js jm below meth jc A Q hin X hW ret ls hl
  have jx := X.hx
  have jb := X.hb
  have hl : lv_has ls 1 [(0, .ref (ad 0))] := hl
  have X : Cx G cy jp js jm _ jc cX8_init 1 RX8 A js.heap := X
  generalize hlocs0 : ([] : List Loc) = locs at hW ⊢
  refine lv_aload_n jx jb dX8_init_0 rfl (lv_at hl 0 rfl) ?_
  refine W.objInit jx jb X.1.2.2.2.1 (X.ht ml_X8_3) (X.ht im_objectInit) (X.ht co_objectInit) rfl (by rw [X.1.2.2.1]; exact hl.1) rfl dX8_init_1 (Nat.le_of_ble_eq_true rfl) (Nat.le_of_ble_eq_true rfl) ?_
  refine W.eq (g2 := F0 jm 4 ls []) rfl ?_
  refine lv_aload_n jx jb dX8_init_4 rfl (lv_at hl 0 rfl) ?_
  refine w_new X hW K2 cl_X8_9 inst_X2 ini_X2 (fs := [.null, .null]) (fun j hj => by rcases (show j = 0 ∨ j = 1 by omega) with rfl | rfl <;> rfl) (Nat.le_of_ble_eq_true rfl) (Nat.le_of_ble_eq_true rfl) dX8_init_5 (fun q1 H hW => ?_)
  obtain ⟨ad1, ea1⟩ : ∃ zz, zz = va_up ad 1 q1 := ⟨_, rfl⟩
  obtain ⟨g_1, eg_1⟩ : ∃ zz, zz = va_up g 1 (.inr (2, [.null, .null])) := ⟨_, rfl⟩
  have hW : Wd G A js.heap (2, ad1, g_1) H locs := by rw [ea1, eg_1]; exact hW
  have hq1 : ad1 1 = q1 := by rw [ea1]; exact va_up_s
  have ha1 : ∀ j_, j_ < 1 → ad1 j_ = ad j_ := fun j_ hj_ => by rw [ea1]; exact va_up_n (by omega)
  refine W.eq (g2 := F0 jm 8 ls [.ref (ad1 1), .ref (ad1 0)]) (by rw [hq1, ha1 0 (by omega)]) ?_
  have hl : lv_has ls 1 [(0, .ref (ad1 0))] := by rw [ha1 0 (by omega)]; exact hl
  have hf2 : g_1 0 = .inr (8, [.null, .null, .null, .null, .null]) := by rw [eg_1, va_up_n (by omega)]; exact hg
  have hn1 : g_1 1 = .inr (2, [.null, .null]) := by rw [eg_1]; exact va_up_s
  refine lv_dup jx jb dX8_init_8 rfl ?_
  refine w_cINv (As := []) (b := ad1 1) X hW (c_Machine_init (n := 1) (by omega) hn1) mn_X8_11 mf_X2_init ⟨Nat.le_of_ble_eq_true rfl, Nat.le_of_ble_eq_true rfl⟩ hl.1 rfl (Nat.le_of_ble_eq_true rfl) dX8_init_9 ⟨Nat.le_of_ble_eq_true rfl, Nat.le_of_ble_eq_true rfl⟩ (fun u H locs hp hW => ?_)
  obtain ⟨ad3, g_3, eu3, ha3, hs3, hg3⟩ := hp
  subst eu3
  refine W.eq (g2 := F0 jm 12 ls [.ref (ad3 1), .ref (ad3 0)]) (by rw [ha3 1 (by omega), ha3 0 (by omega)]) ?_
  have hl : lv_has ls 1 [(0, .ref (ad3 0))] := by rw [ha3 0 (by omega)]; exact hl
  have hf4 : g_3 0 = .inr (8, [.null, .null, .null, .null, .null]) := by rw [hg3 0 (by omega) (by omega)]; exact hf2
  refine w_putF X hW K8 (by omega) hf4 0 (by decide) fl_X8_12 rfl hin rfl rfl rfl (Nat.le_of_ble_eq_true rfl) dX8_init_12 (fun H locs hW => ?_)
  obtain ⟨g_5, eg_5⟩ : ∃ zz, zz = va_up g_3 0 (.inr (8, [.ref (ad3 1), .null, .null, .null, .null])) := ⟨_, rfl⟩
  have hW : Wd G A js.heap (4, ad3, g_5) H locs := by rw [eg_5]; exact hW
  have hf6 : g_5 0 = .inr (8, [.ref (ad3 1), .null, .null, .null, .null]) := by rw [eg_5]; exact va_up_s
  have hf7 : g_5 1 = .inr (2, [.ref (ad3 2), .ref (ad3 3)]) := by rw [eg_5]; exact (va_up_n (by decide)).trans hs3.1
  have hf8 : g_5 2 = .inl (cy 2, 24, .inr (.inr (.inr (.inr (fun _ => none))))) := by rw [eg_5]; exact (va_up_n (by decide)).trans hs3.2.1
  have hf9 : g_5 3 = .inl (cy 0, 6, .inl (fun _ => 0)) := by rw [eg_5]; exact (va_up_n (by decide)).trans hs3.2.2
  refine lv_aload_n jx jb dX8_init_15 rfl (lv_at hl 0 rfl) ?_
  refine w_new X hW K1 cl_X8_16 inst_X1 ini_X1 (fs := [.null, .null, .int 0]) (fun j hj => by rcases (show j = 0 ∨ j = 1 ∨ j = 2 by omega) with rfl | rfl | rfl <;> rfl) (Nat.le_of_ble_eq_true rfl) (Nat.le_of_ble_eq_true rfl) dX8_init_16 (fun q10 H hW => ?_)
  obtain ⟨ad10, ea10⟩ : ∃ zz, zz = va_up ad3 4 q10 := ⟨_, rfl⟩
  obtain ⟨g_10, eg_10⟩ : ∃ zz, zz = va_up g_5 4 (.inr (1, [.null, .null, .int 0])) := ⟨_, rfl⟩
  have hW : Wd G A js.heap (5, ad10, g_10) H locs := by rw [ea10, eg_10]; exact hW
  have hq10 : ad10 4 = q10 := by rw [ea10]; exact va_up_s
  have ha10 : ∀ j_, j_ < 4 → ad10 j_ = ad3 j_ := fun j_ hj_ => by rw [ea10]; exact va_up_n (by omega)
  refine W.eq (g2 := F0 jm 19 ls [.ref (ad10 4), .ref (ad10 0)]) (by rw [hq10, ha10 0 (by omega)]) ?_
  have hl : lv_has ls 1 [(0, .ref (ad10 0))] := by rw [ha10 0 (by omega)]; exact hl
  have hf11 : g_10 0 = .inr (8, [.ref (ad10 1), .null, .null, .null, .null]) := by rw [eg_10, va_up_n (by omega), ha10 1 (by omega)]; exact hf6
  have hf12 : g_10 1 = .inr (2, [.ref (ad10 2), .ref (ad10 3)]) := by rw [eg_10, va_up_n (by omega), ha10 2 (by omega), ha10 3 (by omega)]; exact hf7
  have hf13 : g_10 2 = .inl (cy 2, 24, .inr (.inr (.inr (.inr (fun _ => none))))) := by rw [eg_10, va_up_n (by omega)]; exact hf8
  have hf14 : g_10 3 = .inl (cy 0, 6, .inl (fun _ => 0)) := by rw [eg_10, va_up_n (by omega)]; exact hf9
  have hn10 : g_10 4 = .inr (1, [.null, .null, .int 0]) := by rw [eg_10]; exact va_up_s
  refine lv_dup jx jb dX8_init_19 rfl ?_
  refine w_cINv (As := []) (b := ad10 4) X hW (c_Log_init (n := 4) (by omega) hn10) mn_X8_18 mf_X1_init ⟨Nat.le_of_ble_eq_true rfl, Nat.le_of_ble_eq_true rfl⟩ hl.1 rfl (Nat.le_of_ble_eq_true rfl) dX8_init_20 ⟨Nat.le_of_ble_eq_true rfl, Nat.le_of_ble_eq_true rfl⟩ (fun u H locs hp hW => ?_)
  obtain ⟨ad15, g_15, eu15, ha15, hs15, hg15⟩ := hp
  subst eu15
  refine W.eq (g2 := F0 jm 23 ls [.ref (ad15 4), .ref (ad15 0)]) (by rw [ha15 4 (by omega), ha15 0 (by omega)]) ?_
  have hl : lv_has ls 1 [(0, .ref (ad15 0))] := by rw [ha15 0 (by omega)]; exact hl
  have hf16 : g_15 0 = .inr (8, [.ref (ad15 1), .null, .null, .null, .null]) := by rw [hg15 0 (by omega) (by omega), ha15 1 (by omega)]; exact hf11
  have hf17 : g_15 1 = .inr (2, [.ref (ad15 2), .ref (ad15 3)]) := by rw [hg15 1 (by omega) (by omega), ha15 2 (by omega), ha15 3 (by omega)]; exact hf12
  have hf18 : g_15 2 = .inl (cy 2, 24, .inr (.inr (.inr (.inr (fun _ => none))))) := by rw [hg15 2 (by omega) (by omega)]; exact hf13
  have hf19 : g_15 3 = .inl (cy 0, 6, .inl (fun _ => 0)) := by rw [hg15 3 (by omega) (by omega)]; exact hf14
  refine w_putF X hW K8 (by omega) hf16 1 (by decide) fl_X8_19 rfl hin rfl rfl rfl (Nat.le_of_ble_eq_true rfl) dX8_init_23 (fun H locs hW => ?_)
  obtain ⟨g_20, eg_20⟩ : ∃ zz, zz = va_up g_15 0 (.inr (8, [.ref (ad15 1), .ref (ad15 4), .null, .null, .null])) := ⟨_, rfl⟩
  have hW : Wd G A js.heap (9, ad15, g_20) H locs := by rw [eg_20]; exact hW
  have hf21 : g_20 0 = .inr (8, [.ref (ad15 1), .ref (ad15 4), .null, .null, .null]) := by rw [eg_20]; exact va_up_s
  have hf22 : g_20 1 = .inr (2, [.ref (ad15 2), .ref (ad15 3)]) := by rw [eg_20]; exact (va_up_n (by decide)).trans hf17
  have hf23 : g_20 2 = .inl (cy 2, 24, .inr (.inr (.inr (.inr (fun _ => none))))) := by rw [eg_20]; exact (va_up_n (by decide)).trans hf18
  have hf24 : g_20 3 = .inl (cy 0, 6, .inl (fun _ => 0)) := by rw [eg_20]; exact (va_up_n (by decide)).trans hf19
  have hf25 : g_20 4 = .inr (1, [.ref (ad15 5), .ref (ad15 8), .int 0]) := by rw [eg_20]; exact (va_up_n (by decide)).trans hs15.2.1
  have hf26 : g_20 5 = .inr (5, [.ref (ad15 6), .ref (ad15 7), .int (nI 0)]) := by rw [eg_20]; exact (va_up_n (by decide)).trans hs15.1.2.2.2.2.2.2.2.1
  have hf27 : g_20 6 = .inl (cy 0, 200, .inl (fun _ => 0)) := by rw [eg_20]; exact (va_up_n (by decide)).trans hs15.1.2.2.2.2.2.2.2.2.1
  have hf28 : g_20 7 = .inl (cy 0, 200, .inl (fun _ => 0)) := by rw [eg_20]; exact (va_up_n (by decide)).trans hs15.1.2.2.2.2.2.2.2.2.2
  have hf29 : g_20 8 = .inl (cy 0, 200, .inl (fun _ => 0)) := by rw [eg_20]; exact (va_up_n (by decide)).trans hs15.2.2
  refine lv_aload_n jx jb dX8_init_26 rfl (lv_at hl 0 rfl) ?_
  refine w_new X hW K7 cl_X8_23 inst_X7 ini_X7 (fs := [.null, .null, .int 0]) (fun j hj => by rcases (show j = 0 ∨ j = 1 ∨ j = 2 by omega) with rfl | rfl | rfl <;> rfl) (Nat.le_of_ble_eq_true rfl) (Nat.le_of_ble_eq_true rfl) dX8_init_27 (fun q30 H hW => ?_)
  obtain ⟨ad30, ea30⟩ : ∃ zz, zz = va_up ad15 9 q30 := ⟨_, rfl⟩
  obtain ⟨g_30, eg_30⟩ : ∃ zz, zz = va_up g_20 9 (.inr (7, [.null, .null, .int 0])) := ⟨_, rfl⟩
  have hW : Wd G A js.heap (10, ad30, g_30) H locs := by rw [ea30, eg_30]; exact hW
  have hq30 : ad30 9 = q30 := by rw [ea30]; exact va_up_s
  have ha30 : ∀ j_, j_ < 9 → ad30 j_ = ad15 j_ := fun j_ hj_ => by rw [ea30]; exact va_up_n (by omega)
  refine W.eq (g2 := F0 jm 30 ls [.ref (ad30 9), .ref (ad30 0)]) (by rw [hq30, ha30 0 (by omega)]) ?_
  have hl : lv_has ls 1 [(0, .ref (ad30 0))] := by rw [ha30 0 (by omega)]; exact hl
  have hf31 : g_30 0 = .inr (8, [.ref (ad30 1), .ref (ad30 4), .null, .null, .null]) := by rw [eg_30, va_up_n (by omega), ha30 1 (by omega), ha30 4 (by omega)]; exact hf21
  have hf32 : g_30 1 = .inr (2, [.ref (ad30 2), .ref (ad30 3)]) := by rw [eg_30, va_up_n (by omega), ha30 2 (by omega), ha30 3 (by omega)]; exact hf22
  have hf33 : g_30 2 = .inl (cy 2, 24, .inr (.inr (.inr (.inr (fun _ => none))))) := by rw [eg_30, va_up_n (by omega)]; exact hf23
  have hf34 : g_30 3 = .inl (cy 0, 6, .inl (fun _ => 0)) := by rw [eg_30, va_up_n (by omega)]; exact hf24
  have hf35 : g_30 4 = .inr (1, [.ref (ad30 5), .ref (ad30 8), .int 0]) := by rw [eg_30, va_up_n (by omega), ha30 5 (by omega), ha30 8 (by omega)]; exact hf25
  have hf36 : g_30 5 = .inr (5, [.ref (ad30 6), .ref (ad30 7), .int (nI 0)]) := by rw [eg_30, va_up_n (by omega), ha30 6 (by omega), ha30 7 (by omega)]; exact hf26
  have hf37 : g_30 6 = .inl (cy 0, 200, .inl (fun _ => 0)) := by rw [eg_30, va_up_n (by omega)]; exact hf27
  have hf38 : g_30 7 = .inl (cy 0, 200, .inl (fun _ => 0)) := by rw [eg_30, va_up_n (by omega)]; exact hf28
  have hf39 : g_30 8 = .inl (cy 0, 200, .inl (fun _ => 0)) := by rw [eg_30, va_up_n (by omega)]; exact hf29
  have hn30 : g_30 9 = .inr (7, [.null, .null, .int 0]) := by rw [eg_30]; exact va_up_s
  refine lv_dup jx jb dX8_init_30 rfl ?_
  refine w_cIv (As := []) (b := ad30 9) X hW (c_Suite_init hn30) ml_X8_25 mf_X7_init ⟨Nat.le_of_ble_eq_true rfl, Nat.le_of_ble_eq_true rfl⟩ hl.1 rfl (Nat.le_of_ble_eq_true rfl) dX8_init_31 ⟨Nat.le_of_ble_eq_true rfl, Nat.le_of_ble_eq_true rfl⟩ (fun u H locs hp hW => ?_)
  obtain ⟨ad40, g_40, eu40, ha40, hs40, hg40⟩ := hp
  subst eu40
  refine W.eq (g2 := F0 jm 34 ls [.ref (ad40 9), .ref (ad40 0)]) (by rw [ha40 9 (by omega), ha40 0 (by omega)]) ?_
  have hl : lv_has ls 1 [(0, .ref (ad40 0))] := by rw [ha40 0 (by omega)]; exact hl
  have hf41 : g_40 0 = .inr (8, [.ref (ad40 1), .ref (ad40 4), .null, .null, .null]) := by rw [hg40 0 (by omega) (by omega), ha40 1 (by omega), ha40 4 (by omega)]; exact hf31
  have hf42 : g_40 1 = .inr (2, [.ref (ad40 2), .ref (ad40 3)]) := by rw [hg40 1 (by omega) (by omega), ha40 2 (by omega), ha40 3 (by omega)]; exact hf32
  have hf43 : g_40 2 = .inl (cy 2, 24, .inr (.inr (.inr (.inr (fun _ => none))))) := by rw [hg40 2 (by omega) (by omega)]; exact hf33
  have hf44 : g_40 3 = .inl (cy 0, 6, .inl (fun _ => 0)) := by rw [hg40 3 (by omega) (by omega)]; exact hf34
  have hf45 : g_40 4 = .inr (1, [.ref (ad40 5), .ref (ad40 8), .int 0]) := by rw [hg40 4 (by omega) (by omega), ha40 5 (by omega), ha40 8 (by omega)]; exact hf35
  have hf46 : g_40 5 = .inr (5, [.ref (ad40 6), .ref (ad40 7), .int (nI 0)]) := by rw [hg40 5 (by omega) (by omega), ha40 6 (by omega), ha40 7 (by omega)]; exact hf36
  have hf47 : g_40 6 = .inl (cy 0, 200, .inl (fun _ => 0)) := by rw [hg40 6 (by omega) (by omega)]; exact hf37
  have hf48 : g_40 7 = .inl (cy 0, 200, .inl (fun _ => 0)) := by rw [hg40 7 (by omega) (by omega)]; exact hf38
  have hf49 : g_40 8 = .inl (cy 0, 200, .inl (fun _ => 0)) := by rw [hg40 8 (by omega) (by omega)]; exact hf39
  refine w_putF X hW K8 (by omega) hf41 2 (by decide) fl_X8_26 rfl hin rfl rfl rfl (Nat.le_of_ble_eq_true rfl) dX8_init_34 (fun H locs hW => ?_)
  obtain ⟨g_50, eg_50⟩ : ∃ zz, zz = va_up g_40 0 (.inr (8, [.ref (ad40 1), .ref (ad40 4), .ref (ad40 9), .null, .null])) := ⟨_, rfl⟩
  have hW : Wd G A js.heap (60, ad40, g_50) H locs := by rw [eg_50]; exact hW
  have hf51 : g_50 0 = .inr (8, [.ref (ad40 1), .ref (ad40 4), .ref (ad40 9), .null, .null]) := by rw [eg_50]; exact va_up_s
  have hf52 : g_50 1 = .inr (2, [.ref (ad40 2), .ref (ad40 3)]) := by rw [eg_50]; exact (va_up_n (by decide)).trans hf42
  have hf53 : g_50 2 = .inl (cy 2, 24, .inr (.inr (.inr (.inr (fun _ => none))))) := by rw [eg_50]; exact (va_up_n (by decide)).trans hf43
  have hf54 : g_50 3 = .inl (cy 0, 6, .inl (fun _ => 0)) := by rw [eg_50]; exact (va_up_n (by decide)).trans hf44
  have hf55 : g_50 4 = .inr (1, [.ref (ad40 5), .ref (ad40 8), .int 0]) := by rw [eg_50]; exact (va_up_n (by decide)).trans hf45
  have hf56 : g_50 5 = .inr (5, [.ref (ad40 6), .ref (ad40 7), .int (nI 0)]) := by rw [eg_50]; exact (va_up_n (by decide)).trans hf46
  have hf57 : g_50 6 = .inl (cy 0, 200, .inl (fun _ => 0)) := by rw [eg_50]; exact (va_up_n (by decide)).trans hf47
  have hf58 : g_50 7 = .inl (cy 0, 200, .inl (fun _ => 0)) := by rw [eg_50]; exact (va_up_n (by decide)).trans hf48
  have hf59 : g_50 8 = .inl (cy 0, 200, .inl (fun _ => 0)) := by rw [eg_50]; exact (va_up_n (by decide)).trans hf49
  refine lv_aload_n jx jb dX8_init_37 rfl (lv_at hl 0 rfl) ?_
  refine w_new X hW K4 cl_X8_30 inst_X4 ini_X4 (fs := [.null, .null, .int 0, .int 0, .int 0]) (fun j hj => by rcases (show j = 0 ∨ j = 1 ∨ j = 2 ∨ j = 3 ∨ j = 4 by omega) with rfl | rfl | rfl | rfl | rfl <;> rfl) (Nat.le_of_ble_eq_true rfl) (Nat.le_of_ble_eq_true rfl) dX8_init_38 (fun q60 H hW => ?_)
  obtain ⟨ad60, ea60⟩ : ∃ zz, zz = va_up ad40 60 q60 := ⟨_, rfl⟩
  obtain ⟨g_60, eg_60⟩ : ∃ zz, zz = va_up g_50 60 (.inr (4, [.null, .null, .int 0, .int 0, .int 0])) := ⟨_, rfl⟩
  have hW : Wd G A js.heap (61, ad60, g_60) H locs := by rw [ea60, eg_60]; exact hW
  have hq60 : ad60 60 = q60 := by rw [ea60]; exact va_up_s
  have ha60 : ∀ j_, j_ < 60 → ad60 j_ = ad40 j_ := fun j_ hj_ => by rw [ea60]; exact va_up_n (by omega)
  refine W.eq (g2 := F0 jm 41 ls [.ref (ad60 60), .ref (ad60 0)]) (by rw [hq60, ha60 0 (by omega)]) ?_
  have hl : lv_has ls 1 [(0, .ref (ad60 0))] := by rw [ha60 0 (by omega)]; exact hl
  have hf61 : g_60 0 = .inr (8, [.ref (ad60 1), .ref (ad60 4), .ref (ad60 9), .null, .null]) := by rw [eg_60, va_up_n (by omega), ha60 1 (by omega), ha60 4 (by omega), ha60 9 (by omega)]; exact hf51
  have hf62 : g_60 1 = .inr (2, [.ref (ad60 2), .ref (ad60 3)]) := by rw [eg_60, va_up_n (by omega), ha60 2 (by omega), ha60 3 (by omega)]; exact hf52
  have hf63 : g_60 2 = .inl (cy 2, 24, .inr (.inr (.inr (.inr (fun _ => none))))) := by rw [eg_60, va_up_n (by omega)]; exact hf53
  have hf64 : g_60 3 = .inl (cy 0, 6, .inl (fun _ => 0)) := by rw [eg_60, va_up_n (by omega)]; exact hf54
  have hf65 : g_60 4 = .inr (1, [.ref (ad60 5), .ref (ad60 8), .int 0]) := by rw [eg_60, va_up_n (by omega), ha60 5 (by omega), ha60 8 (by omega)]; exact hf55
  have hf66 : g_60 5 = .inr (5, [.ref (ad60 6), .ref (ad60 7), .int (nI 0)]) := by rw [eg_60, va_up_n (by omega), ha60 6 (by omega), ha60 7 (by omega)]; exact hf56
  have hf67 : g_60 6 = .inl (cy 0, 200, .inl (fun _ => 0)) := by rw [eg_60, va_up_n (by omega)]; exact hf57
  have hf68 : g_60 7 = .inl (cy 0, 200, .inl (fun _ => 0)) := by rw [eg_60, va_up_n (by omega)]; exact hf58
  have hf69 : g_60 8 = .inl (cy 0, 200, .inl (fun _ => 0)) := by rw [eg_60, va_up_n (by omega)]; exact hf59
  have hn60 : g_60 60 = .inr (4, [.null, .null, .int 0, .int 0, .int 0]) := by rw [eg_60]; exact va_up_s
  refine lv_dup jx jb dX8_init_41 rfl ?_
  refine lv_aload_n jx jb dX8_init_42 rfl (lv_at hl 0 rfl) ?_
  refine w_get X hW K8 (by omega) hf61 0 (by decide) fl_X8_12 rfl dX8_init_43 ?_
  refine w_cIv (As := [.ref (ad60 1)]) (b := ad60 60) X hW (c_Replay_init (n := 60) (m := 1) (by omega) (by omega) hn60) ml_X8_32 mf_X4_init ⟨Nat.le_of_ble_eq_true rfl, Nat.le_of_ble_eq_true rfl⟩ hl.1 rfl (Nat.le_of_ble_eq_true rfl) dX8_init_46 ⟨Nat.le_of_ble_eq_true rfl, Nat.le_of_ble_eq_true rfl⟩ (fun u H locs hp hW => ?_)
  obtain ⟨ad70, g_70, eu70, ha70, hs70, hg70⟩ := hp
  subst eu70
  refine W.eq (g2 := F0 jm 49 ls [.ref (ad70 60), .ref (ad70 0)]) (by rw [ha70 60 (by omega), ha70 0 (by omega)]) ?_
  have hl : lv_has ls 1 [(0, .ref (ad70 0))] := by rw [ha70 0 (by omega)]; exact hl
  have hf71 : g_70 0 = .inr (8, [.ref (ad70 1), .ref (ad70 4), .ref (ad70 9), .null, .null]) := by rw [hg70 0 (by omega) (by omega), ha70 1 (by omega), ha70 4 (by omega), ha70 9 (by omega)]; exact hf61
  have hf72 : g_70 1 = .inr (2, [.ref (ad70 2), .ref (ad70 3)]) := by rw [hg70 1 (by omega) (by omega), ha70 2 (by omega), ha70 3 (by omega)]; exact hf62
  have hf73 : g_70 2 = .inl (cy 2, 24, .inr (.inr (.inr (.inr (fun _ => none))))) := by rw [hg70 2 (by omega) (by omega)]; exact hf63
  have hf74 : g_70 3 = .inl (cy 0, 6, .inl (fun _ => 0)) := by rw [hg70 3 (by omega) (by omega)]; exact hf64
  have hf75 : g_70 4 = .inr (1, [.ref (ad70 5), .ref (ad70 8), .int 0]) := by rw [hg70 4 (by omega) (by omega), ha70 5 (by omega), ha70 8 (by omega)]; exact hf65
  have hf76 : g_70 5 = .inr (5, [.ref (ad70 6), .ref (ad70 7), .int (nI 0)]) := by rw [hg70 5 (by omega) (by omega), ha70 6 (by omega), ha70 7 (by omega)]; exact hf66
  have hf77 : g_70 6 = .inl (cy 0, 200, .inl (fun _ => 0)) := by rw [hg70 6 (by omega) (by omega)]; exact hf67
  have hf78 : g_70 7 = .inl (cy 0, 200, .inl (fun _ => 0)) := by rw [hg70 7 (by omega) (by omega)]; exact hf68
  have hf79 : g_70 8 = .inl (cy 0, 200, .inl (fun _ => 0)) := by rw [hg70 8 (by omega) (by omega)]; exact hf69
  refine w_putF X hW K8 (by omega) hf71 3 (by decide) fl_X8_35 rfl hin rfl rfl rfl (Nat.le_of_ble_eq_true rfl) dX8_init_49 (fun H locs hW => ?_)
  obtain ⟨g_80, eg_80⟩ : ∃ zz, zz = va_up g_70 0 (.inr (8, [.ref (ad70 1), .ref (ad70 4), .ref (ad70 9), .ref (ad70 60), .null])) := ⟨_, rfl⟩
  have hW : Wd G A js.heap (62, ad70, g_80) H locs := by rw [eg_80]; exact hW
  have hf81 : g_80 0 = .inr (8, [.ref (ad70 1), .ref (ad70 4), .ref (ad70 9), .ref (ad70 60), .null]) := by rw [eg_80]; exact va_up_s
  have hf82 : g_80 1 = .inr (2, [.ref (ad70 2), .ref (ad70 3)]) := by rw [eg_80]; exact (va_up_n (by decide)).trans hf72
  have hf83 : g_80 2 = .inl (cy 2, 24, .inr (.inr (.inr (.inr (fun _ => none))))) := by rw [eg_80]; exact (va_up_n (by decide)).trans hf73
  have hf84 : g_80 3 = .inl (cy 0, 6, .inl (fun _ => 0)) := by rw [eg_80]; exact (va_up_n (by decide)).trans hf74
  have hf85 : g_80 4 = .inr (1, [.ref (ad70 5), .ref (ad70 8), .int 0]) := by rw [eg_80]; exact (va_up_n (by decide)).trans hf75
  have hf86 : g_80 5 = .inr (5, [.ref (ad70 6), .ref (ad70 7), .int (nI 0)]) := by rw [eg_80]; exact (va_up_n (by decide)).trans hf76
  have hf87 : g_80 6 = .inl (cy 0, 200, .inl (fun _ => 0)) := by rw [eg_80]; exact (va_up_n (by decide)).trans hf77
  have hf88 : g_80 7 = .inl (cy 0, 200, .inl (fun _ => 0)) := by rw [eg_80]; exact (va_up_n (by decide)).trans hf78
  have hf89 : g_80 8 = .inl (cy 0, 200, .inl (fun _ => 0)) := by rw [eg_80]; exact (va_up_n (by decide)).trans hf79
  have hf90 : g_80 60 = .inr (4, [.ref (ad70 1), .ref (ad70 61), .int 0, .int 0, .int (-1)]) := by rw [eg_80]; exact (va_up_n (by decide)).trans hs70.1
  have hf91 : g_80 61 = .inl (cy 0, 200, .inl (fun _ => 0)) := by rw [eg_80]; exact (va_up_n (by decide)).trans hs70.2
  refine lv_aload_n jx jb dX8_init_52 rfl (lv_at hl 0 rfl) ?_
  refine w_new X hW K6 cl_X8_39 inst_X6 ini_X6 (fs := [.null, .int 0, .int 0]) (fun j hj => by rcases (show j = 0 ∨ j = 1 ∨ j = 2 by omega) with rfl | rfl | rfl <;> rfl) (Nat.le_of_ble_eq_true rfl) (Nat.le_of_ble_eq_true rfl) dX8_init_53 (fun q92 H hW => ?_)
  obtain ⟨ad92, ea92⟩ : ∃ zz, zz = va_up ad70 62 q92 := ⟨_, rfl⟩
  obtain ⟨g_92, eg_92⟩ : ∃ zz, zz = va_up g_80 62 (.inr (6, [.null, .int 0, .int 0])) := ⟨_, rfl⟩
  have hW : Wd G A js.heap (63, ad92, g_92) H locs := by rw [ea92, eg_92]; exact hW
  have hq92 : ad92 62 = q92 := by rw [ea92]; exact va_up_s
  have ha92 : ∀ j_, j_ < 62 → ad92 j_ = ad70 j_ := fun j_ hj_ => by rw [ea92]; exact va_up_n (by omega)
  refine W.eq (g2 := F0 jm 56 ls [.ref (ad92 62), .ref (ad92 0)]) (by rw [hq92, ha92 0 (by omega)]) ?_
  have hl : lv_has ls 1 [(0, .ref (ad92 0))] := by rw [ha92 0 (by omega)]; exact hl
  have hf93 : g_92 0 = .inr (8, [.ref (ad92 1), .ref (ad92 4), .ref (ad92 9), .ref (ad92 60), .null]) := by rw [eg_92, va_up_n (by omega), ha92 1 (by omega), ha92 4 (by omega), ha92 9 (by omega), ha92 60 (by omega)]; exact hf81
  have hf94 : g_92 1 = .inr (2, [.ref (ad92 2), .ref (ad92 3)]) := by rw [eg_92, va_up_n (by omega), ha92 2 (by omega), ha92 3 (by omega)]; exact hf82
  have hf95 : g_92 2 = .inl (cy 2, 24, .inr (.inr (.inr (.inr (fun _ => none))))) := by rw [eg_92, va_up_n (by omega)]; exact hf83
  have hf96 : g_92 3 = .inl (cy 0, 6, .inl (fun _ => 0)) := by rw [eg_92, va_up_n (by omega)]; exact hf84
  have hf97 : g_92 4 = .inr (1, [.ref (ad92 5), .ref (ad92 8), .int 0]) := by rw [eg_92, va_up_n (by omega), ha92 5 (by omega), ha92 8 (by omega)]; exact hf85
  have hf98 : g_92 5 = .inr (5, [.ref (ad92 6), .ref (ad92 7), .int (nI 0)]) := by rw [eg_92, va_up_n (by omega), ha92 6 (by omega), ha92 7 (by omega)]; exact hf86
  have hf99 : g_92 6 = .inl (cy 0, 200, .inl (fun _ => 0)) := by rw [eg_92, va_up_n (by omega)]; exact hf87
  have hf100 : g_92 7 = .inl (cy 0, 200, .inl (fun _ => 0)) := by rw [eg_92, va_up_n (by omega)]; exact hf88
  have hf101 : g_92 8 = .inl (cy 0, 200, .inl (fun _ => 0)) := by rw [eg_92, va_up_n (by omega)]; exact hf89
  have hf102 : g_92 60 = .inr (4, [.ref (ad92 1), .ref (ad92 61), .int 0, .int 0, .int (-1)]) := by rw [eg_92, va_up_n (by omega), ha92 1 (by omega), ha92 61 (by omega)]; exact hf90
  have hf103 : g_92 61 = .inl (cy 0, 200, .inl (fun _ => 0)) := by rw [eg_92, va_up_n (by omega)]; exact hf91
  have hn92 : g_92 62 = .inr (6, [.null, .int 0, .int 0]) := by rw [eg_92]; exact va_up_s
  refine lv_dup jx jb dX8_init_56 rfl ?_
  refine lv_aload_n jx jb dX8_init_57 rfl (lv_at hl 0 rfl) ?_
  refine w_get X hW K8 (by omega) hf93 0 (by decide) fl_X8_12 rfl dX8_init_58 ?_
  refine w_nIv (As := [.ref (ad92 1)]) X hW (c_Shortener_init (n := 62) (m := 1) (by omega) hn92) ml_X8_41 mf_X6_init ⟨Nat.le_of_ble_eq_true rfl, Nat.le_of_ble_eq_true rfl⟩ hl.1 rfl (Nat.le_of_ble_eq_true rfl) ⟨Nat.le_of_ble_eq_true rfl, Nat.le_of_ble_eq_true rfl⟩ dX8_init_61 (fun gc H locs hp hW => ?_)
  obtain ⟨hc62, cfr⟩ := hp
  have hf104 : gc 0 = .inr (8, [.ref (ad92 1), .ref (ad92 4), .ref (ad92 9), .ref (ad92 60), .null]) := (cfr 0 (by simp only [List.mem_cons, List.not_mem_nil, or_false, not_or] <;> omega)).trans hf93
  have hf105 : gc 1 = .inr (2, [.ref (ad92 2), .ref (ad92 3)]) := (cfr 1 (by simp only [List.mem_cons, List.not_mem_nil, or_false, not_or] <;> omega)).trans hf94
  have hf106 : gc 2 = .inl (cy 2, 24, .inr (.inr (.inr (.inr (fun _ => none))))) := (cfr 2 (by simp only [List.mem_cons, List.not_mem_nil, or_false, not_or] <;> omega)).trans hf95
  have hf107 : gc 3 = .inl (cy 0, 6, .inl (fun _ => 0)) := (cfr 3 (by simp only [List.mem_cons, List.not_mem_nil, or_false, not_or] <;> omega)).trans hf96
  have hf108 : gc 4 = .inr (1, [.ref (ad92 5), .ref (ad92 8), .int 0]) := (cfr 4 (by simp only [List.mem_cons, List.not_mem_nil, or_false, not_or] <;> omega)).trans hf97
  have hf109 : gc 5 = .inr (5, [.ref (ad92 6), .ref (ad92 7), .int (nI 0)]) := (cfr 5 (by simp only [List.mem_cons, List.not_mem_nil, or_false, not_or] <;> omega)).trans hf98
  have hf110 : gc 6 = .inl (cy 0, 200, .inl (fun _ => 0)) := (cfr 6 (by simp only [List.mem_cons, List.not_mem_nil, or_false, not_or] <;> omega)).trans hf99
  have hf111 : gc 7 = .inl (cy 0, 200, .inl (fun _ => 0)) := (cfr 7 (by simp only [List.mem_cons, List.not_mem_nil, or_false, not_or] <;> omega)).trans hf100
  have hf112 : gc 8 = .inl (cy 0, 200, .inl (fun _ => 0)) := (cfr 8 (by simp only [List.mem_cons, List.not_mem_nil, or_false, not_or] <;> omega)).trans hf101
  have hf113 : gc 60 = .inr (4, [.ref (ad92 1), .ref (ad92 61), .int 0, .int 0, .int (-1)]) := (cfr 60 (by simp only [List.mem_cons, List.not_mem_nil, or_false, not_or] <;> omega)).trans hf102
  have hf114 : gc 61 = .inl (cy 0, 200, .inl (fun _ => 0)) := (cfr 61 (by simp only [List.mem_cons, List.not_mem_nil, or_false, not_or] <;> omega)).trans hf103
  refine w_putF X hW K8 (by omega) hf104 4 (by decide) fl_X8_42 rfl hin rfl rfl rfl (Nat.le_of_ble_eq_true rfl) dX8_init_64 (fun H locs hW => ?_)
  obtain ⟨g_115, eg_115⟩ : ∃ zz, zz = va_up gc 0 (.inr (8, [.ref (ad92 1), .ref (ad92 4), .ref (ad92 9), .ref (ad92 60), .ref (ad92 62)])) := ⟨_, rfl⟩
  have hW : Wd G A js.heap (63, ad92, g_115) H locs := by rw [eg_115]; exact hW
  have hf116 : g_115 0 = .inr (8, [.ref (ad92 1), .ref (ad92 4), .ref (ad92 9), .ref (ad92 60), .ref (ad92 62)]) := by rw [eg_115]; exact va_up_s
  have hf117 : g_115 1 = .inr (2, [.ref (ad92 2), .ref (ad92 3)]) := by rw [eg_115]; exact (va_up_n (by decide)).trans hf105
  have hf118 : g_115 2 = .inl (cy 2, 24, .inr (.inr (.inr (.inr (fun _ => none))))) := by rw [eg_115]; exact (va_up_n (by decide)).trans hf106
  have hf119 : g_115 3 = .inl (cy 0, 6, .inl (fun _ => 0)) := by rw [eg_115]; exact (va_up_n (by decide)).trans hf107
  have hf120 : g_115 4 = .inr (1, [.ref (ad92 5), .ref (ad92 8), .int 0]) := by rw [eg_115]; exact (va_up_n (by decide)).trans hf108
  have hf121 : g_115 5 = .inr (5, [.ref (ad92 6), .ref (ad92 7), .int (nI 0)]) := by rw [eg_115]; exact (va_up_n (by decide)).trans hf109
  have hf122 : g_115 6 = .inl (cy 0, 200, .inl (fun _ => 0)) := by rw [eg_115]; exact (va_up_n (by decide)).trans hf110
  have hf123 : g_115 7 = .inl (cy 0, 200, .inl (fun _ => 0)) := by rw [eg_115]; exact (va_up_n (by decide)).trans hf111
  have hf124 : g_115 8 = .inl (cy 0, 200, .inl (fun _ => 0)) := by rw [eg_115]; exact (va_up_n (by decide)).trans hf112
  have hf125 : g_115 60 = .inr (4, [.ref (ad92 1), .ref (ad92 61), .int 0, .int 0, .int (-1)]) := by rw [eg_115]; exact (va_up_n (by decide)).trans hf113
  have hf126 : g_115 61 = .inl (cy 0, 200, .inl (fun _ => 0)) := by rw [eg_115]; exact (va_up_n (by decide)).trans hf114
  have hf127 : g_115 62 = .inr (6, [.ref (ad92 1), .int (-1), .int (-1)]) := by rw [eg_115]; exact (va_up_n (by decide)).trans hc62
  exact ret _ _ _ _ _ dX8_init_67 hW ⟨_, _, rfl, (fun k hk => by rw [ha92 k (by omega), ha70 k (by omega), ha60 k (by omega), ha40 k (by omega), ha30 k (by omega), ha15 k (by omega), ha10 k (by omega), ha3 k (by omega), ha1 k (by omega)]), ⟨hf116, ⟨hf117, hf118, hf119⟩, ⟨⟨by decide, by decide, by decide, by decide, by decide, by decide, by decide, hf121, hf122, hf123⟩, hf120, hf124⟩, hs40.grow (by decide) (fun k hk => by rw [ha92 k (by omega), ha70 k (by omega), ha60 k (by omega)]) (fun k h1 h2 => by show g_115 k = _; rw [eg_115, va_up_n (by omega), cfr k (by simp only [List.mem_cons, List.not_mem_nil, or_false, not_or]; omega), eg_92, va_up_n (by omega), eg_80, va_up_n (by omega), hg70 k (by omega) (by omega), eg_60, va_up_n (by omega), eg_50, va_up_n (by omega)]), ⟨hf125, hf126⟩, hf127⟩⟩

set_option maxHeartbeats 4000000 in
set_option maxRecDepth 100000 in
theorem c_mInit {l : Launch} {G : va_G} {cy : Nat → ClassId} {ad : Nat → Nat} {g : Nat → va_E} (hg : g 63 = .inr (9, [.null, .null, .null, .null, .int 0, .null, .null, .null, .null, .null, .int 0, .null, .null, .null, .null, .null, .null, .null, .null, .int 0, .null, .null])) : MV l G cy (64, ad, g) yX9_init cX9_init 1 none (rmA 1 19 8346) [.ref (ad 63)] (fun u => ∃ ad1 g1, u = (83, ad1, g1) ∧ (∀ k, k < 64 → ad1 k = ad k) ∧ MRaw cy 83 ad1 g1 (fun _ _ => 0) 0 0 0 ∧ ∀ k, k < 64 → k ≠ 63 → g1 k = g k) := by
  refine MV.mk (by decide) (Nat.le_of_ble_eq_true rfl) ?_
  intro jp je js jm below meth jc A Q hin X hW ret ls hl
  have jx := X.hx
  have jb := X.hb
  have hl : lv_has ls 1 [(0, .ref (ad 63))] := hl
  have X : Cx G cy jp js jm _ jc cX9_init 1 RX9 A js.heap := X
  generalize hlocs0 : ([] : List Loc) = locs at hW ⊢
  refine lv_aload_n jx jb dX9_init_0 rfl (lv_at hl 0 rfl) ?_
  refine W.objInit jx jb X.1.2.2.2.1 (X.ht ml_X9_1) (X.ht im_objectInit) (X.ht co_objectInit) rfl (by rw [X.1.2.2.1]; exact hl.1) rfl dX9_init_1 (Nat.le_of_ble_eq_true rfl) (Nat.le_of_ble_eq_true rfl) ?_
  refine W.eq (g2 := F0 jm 4 ls []) rfl ?_
  refine lv_aload_n jx jb dX9_init_4 rfl (lv_at hl 0 rfl) ?_
  refine lv_bipush (v := 6) jx jb dX9_init_5 (by decide) ?_
  refine w_newi X hW (k := 6) (len := 6) (by decide) (by decide) (by decide) (Nat.le_of_ble_eq_true rfl) (Nat.le_of_ble_eq_true rfl) dX9_init_7 (fun q1 H hW => ?_)
  obtain ⟨ad1, ea1⟩ : ∃ zz, zz = va_up ad 64 q1 := ⟨_, rfl⟩
  obtain ⟨g_1, eg_1⟩ : ∃ zz, zz = va_up g 64 (.inl (cy 0, 6, .inl (fun _ => 0))) := ⟨_, rfl⟩
  have hW : Wd G A js.heap (65, ad1, g_1) H locs := by rw [ea1, eg_1]; exact hW
  have hq1 : ad1 64 = q1 := by rw [ea1]; exact va_up_s
  have ha1 : ∀ j_, j_ < 64 → ad1 j_ = ad j_ := fun j_ hj_ => by rw [ea1]; exact va_up_n (by omega)
  refine W.eq (g2 := F0 jm 9 ls [.ref (ad1 64), .ref (ad1 63)]) (by rw [hq1, ha1 63 (by omega)]) ?_
  have hl : lv_has ls 1 [(0, .ref (ad1 63))] := by rw [ha1 63 (by omega)]; exact hl
  have hf2 : g_1 63 = .inr (9, [.null, .null, .null, .null, .int 0, .null, .null, .null, .null, .null, .int 0, .null, .null, .null, .null, .null, .null, .null, .null, .int 0, .null, .null]) := by rw [eg_1, va_up_n (by omega)]; exact hg
  have hn1 : g_1 64 = .inl (cy 0, 6, .inl (fun _ => 0)) := by rw [eg_1]; exact va_up_s
  refine w_putF X hW K9 (by omega) hf2 0 (by decide) fl_X9_9 rfl hin rfl rfl rfl (Nat.le_of_ble_eq_true rfl) dX9_init_9 (fun H locs hW => ?_)
  obtain ⟨g_3, eg_3⟩ : ∃ zz, zz = va_up g_1 63 (.inr (9, [.ref (ad1 64), .null, .null, .null, .int 0, .null, .null, .null, .null, .null, .int 0, .null, .null, .null, .null, .null, .null, .null, .null, .int 0, .null, .null])) := ⟨_, rfl⟩
  have hW : Wd G A js.heap (65, ad1, g_3) H locs := by rw [eg_3]; exact hW
  have hf4 : g_3 63 = .inr (9, [.ref (ad1 64), .null, .null, .null, .int 0, .null, .null, .null, .null, .null, .int 0, .null, .null, .null, .null, .null, .null, .null, .null, .int 0, .null, .null]) := by rw [eg_3]; exact va_up_s
  have hf5 : g_3 64 = .inl (cy 0, 6, .inl (fun _ => 0)) := by rw [eg_3]; exact (va_up_n (by decide)).trans hn1
  refine lv_aload_n jx jb dX9_init_12 rfl (lv_at hl 0 rfl) ?_
  refine lv_bipush (v := 24) jx jb dX9_init_13 (by decide) ?_
  refine w_newi X hW (k := 24) (len := 24) (by decide) (by decide) (by decide) (Nat.le_of_ble_eq_true rfl) (Nat.le_of_ble_eq_true rfl) dX9_init_15 (fun q6 H hW => ?_)
  obtain ⟨ad6, ea6⟩ : ∃ zz, zz = va_up ad1 65 q6 := ⟨_, rfl⟩
  obtain ⟨g_6, eg_6⟩ : ∃ zz, zz = va_up g_3 65 (.inl (cy 0, 24, .inl (fun _ => 0))) := ⟨_, rfl⟩
  have hW : Wd G A js.heap (66, ad6, g_6) H locs := by rw [ea6, eg_6]; exact hW
  have hq6 : ad6 65 = q6 := by rw [ea6]; exact va_up_s
  have ha6 : ∀ j_, j_ < 65 → ad6 j_ = ad1 j_ := fun j_ hj_ => by rw [ea6]; exact va_up_n (by omega)
  refine W.eq (g2 := F0 jm 17 ls [.ref (ad6 65), .ref (ad6 63)]) (by rw [hq6, ha6 63 (by omega)]) ?_
  have hl : lv_has ls 1 [(0, .ref (ad6 63))] := by rw [ha6 63 (by omega)]; exact hl
  have hf7 : g_6 63 = .inr (9, [.ref (ad6 64), .null, .null, .null, .int 0, .null, .null, .null, .null, .null, .int 0, .null, .null, .null, .null, .null, .null, .null, .null, .int 0, .null, .null]) := by rw [eg_6, va_up_n (by omega), ha6 64 (by omega)]; exact hf4
  have hf8 : g_6 64 = .inl (cy 0, 6, .inl (fun _ => 0)) := by rw [eg_6, va_up_n (by omega)]; exact hf5
  have hn6 : g_6 65 = .inl (cy 0, 24, .inl (fun _ => 0)) := by rw [eg_6]; exact va_up_s
  refine w_putF X hW K9 (by omega) hf7 1 (by decide) fl_X9_13 rfl hin rfl rfl rfl (Nat.le_of_ble_eq_true rfl) dX9_init_17 (fun H locs hW => ?_)
  obtain ⟨g_9, eg_9⟩ : ∃ zz, zz = va_up g_6 63 (.inr (9, [.ref (ad6 64), .ref (ad6 65), .null, .null, .int 0, .null, .null, .null, .null, .null, .int 0, .null, .null, .null, .null, .null, .null, .null, .null, .int 0, .null, .null])) := ⟨_, rfl⟩
  have hW : Wd G A js.heap (66, ad6, g_9) H locs := by rw [eg_9]; exact hW
  have hf10 : g_9 63 = .inr (9, [.ref (ad6 64), .ref (ad6 65), .null, .null, .int 0, .null, .null, .null, .null, .null, .int 0, .null, .null, .null, .null, .null, .null, .null, .null, .int 0, .null, .null]) := by rw [eg_9]; exact va_up_s
  have hf11 : g_9 64 = .inl (cy 0, 6, .inl (fun _ => 0)) := by rw [eg_9]; exact (va_up_n (by decide)).trans hf8
  have hf12 : g_9 65 = .inl (cy 0, 24, .inl (fun _ => 0)) := by rw [eg_9]; exact (va_up_n (by decide)).trans hn6
  refine lv_aload_n jx jb dX9_init_20 rfl (lv_at hl 0 rfl) ?_
  refine lv_bipush (v := 24) jx jb dX9_init_21 (by decide) ?_
  refine w_newi X hW (k := 24) (len := 24) (by decide) (by decide) (by decide) (Nat.le_of_ble_eq_true rfl) (Nat.le_of_ble_eq_true rfl) dX9_init_23 (fun q13 H hW => ?_)
  obtain ⟨ad13, ea13⟩ : ∃ zz, zz = va_up ad6 66 q13 := ⟨_, rfl⟩
  obtain ⟨g_13, eg_13⟩ : ∃ zz, zz = va_up g_9 66 (.inl (cy 0, 24, .inl (fun _ => 0))) := ⟨_, rfl⟩
  have hW : Wd G A js.heap (67, ad13, g_13) H locs := by rw [ea13, eg_13]; exact hW
  have hq13 : ad13 66 = q13 := by rw [ea13]; exact va_up_s
  have ha13 : ∀ j_, j_ < 66 → ad13 j_ = ad6 j_ := fun j_ hj_ => by rw [ea13]; exact va_up_n (by omega)
  refine W.eq (g2 := F0 jm 25 ls [.ref (ad13 66), .ref (ad13 63)]) (by rw [hq13, ha13 63 (by omega)]) ?_
  have hl : lv_has ls 1 [(0, .ref (ad13 63))] := by rw [ha13 63 (by omega)]; exact hl
  have hf14 : g_13 63 = .inr (9, [.ref (ad13 64), .ref (ad13 65), .null, .null, .int 0, .null, .null, .null, .null, .null, .int 0, .null, .null, .null, .null, .null, .null, .null, .null, .int 0, .null, .null]) := by rw [eg_13, va_up_n (by omega), ha13 64 (by omega), ha13 65 (by omega)]; exact hf10
  have hf15 : g_13 64 = .inl (cy 0, 6, .inl (fun _ => 0)) := by rw [eg_13, va_up_n (by omega)]; exact hf11
  have hf16 : g_13 65 = .inl (cy 0, 24, .inl (fun _ => 0)) := by rw [eg_13, va_up_n (by omega)]; exact hf12
  have hn13 : g_13 66 = .inl (cy 0, 24, .inl (fun _ => 0)) := by rw [eg_13]; exact va_up_s
  refine w_putF X hW K9 (by omega) hf14 2 (by decide) fl_X9_16 rfl hin rfl rfl rfl (Nat.le_of_ble_eq_true rfl) dX9_init_25 (fun H locs hW => ?_)
  obtain ⟨g_17, eg_17⟩ : ∃ zz, zz = va_up g_13 63 (.inr (9, [.ref (ad13 64), .ref (ad13 65), .ref (ad13 66), .null, .int 0, .null, .null, .null, .null, .null, .int 0, .null, .null, .null, .null, .null, .null, .null, .null, .int 0, .null, .null])) := ⟨_, rfl⟩
  have hW : Wd G A js.heap (67, ad13, g_17) H locs := by rw [eg_17]; exact hW
  have hf18 : g_17 63 = .inr (9, [.ref (ad13 64), .ref (ad13 65), .ref (ad13 66), .null, .int 0, .null, .null, .null, .null, .null, .int 0, .null, .null, .null, .null, .null, .null, .null, .null, .int 0, .null, .null]) := by rw [eg_17]; exact va_up_s
  have hf19 : g_17 64 = .inl (cy 0, 6, .inl (fun _ => 0)) := by rw [eg_17]; exact (va_up_n (by decide)).trans hf15
  have hf20 : g_17 65 = .inl (cy 0, 24, .inl (fun _ => 0)) := by rw [eg_17]; exact (va_up_n (by decide)).trans hf16
  have hf21 : g_17 66 = .inl (cy 0, 24, .inl (fun _ => 0)) := by rw [eg_17]; exact (va_up_n (by decide)).trans hn13
  refine lv_aload_n jx jb dX9_init_28 rfl (lv_at hl 0 rfl) ?_
  refine lv_bipush (v := 24) jx jb dX9_init_29 (by decide) ?_
  refine w_newi X hW (k := 24) (len := 24) (by decide) (by decide) (by decide) (Nat.le_of_ble_eq_true rfl) (Nat.le_of_ble_eq_true rfl) dX9_init_31 (fun q22 H hW => ?_)
  obtain ⟨ad22, ea22⟩ : ∃ zz, zz = va_up ad13 67 q22 := ⟨_, rfl⟩
  obtain ⟨g_22, eg_22⟩ : ∃ zz, zz = va_up g_17 67 (.inl (cy 0, 24, .inl (fun _ => 0))) := ⟨_, rfl⟩
  have hW : Wd G A js.heap (68, ad22, g_22) H locs := by rw [ea22, eg_22]; exact hW
  have hq22 : ad22 67 = q22 := by rw [ea22]; exact va_up_s
  have ha22 : ∀ j_, j_ < 67 → ad22 j_ = ad13 j_ := fun j_ hj_ => by rw [ea22]; exact va_up_n (by omega)
  refine W.eq (g2 := F0 jm 33 ls [.ref (ad22 67), .ref (ad22 63)]) (by rw [hq22, ha22 63 (by omega)]) ?_
  have hl : lv_has ls 1 [(0, .ref (ad22 63))] := by rw [ha22 63 (by omega)]; exact hl
  have hf23 : g_22 63 = .inr (9, [.ref (ad22 64), .ref (ad22 65), .ref (ad22 66), .null, .int 0, .null, .null, .null, .null, .null, .int 0, .null, .null, .null, .null, .null, .null, .null, .null, .int 0, .null, .null]) := by rw [eg_22, va_up_n (by omega), ha22 64 (by omega), ha22 65 (by omega), ha22 66 (by omega)]; exact hf18
  have hf24 : g_22 64 = .inl (cy 0, 6, .inl (fun _ => 0)) := by rw [eg_22, va_up_n (by omega)]; exact hf19
  have hf25 : g_22 65 = .inl (cy 0, 24, .inl (fun _ => 0)) := by rw [eg_22, va_up_n (by omega)]; exact hf20
  have hf26 : g_22 66 = .inl (cy 0, 24, .inl (fun _ => 0)) := by rw [eg_22, va_up_n (by omega)]; exact hf21
  have hn22 : g_22 67 = .inl (cy 0, 24, .inl (fun _ => 0)) := by rw [eg_22]; exact va_up_s
  refine w_putF X hW K9 (by omega) hf23 3 (by decide) fl_X9_19 rfl hin rfl rfl rfl (Nat.le_of_ble_eq_true rfl) dX9_init_33 (fun H locs hW => ?_)
  obtain ⟨g_27, eg_27⟩ : ∃ zz, zz = va_up g_22 63 (.inr (9, [.ref (ad22 64), .ref (ad22 65), .ref (ad22 66), .ref (ad22 67), .int 0, .null, .null, .null, .null, .null, .int 0, .null, .null, .null, .null, .null, .null, .null, .null, .int 0, .null, .null])) := ⟨_, rfl⟩
  have hW : Wd G A js.heap (68, ad22, g_27) H locs := by rw [eg_27]; exact hW
  have hf28 : g_27 63 = .inr (9, [.ref (ad22 64), .ref (ad22 65), .ref (ad22 66), .ref (ad22 67), .int 0, .null, .null, .null, .null, .null, .int 0, .null, .null, .null, .null, .null, .null, .null, .null, .int 0, .null, .null]) := by rw [eg_27]; exact va_up_s
  have hf29 : g_27 64 = .inl (cy 0, 6, .inl (fun _ => 0)) := by rw [eg_27]; exact (va_up_n (by decide)).trans hf24
  have hf30 : g_27 65 = .inl (cy 0, 24, .inl (fun _ => 0)) := by rw [eg_27]; exact (va_up_n (by decide)).trans hf25
  have hf31 : g_27 66 = .inl (cy 0, 24, .inl (fun _ => 0)) := by rw [eg_27]; exact (va_up_n (by decide)).trans hf26
  have hf32 : g_27 67 = .inl (cy 0, 24, .inl (fun _ => 0)) := by rw [eg_27]; exact (va_up_n (by decide)).trans hn22
  refine lv_aload_n jx jb dX9_init_36 rfl (lv_at hl 0 rfl) ?_
  refine lv_sipush (v := 200) jx jb dX9_init_37 (by decide) ?_
  refine w_newi X hW (k := 200) (len := 200) (by decide) (by decide) (by decide) (Nat.le_of_ble_eq_true rfl) (Nat.le_of_ble_eq_true rfl) dX9_init_40 (fun q33 H hW => ?_)
  obtain ⟨ad33, ea33⟩ : ∃ zz, zz = va_up ad22 68 q33 := ⟨_, rfl⟩
  obtain ⟨g_33, eg_33⟩ : ∃ zz, zz = va_up g_27 68 (.inl (cy 0, 200, .inl (fun _ => 0))) := ⟨_, rfl⟩
  have hW : Wd G A js.heap (69, ad33, g_33) H locs := by rw [ea33, eg_33]; exact hW
  have hq33 : ad33 68 = q33 := by rw [ea33]; exact va_up_s
  have ha33 : ∀ j_, j_ < 68 → ad33 j_ = ad22 j_ := fun j_ hj_ => by rw [ea33]; exact va_up_n (by omega)
  refine W.eq (g2 := F0 jm 42 ls [.ref (ad33 68), .ref (ad33 63)]) (by rw [hq33, ha33 63 (by omega)]) ?_
  have hl : lv_has ls 1 [(0, .ref (ad33 63))] := by rw [ha33 63 (by omega)]; exact hl
  have hf34 : g_33 63 = .inr (9, [.ref (ad33 64), .ref (ad33 65), .ref (ad33 66), .ref (ad33 67), .int 0, .null, .null, .null, .null, .null, .int 0, .null, .null, .null, .null, .null, .null, .null, .null, .int 0, .null, .null]) := by rw [eg_33, va_up_n (by omega), ha33 64 (by omega), ha33 65 (by omega), ha33 66 (by omega), ha33 67 (by omega)]; exact hf28
  have hf35 : g_33 64 = .inl (cy 0, 6, .inl (fun _ => 0)) := by rw [eg_33, va_up_n (by omega)]; exact hf29
  have hf36 : g_33 65 = .inl (cy 0, 24, .inl (fun _ => 0)) := by rw [eg_33, va_up_n (by omega)]; exact hf30
  have hf37 : g_33 66 = .inl (cy 0, 24, .inl (fun _ => 0)) := by rw [eg_33, va_up_n (by omega)]; exact hf31
  have hf38 : g_33 67 = .inl (cy 0, 24, .inl (fun _ => 0)) := by rw [eg_33, va_up_n (by omega)]; exact hf32
  have hn33 : g_33 68 = .inl (cy 0, 200, .inl (fun _ => 0)) := by rw [eg_33]; exact va_up_s
  refine w_putF X hW K9 (by omega) hf34 5 (by decide) fl_X9_22 rfl hin rfl rfl rfl (Nat.le_of_ble_eq_true rfl) dX9_init_42 (fun H locs hW => ?_)
  obtain ⟨g_39, eg_39⟩ : ∃ zz, zz = va_up g_33 63 (.inr (9, [.ref (ad33 64), .ref (ad33 65), .ref (ad33 66), .ref (ad33 67), .int 0, .ref (ad33 68), .null, .null, .null, .null, .int 0, .null, .null, .null, .null, .null, .null, .null, .null, .int 0, .null, .null])) := ⟨_, rfl⟩
  have hW : Wd G A js.heap (69, ad33, g_39) H locs := by rw [eg_39]; exact hW
  have hf40 : g_39 63 = .inr (9, [.ref (ad33 64), .ref (ad33 65), .ref (ad33 66), .ref (ad33 67), .int 0, .ref (ad33 68), .null, .null, .null, .null, .int 0, .null, .null, .null, .null, .null, .null, .null, .null, .int 0, .null, .null]) := by rw [eg_39]; exact va_up_s
  have hf41 : g_39 64 = .inl (cy 0, 6, .inl (fun _ => 0)) := by rw [eg_39]; exact (va_up_n (by decide)).trans hf35
  have hf42 : g_39 65 = .inl (cy 0, 24, .inl (fun _ => 0)) := by rw [eg_39]; exact (va_up_n (by decide)).trans hf36
  have hf43 : g_39 66 = .inl (cy 0, 24, .inl (fun _ => 0)) := by rw [eg_39]; exact (va_up_n (by decide)).trans hf37
  have hf44 : g_39 67 = .inl (cy 0, 24, .inl (fun _ => 0)) := by rw [eg_39]; exact (va_up_n (by decide)).trans hf38
  have hf45 : g_39 68 = .inl (cy 0, 200, .inl (fun _ => 0)) := by rw [eg_39]; exact (va_up_n (by decide)).trans hn33
  refine lv_aload_n jx jb dX9_init_45 rfl (lv_at hl 0 rfl) ?_
  refine lv_sipush (v := 200) jx jb dX9_init_46 (by decide) ?_
  refine w_newi X hW (k := 200) (len := 200) (by decide) (by decide) (by decide) (Nat.le_of_ble_eq_true rfl) (Nat.le_of_ble_eq_true rfl) dX9_init_49 (fun q46 H hW => ?_)
  obtain ⟨ad46, ea46⟩ : ∃ zz, zz = va_up ad33 69 q46 := ⟨_, rfl⟩
  obtain ⟨g_46, eg_46⟩ : ∃ zz, zz = va_up g_39 69 (.inl (cy 0, 200, .inl (fun _ => 0))) := ⟨_, rfl⟩
  have hW : Wd G A js.heap (70, ad46, g_46) H locs := by rw [ea46, eg_46]; exact hW
  have hq46 : ad46 69 = q46 := by rw [ea46]; exact va_up_s
  have ha46 : ∀ j_, j_ < 69 → ad46 j_ = ad33 j_ := fun j_ hj_ => by rw [ea46]; exact va_up_n (by omega)
  refine W.eq (g2 := F0 jm 51 ls [.ref (ad46 69), .ref (ad46 63)]) (by rw [hq46, ha46 63 (by omega)]) ?_
  have hl : lv_has ls 1 [(0, .ref (ad46 63))] := by rw [ha46 63 (by omega)]; exact hl
  have hf47 : g_46 63 = .inr (9, [.ref (ad46 64), .ref (ad46 65), .ref (ad46 66), .ref (ad46 67), .int 0, .ref (ad46 68), .null, .null, .null, .null, .int 0, .null, .null, .null, .null, .null, .null, .null, .null, .int 0, .null, .null]) := by rw [eg_46, va_up_n (by omega), ha46 64 (by omega), ha46 65 (by omega), ha46 66 (by omega), ha46 67 (by omega), ha46 68 (by omega)]; exact hf40
  have hf48 : g_46 64 = .inl (cy 0, 6, .inl (fun _ => 0)) := by rw [eg_46, va_up_n (by omega)]; exact hf41
  have hf49 : g_46 65 = .inl (cy 0, 24, .inl (fun _ => 0)) := by rw [eg_46, va_up_n (by omega)]; exact hf42
  have hf50 : g_46 66 = .inl (cy 0, 24, .inl (fun _ => 0)) := by rw [eg_46, va_up_n (by omega)]; exact hf43
  have hf51 : g_46 67 = .inl (cy 0, 24, .inl (fun _ => 0)) := by rw [eg_46, va_up_n (by omega)]; exact hf44
  have hf52 : g_46 68 = .inl (cy 0, 200, .inl (fun _ => 0)) := by rw [eg_46, va_up_n (by omega)]; exact hf45
  have hn46 : g_46 69 = .inl (cy 0, 200, .inl (fun _ => 0)) := by rw [eg_46]; exact va_up_s
  refine w_putF X hW K9 (by omega) hf47 6 (by decide) fl_X9_25 rfl hin rfl rfl rfl (Nat.le_of_ble_eq_true rfl) dX9_init_51 (fun H locs hW => ?_)
  obtain ⟨g_53, eg_53⟩ : ∃ zz, zz = va_up g_46 63 (.inr (9, [.ref (ad46 64), .ref (ad46 65), .ref (ad46 66), .ref (ad46 67), .int 0, .ref (ad46 68), .ref (ad46 69), .null, .null, .null, .int 0, .null, .null, .null, .null, .null, .null, .null, .null, .int 0, .null, .null])) := ⟨_, rfl⟩
  have hW : Wd G A js.heap (70, ad46, g_53) H locs := by rw [eg_53]; exact hW
  have hf54 : g_53 63 = .inr (9, [.ref (ad46 64), .ref (ad46 65), .ref (ad46 66), .ref (ad46 67), .int 0, .ref (ad46 68), .ref (ad46 69), .null, .null, .null, .int 0, .null, .null, .null, .null, .null, .null, .null, .null, .int 0, .null, .null]) := by rw [eg_53]; exact va_up_s
  have hf55 : g_53 64 = .inl (cy 0, 6, .inl (fun _ => 0)) := by rw [eg_53]; exact (va_up_n (by decide)).trans hf48
  have hf56 : g_53 65 = .inl (cy 0, 24, .inl (fun _ => 0)) := by rw [eg_53]; exact (va_up_n (by decide)).trans hf49
  have hf57 : g_53 66 = .inl (cy 0, 24, .inl (fun _ => 0)) := by rw [eg_53]; exact (va_up_n (by decide)).trans hf50
  have hf58 : g_53 67 = .inl (cy 0, 24, .inl (fun _ => 0)) := by rw [eg_53]; exact (va_up_n (by decide)).trans hf51
  have hf59 : g_53 68 = .inl (cy 0, 200, .inl (fun _ => 0)) := by rw [eg_53]; exact (va_up_n (by decide)).trans hf52
  have hf60 : g_53 69 = .inl (cy 0, 200, .inl (fun _ => 0)) := by rw [eg_53]; exact (va_up_n (by decide)).trans hn46
  refine lv_aload_n jx jb dX9_init_54 rfl (lv_at hl 0 rfl) ?_
  refine lv_sipush (v := 200) jx jb dX9_init_55 (by decide) ?_
  refine w_newi X hW (k := 200) (len := 200) (by decide) (by decide) (by decide) (Nat.le_of_ble_eq_true rfl) (Nat.le_of_ble_eq_true rfl) dX9_init_58 (fun q61 H hW => ?_)
  obtain ⟨ad61, ea61⟩ : ∃ zz, zz = va_up ad46 70 q61 := ⟨_, rfl⟩
  obtain ⟨g_61, eg_61⟩ : ∃ zz, zz = va_up g_53 70 (.inl (cy 0, 200, .inl (fun _ => 0))) := ⟨_, rfl⟩
  have hW : Wd G A js.heap (71, ad61, g_61) H locs := by rw [ea61, eg_61]; exact hW
  have hq61 : ad61 70 = q61 := by rw [ea61]; exact va_up_s
  have ha61 : ∀ j_, j_ < 70 → ad61 j_ = ad46 j_ := fun j_ hj_ => by rw [ea61]; exact va_up_n (by omega)
  refine W.eq (g2 := F0 jm 60 ls [.ref (ad61 70), .ref (ad61 63)]) (by rw [hq61, ha61 63 (by omega)]) ?_
  have hl : lv_has ls 1 [(0, .ref (ad61 63))] := by rw [ha61 63 (by omega)]; exact hl
  have hf62 : g_61 63 = .inr (9, [.ref (ad61 64), .ref (ad61 65), .ref (ad61 66), .ref (ad61 67), .int 0, .ref (ad61 68), .ref (ad61 69), .null, .null, .null, .int 0, .null, .null, .null, .null, .null, .null, .null, .null, .int 0, .null, .null]) := by rw [eg_61, va_up_n (by omega), ha61 64 (by omega), ha61 65 (by omega), ha61 66 (by omega), ha61 67 (by omega), ha61 68 (by omega), ha61 69 (by omega)]; exact hf54
  have hf63 : g_61 64 = .inl (cy 0, 6, .inl (fun _ => 0)) := by rw [eg_61, va_up_n (by omega)]; exact hf55
  have hf64 : g_61 65 = .inl (cy 0, 24, .inl (fun _ => 0)) := by rw [eg_61, va_up_n (by omega)]; exact hf56
  have hf65 : g_61 66 = .inl (cy 0, 24, .inl (fun _ => 0)) := by rw [eg_61, va_up_n (by omega)]; exact hf57
  have hf66 : g_61 67 = .inl (cy 0, 24, .inl (fun _ => 0)) := by rw [eg_61, va_up_n (by omega)]; exact hf58
  have hf67 : g_61 68 = .inl (cy 0, 200, .inl (fun _ => 0)) := by rw [eg_61, va_up_n (by omega)]; exact hf59
  have hf68 : g_61 69 = .inl (cy 0, 200, .inl (fun _ => 0)) := by rw [eg_61, va_up_n (by omega)]; exact hf60
  have hn61 : g_61 70 = .inl (cy 0, 200, .inl (fun _ => 0)) := by rw [eg_61]; exact va_up_s
  refine w_putF X hW K9 (by omega) hf62 7 (by decide) fl_X9_28 rfl hin rfl rfl rfl (Nat.le_of_ble_eq_true rfl) dX9_init_60 (fun H locs hW => ?_)
  obtain ⟨g_69, eg_69⟩ : ∃ zz, zz = va_up g_61 63 (.inr (9, [.ref (ad61 64), .ref (ad61 65), .ref (ad61 66), .ref (ad61 67), .int 0, .ref (ad61 68), .ref (ad61 69), .ref (ad61 70), .null, .null, .int 0, .null, .null, .null, .null, .null, .null, .null, .null, .int 0, .null, .null])) := ⟨_, rfl⟩
  have hW : Wd G A js.heap (71, ad61, g_69) H locs := by rw [eg_69]; exact hW
  have hf70 : g_69 63 = .inr (9, [.ref (ad61 64), .ref (ad61 65), .ref (ad61 66), .ref (ad61 67), .int 0, .ref (ad61 68), .ref (ad61 69), .ref (ad61 70), .null, .null, .int 0, .null, .null, .null, .null, .null, .null, .null, .null, .int 0, .null, .null]) := by rw [eg_69]; exact va_up_s
  have hf71 : g_69 64 = .inl (cy 0, 6, .inl (fun _ => 0)) := by rw [eg_69]; exact (va_up_n (by decide)).trans hf63
  have hf72 : g_69 65 = .inl (cy 0, 24, .inl (fun _ => 0)) := by rw [eg_69]; exact (va_up_n (by decide)).trans hf64
  have hf73 : g_69 66 = .inl (cy 0, 24, .inl (fun _ => 0)) := by rw [eg_69]; exact (va_up_n (by decide)).trans hf65
  have hf74 : g_69 67 = .inl (cy 0, 24, .inl (fun _ => 0)) := by rw [eg_69]; exact (va_up_n (by decide)).trans hf66
  have hf75 : g_69 68 = .inl (cy 0, 200, .inl (fun _ => 0)) := by rw [eg_69]; exact (va_up_n (by decide)).trans hf67
  have hf76 : g_69 69 = .inl (cy 0, 200, .inl (fun _ => 0)) := by rw [eg_69]; exact (va_up_n (by decide)).trans hf68
  have hf77 : g_69 70 = .inl (cy 0, 200, .inl (fun _ => 0)) := by rw [eg_69]; exact (va_up_n (by decide)).trans hn61
  refine lv_aload_n jx jb dX9_init_63 rfl (lv_at hl 0 rfl) ?_
  refine lv_sipush (v := 200) jx jb dX9_init_64 (by decide) ?_
  refine w_newi X hW (k := 200) (len := 200) (by decide) (by decide) (by decide) (Nat.le_of_ble_eq_true rfl) (Nat.le_of_ble_eq_true rfl) dX9_init_67 (fun q78 H hW => ?_)
  obtain ⟨ad78, ea78⟩ : ∃ zz, zz = va_up ad61 71 q78 := ⟨_, rfl⟩
  obtain ⟨g_78, eg_78⟩ : ∃ zz, zz = va_up g_69 71 (.inl (cy 0, 200, .inl (fun _ => 0))) := ⟨_, rfl⟩
  have hW : Wd G A js.heap (72, ad78, g_78) H locs := by rw [ea78, eg_78]; exact hW
  have hq78 : ad78 71 = q78 := by rw [ea78]; exact va_up_s
  have ha78 : ∀ j_, j_ < 71 → ad78 j_ = ad61 j_ := fun j_ hj_ => by rw [ea78]; exact va_up_n (by omega)
  refine W.eq (g2 := F0 jm 69 ls [.ref (ad78 71), .ref (ad78 63)]) (by rw [hq78, ha78 63 (by omega)]) ?_
  have hl : lv_has ls 1 [(0, .ref (ad78 63))] := by rw [ha78 63 (by omega)]; exact hl
  have hf79 : g_78 63 = .inr (9, [.ref (ad78 64), .ref (ad78 65), .ref (ad78 66), .ref (ad78 67), .int 0, .ref (ad78 68), .ref (ad78 69), .ref (ad78 70), .null, .null, .int 0, .null, .null, .null, .null, .null, .null, .null, .null, .int 0, .null, .null]) := by rw [eg_78, va_up_n (by omega), ha78 64 (by omega), ha78 65 (by omega), ha78 66 (by omega), ha78 67 (by omega), ha78 68 (by omega), ha78 69 (by omega), ha78 70 (by omega)]; exact hf70
  have hf80 : g_78 64 = .inl (cy 0, 6, .inl (fun _ => 0)) := by rw [eg_78, va_up_n (by omega)]; exact hf71
  have hf81 : g_78 65 = .inl (cy 0, 24, .inl (fun _ => 0)) := by rw [eg_78, va_up_n (by omega)]; exact hf72
  have hf82 : g_78 66 = .inl (cy 0, 24, .inl (fun _ => 0)) := by rw [eg_78, va_up_n (by omega)]; exact hf73
  have hf83 : g_78 67 = .inl (cy 0, 24, .inl (fun _ => 0)) := by rw [eg_78, va_up_n (by omega)]; exact hf74
  have hf84 : g_78 68 = .inl (cy 0, 200, .inl (fun _ => 0)) := by rw [eg_78, va_up_n (by omega)]; exact hf75
  have hf85 : g_78 69 = .inl (cy 0, 200, .inl (fun _ => 0)) := by rw [eg_78, va_up_n (by omega)]; exact hf76
  have hf86 : g_78 70 = .inl (cy 0, 200, .inl (fun _ => 0)) := by rw [eg_78, va_up_n (by omega)]; exact hf77
  have hn78 : g_78 71 = .inl (cy 0, 200, .inl (fun _ => 0)) := by rw [eg_78]; exact va_up_s
  refine w_putF X hW K9 (by omega) hf79 8 (by decide) fl_X9_31 rfl hin rfl rfl rfl (Nat.le_of_ble_eq_true rfl) dX9_init_69 (fun H locs hW => ?_)
  obtain ⟨g_87, eg_87⟩ : ∃ zz, zz = va_up g_78 63 (.inr (9, [.ref (ad78 64), .ref (ad78 65), .ref (ad78 66), .ref (ad78 67), .int 0, .ref (ad78 68), .ref (ad78 69), .ref (ad78 70), .ref (ad78 71), .null, .int 0, .null, .null, .null, .null, .null, .null, .null, .null, .int 0, .null, .null])) := ⟨_, rfl⟩
  have hW : Wd G A js.heap (72, ad78, g_87) H locs := by rw [eg_87]; exact hW
  have hf88 : g_87 63 = .inr (9, [.ref (ad78 64), .ref (ad78 65), .ref (ad78 66), .ref (ad78 67), .int 0, .ref (ad78 68), .ref (ad78 69), .ref (ad78 70), .ref (ad78 71), .null, .int 0, .null, .null, .null, .null, .null, .null, .null, .null, .int 0, .null, .null]) := by rw [eg_87]; exact va_up_s
  have hf89 : g_87 64 = .inl (cy 0, 6, .inl (fun _ => 0)) := by rw [eg_87]; exact (va_up_n (by decide)).trans hf80
  have hf90 : g_87 65 = .inl (cy 0, 24, .inl (fun _ => 0)) := by rw [eg_87]; exact (va_up_n (by decide)).trans hf81
  have hf91 : g_87 66 = .inl (cy 0, 24, .inl (fun _ => 0)) := by rw [eg_87]; exact (va_up_n (by decide)).trans hf82
  have hf92 : g_87 67 = .inl (cy 0, 24, .inl (fun _ => 0)) := by rw [eg_87]; exact (va_up_n (by decide)).trans hf83
  have hf93 : g_87 68 = .inl (cy 0, 200, .inl (fun _ => 0)) := by rw [eg_87]; exact (va_up_n (by decide)).trans hf84
  have hf94 : g_87 69 = .inl (cy 0, 200, .inl (fun _ => 0)) := by rw [eg_87]; exact (va_up_n (by decide)).trans hf85
  have hf95 : g_87 70 = .inl (cy 0, 200, .inl (fun _ => 0)) := by rw [eg_87]; exact (va_up_n (by decide)).trans hf86
  have hf96 : g_87 71 = .inl (cy 0, 200, .inl (fun _ => 0)) := by rw [eg_87]; exact (va_up_n (by decide)).trans hn78
  refine lv_aload_n jx jb dX9_init_72 rfl (lv_at hl 0 rfl) ?_
  refine lv_iconst (v := 4) jx jb dX9_init_73 (by decide) ?_
  refine w_newi X hW (k := 4) (len := 4) (by decide) (by decide) (by decide) (Nat.le_of_ble_eq_true rfl) (Nat.le_of_ble_eq_true rfl) dX9_init_74 (fun q97 H hW => ?_)
  obtain ⟨ad97, ea97⟩ : ∃ zz, zz = va_up ad78 72 q97 := ⟨_, rfl⟩
  obtain ⟨g_97, eg_97⟩ : ∃ zz, zz = va_up g_87 72 (.inl (cy 0, 4, .inl (fun _ => 0))) := ⟨_, rfl⟩
  have hW : Wd G A js.heap (73, ad97, g_97) H locs := by rw [ea97, eg_97]; exact hW
  have hq97 : ad97 72 = q97 := by rw [ea97]; exact va_up_s
  have ha97 : ∀ j_, j_ < 72 → ad97 j_ = ad78 j_ := fun j_ hj_ => by rw [ea97]; exact va_up_n (by omega)
  refine W.eq (g2 := F0 jm 76 ls [.ref (ad97 72), .ref (ad97 63)]) (by rw [hq97, ha97 63 (by omega)]) ?_
  have hl : lv_has ls 1 [(0, .ref (ad97 63))] := by rw [ha97 63 (by omega)]; exact hl
  have hf98 : g_97 63 = .inr (9, [.ref (ad97 64), .ref (ad97 65), .ref (ad97 66), .ref (ad97 67), .int 0, .ref (ad97 68), .ref (ad97 69), .ref (ad97 70), .ref (ad97 71), .null, .int 0, .null, .null, .null, .null, .null, .null, .null, .null, .int 0, .null, .null]) := by rw [eg_97, va_up_n (by omega), ha97 64 (by omega), ha97 65 (by omega), ha97 66 (by omega), ha97 67 (by omega), ha97 68 (by omega), ha97 69 (by omega), ha97 70 (by omega), ha97 71 (by omega)]; exact hf88
  have hf99 : g_97 64 = .inl (cy 0, 6, .inl (fun _ => 0)) := by rw [eg_97, va_up_n (by omega)]; exact hf89
  have hf100 : g_97 65 = .inl (cy 0, 24, .inl (fun _ => 0)) := by rw [eg_97, va_up_n (by omega)]; exact hf90
  have hf101 : g_97 66 = .inl (cy 0, 24, .inl (fun _ => 0)) := by rw [eg_97, va_up_n (by omega)]; exact hf91
  have hf102 : g_97 67 = .inl (cy 0, 24, .inl (fun _ => 0)) := by rw [eg_97, va_up_n (by omega)]; exact hf92
  have hf103 : g_97 68 = .inl (cy 0, 200, .inl (fun _ => 0)) := by rw [eg_97, va_up_n (by omega)]; exact hf93
  have hf104 : g_97 69 = .inl (cy 0, 200, .inl (fun _ => 0)) := by rw [eg_97, va_up_n (by omega)]; exact hf94
  have hf105 : g_97 70 = .inl (cy 0, 200, .inl (fun _ => 0)) := by rw [eg_97, va_up_n (by omega)]; exact hf95
  have hf106 : g_97 71 = .inl (cy 0, 200, .inl (fun _ => 0)) := by rw [eg_97, va_up_n (by omega)]; exact hf96
  have hn97 : g_97 72 = .inl (cy 0, 4, .inl (fun _ => 0)) := by rw [eg_97]; exact va_up_s
  refine w_putF X hW K9 (by omega) hf98 9 (by decide) fl_X9_34 rfl hin rfl rfl rfl (Nat.le_of_ble_eq_true rfl) dX9_init_76 (fun H locs hW => ?_)
  obtain ⟨g_107, eg_107⟩ : ∃ zz, zz = va_up g_97 63 (.inr (9, [.ref (ad97 64), .ref (ad97 65), .ref (ad97 66), .ref (ad97 67), .int 0, .ref (ad97 68), .ref (ad97 69), .ref (ad97 70), .ref (ad97 71), .ref (ad97 72), .int 0, .null, .null, .null, .null, .null, .null, .null, .null, .int 0, .null, .null])) := ⟨_, rfl⟩
  have hW : Wd G A js.heap (73, ad97, g_107) H locs := by rw [eg_107]; exact hW
  have hf108 : g_107 63 = .inr (9, [.ref (ad97 64), .ref (ad97 65), .ref (ad97 66), .ref (ad97 67), .int 0, .ref (ad97 68), .ref (ad97 69), .ref (ad97 70), .ref (ad97 71), .ref (ad97 72), .int 0, .null, .null, .null, .null, .null, .null, .null, .null, .int 0, .null, .null]) := by rw [eg_107]; exact va_up_s
  have hf109 : g_107 64 = .inl (cy 0, 6, .inl (fun _ => 0)) := by rw [eg_107]; exact (va_up_n (by decide)).trans hf99
  have hf110 : g_107 65 = .inl (cy 0, 24, .inl (fun _ => 0)) := by rw [eg_107]; exact (va_up_n (by decide)).trans hf100
  have hf111 : g_107 66 = .inl (cy 0, 24, .inl (fun _ => 0)) := by rw [eg_107]; exact (va_up_n (by decide)).trans hf101
  have hf112 : g_107 67 = .inl (cy 0, 24, .inl (fun _ => 0)) := by rw [eg_107]; exact (va_up_n (by decide)).trans hf102
  have hf113 : g_107 68 = .inl (cy 0, 200, .inl (fun _ => 0)) := by rw [eg_107]; exact (va_up_n (by decide)).trans hf103
  have hf114 : g_107 69 = .inl (cy 0, 200, .inl (fun _ => 0)) := by rw [eg_107]; exact (va_up_n (by decide)).trans hf104
  have hf115 : g_107 70 = .inl (cy 0, 200, .inl (fun _ => 0)) := by rw [eg_107]; exact (va_up_n (by decide)).trans hf105
  have hf116 : g_107 71 = .inl (cy 0, 200, .inl (fun _ => 0)) := by rw [eg_107]; exact (va_up_n (by decide)).trans hf106
  have hf117 : g_107 72 = .inl (cy 0, 4, .inl (fun _ => 0)) := by rw [eg_107]; exact (va_up_n (by decide)).trans hn97
  refine lv_aload_n jx jb dX9_init_79 rfl (lv_at hl 0 rfl) ?_
  refine lv_bipush (v := 12) jx jb dX9_init_80 (by decide) ?_
  refine w_newi X hW (k := 12) (len := 12) (by decide) (by decide) (by decide) (Nat.le_of_ble_eq_true rfl) (Nat.le_of_ble_eq_true rfl) dX9_init_82 (fun q118 H hW => ?_)
  obtain ⟨ad118, ea118⟩ : ∃ zz, zz = va_up ad97 73 q118 := ⟨_, rfl⟩
  obtain ⟨g_118, eg_118⟩ : ∃ zz, zz = va_up g_107 73 (.inl (cy 0, 12, .inl (fun _ => 0))) := ⟨_, rfl⟩
  have hW : Wd G A js.heap (74, ad118, g_118) H locs := by rw [ea118, eg_118]; exact hW
  have hq118 : ad118 73 = q118 := by rw [ea118]; exact va_up_s
  have ha118 : ∀ j_, j_ < 73 → ad118 j_ = ad97 j_ := fun j_ hj_ => by rw [ea118]; exact va_up_n (by omega)
  refine W.eq (g2 := F0 jm 84 ls [.ref (ad118 73), .ref (ad118 63)]) (by rw [hq118, ha118 63 (by omega)]) ?_
  have hl : lv_has ls 1 [(0, .ref (ad118 63))] := by rw [ha118 63 (by omega)]; exact hl
  have hf119 : g_118 63 = .inr (9, [.ref (ad118 64), .ref (ad118 65), .ref (ad118 66), .ref (ad118 67), .int 0, .ref (ad118 68), .ref (ad118 69), .ref (ad118 70), .ref (ad118 71), .ref (ad118 72), .int 0, .null, .null, .null, .null, .null, .null, .null, .null, .int 0, .null, .null]) := by rw [eg_118, va_up_n (by omega), ha118 64 (by omega), ha118 65 (by omega), ha118 66 (by omega), ha118 67 (by omega), ha118 68 (by omega), ha118 69 (by omega), ha118 70 (by omega), ha118 71 (by omega), ha118 72 (by omega)]; exact hf108
  have hf120 : g_118 64 = .inl (cy 0, 6, .inl (fun _ => 0)) := by rw [eg_118, va_up_n (by omega)]; exact hf109
  have hf121 : g_118 65 = .inl (cy 0, 24, .inl (fun _ => 0)) := by rw [eg_118, va_up_n (by omega)]; exact hf110
  have hf122 : g_118 66 = .inl (cy 0, 24, .inl (fun _ => 0)) := by rw [eg_118, va_up_n (by omega)]; exact hf111
  have hf123 : g_118 67 = .inl (cy 0, 24, .inl (fun _ => 0)) := by rw [eg_118, va_up_n (by omega)]; exact hf112
  have hf124 : g_118 68 = .inl (cy 0, 200, .inl (fun _ => 0)) := by rw [eg_118, va_up_n (by omega)]; exact hf113
  have hf125 : g_118 69 = .inl (cy 0, 200, .inl (fun _ => 0)) := by rw [eg_118, va_up_n (by omega)]; exact hf114
  have hf126 : g_118 70 = .inl (cy 0, 200, .inl (fun _ => 0)) := by rw [eg_118, va_up_n (by omega)]; exact hf115
  have hf127 : g_118 71 = .inl (cy 0, 200, .inl (fun _ => 0)) := by rw [eg_118, va_up_n (by omega)]; exact hf116
  have hf128 : g_118 72 = .inl (cy 0, 4, .inl (fun _ => 0)) := by rw [eg_118, va_up_n (by omega)]; exact hf117
  have hn118 : g_118 73 = .inl (cy 0, 12, .inl (fun _ => 0)) := by rw [eg_118]; exact va_up_s
  refine w_putF X hW K9 (by omega) hf119 11 (by decide) fl_X9_37 rfl hin rfl rfl rfl (Nat.le_of_ble_eq_true rfl) dX9_init_84 (fun H locs hW => ?_)
  obtain ⟨g_129, eg_129⟩ : ∃ zz, zz = va_up g_118 63 (.inr (9, [.ref (ad118 64), .ref (ad118 65), .ref (ad118 66), .ref (ad118 67), .int 0, .ref (ad118 68), .ref (ad118 69), .ref (ad118 70), .ref (ad118 71), .ref (ad118 72), .int 0, .ref (ad118 73), .null, .null, .null, .null, .null, .null, .null, .int 0, .null, .null])) := ⟨_, rfl⟩
  have hW : Wd G A js.heap (74, ad118, g_129) H locs := by rw [eg_129]; exact hW
  have hf130 : g_129 63 = .inr (9, [.ref (ad118 64), .ref (ad118 65), .ref (ad118 66), .ref (ad118 67), .int 0, .ref (ad118 68), .ref (ad118 69), .ref (ad118 70), .ref (ad118 71), .ref (ad118 72), .int 0, .ref (ad118 73), .null, .null, .null, .null, .null, .null, .null, .int 0, .null, .null]) := by rw [eg_129]; exact va_up_s
  have hf131 : g_129 64 = .inl (cy 0, 6, .inl (fun _ => 0)) := by rw [eg_129]; exact (va_up_n (by decide)).trans hf120
  have hf132 : g_129 65 = .inl (cy 0, 24, .inl (fun _ => 0)) := by rw [eg_129]; exact (va_up_n (by decide)).trans hf121
  have hf133 : g_129 66 = .inl (cy 0, 24, .inl (fun _ => 0)) := by rw [eg_129]; exact (va_up_n (by decide)).trans hf122
  have hf134 : g_129 67 = .inl (cy 0, 24, .inl (fun _ => 0)) := by rw [eg_129]; exact (va_up_n (by decide)).trans hf123
  have hf135 : g_129 68 = .inl (cy 0, 200, .inl (fun _ => 0)) := by rw [eg_129]; exact (va_up_n (by decide)).trans hf124
  have hf136 : g_129 69 = .inl (cy 0, 200, .inl (fun _ => 0)) := by rw [eg_129]; exact (va_up_n (by decide)).trans hf125
  have hf137 : g_129 70 = .inl (cy 0, 200, .inl (fun _ => 0)) := by rw [eg_129]; exact (va_up_n (by decide)).trans hf126
  have hf138 : g_129 71 = .inl (cy 0, 200, .inl (fun _ => 0)) := by rw [eg_129]; exact (va_up_n (by decide)).trans hf127
  have hf139 : g_129 72 = .inl (cy 0, 4, .inl (fun _ => 0)) := by rw [eg_129]; exact (va_up_n (by decide)).trans hf128
  have hf140 : g_129 73 = .inl (cy 0, 12, .inl (fun _ => 0)) := by rw [eg_129]; exact (va_up_n (by decide)).trans hn118
  refine lv_aload_n jx jb dX9_init_87 rfl (lv_at hl 0 rfl) ?_
  refine lv_sipush (v := 2400) jx jb dX9_init_88 (by decide) ?_
  refine w_newi X hW (k := 2400) (len := 2400) (by decide) (by decide) (by decide) (Nat.le_of_ble_eq_true rfl) (Nat.le_of_ble_eq_true rfl) dX9_init_91 (fun q141 H hW => ?_)
  obtain ⟨ad141, ea141⟩ : ∃ zz, zz = va_up ad118 74 q141 := ⟨_, rfl⟩
  obtain ⟨g_141, eg_141⟩ : ∃ zz, zz = va_up g_129 74 (.inl (cy 0, 2400, .inl (fun _ => 0))) := ⟨_, rfl⟩
  have hW : Wd G A js.heap (75, ad141, g_141) H locs := by rw [ea141, eg_141]; exact hW
  have hq141 : ad141 74 = q141 := by rw [ea141]; exact va_up_s
  have ha141 : ∀ j_, j_ < 74 → ad141 j_ = ad118 j_ := fun j_ hj_ => by rw [ea141]; exact va_up_n (by omega)
  refine W.eq (g2 := F0 jm 93 ls [.ref (ad141 74), .ref (ad141 63)]) (by rw [hq141, ha141 63 (by omega)]) ?_
  have hl : lv_has ls 1 [(0, .ref (ad141 63))] := by rw [ha141 63 (by omega)]; exact hl
  have hf142 : g_141 63 = .inr (9, [.ref (ad141 64), .ref (ad141 65), .ref (ad141 66), .ref (ad141 67), .int 0, .ref (ad141 68), .ref (ad141 69), .ref (ad141 70), .ref (ad141 71), .ref (ad141 72), .int 0, .ref (ad141 73), .null, .null, .null, .null, .null, .null, .null, .int 0, .null, .null]) := by rw [eg_141, va_up_n (by omega), ha141 64 (by omega), ha141 65 (by omega), ha141 66 (by omega), ha141 67 (by omega), ha141 68 (by omega), ha141 69 (by omega), ha141 70 (by omega), ha141 71 (by omega), ha141 72 (by omega), ha141 73 (by omega)]; exact hf130
  have hf143 : g_141 64 = .inl (cy 0, 6, .inl (fun _ => 0)) := by rw [eg_141, va_up_n (by omega)]; exact hf131
  have hf144 : g_141 65 = .inl (cy 0, 24, .inl (fun _ => 0)) := by rw [eg_141, va_up_n (by omega)]; exact hf132
  have hf145 : g_141 66 = .inl (cy 0, 24, .inl (fun _ => 0)) := by rw [eg_141, va_up_n (by omega)]; exact hf133
  have hf146 : g_141 67 = .inl (cy 0, 24, .inl (fun _ => 0)) := by rw [eg_141, va_up_n (by omega)]; exact hf134
  have hf147 : g_141 68 = .inl (cy 0, 200, .inl (fun _ => 0)) := by rw [eg_141, va_up_n (by omega)]; exact hf135
  have hf148 : g_141 69 = .inl (cy 0, 200, .inl (fun _ => 0)) := by rw [eg_141, va_up_n (by omega)]; exact hf136
  have hf149 : g_141 70 = .inl (cy 0, 200, .inl (fun _ => 0)) := by rw [eg_141, va_up_n (by omega)]; exact hf137
  have hf150 : g_141 71 = .inl (cy 0, 200, .inl (fun _ => 0)) := by rw [eg_141, va_up_n (by omega)]; exact hf138
  have hf151 : g_141 72 = .inl (cy 0, 4, .inl (fun _ => 0)) := by rw [eg_141, va_up_n (by omega)]; exact hf139
  have hf152 : g_141 73 = .inl (cy 0, 12, .inl (fun _ => 0)) := by rw [eg_141, va_up_n (by omega)]; exact hf140
  have hn141 : g_141 74 = .inl (cy 0, 2400, .inl (fun _ => 0)) := by rw [eg_141]; exact va_up_s
  refine w_putF X hW K9 (by omega) hf142 12 (by decide) fl_X9_40 rfl hin rfl rfl rfl (Nat.le_of_ble_eq_true rfl) dX9_init_93 (fun H locs hW => ?_)
  obtain ⟨g_153, eg_153⟩ : ∃ zz, zz = va_up g_141 63 (.inr (9, [.ref (ad141 64), .ref (ad141 65), .ref (ad141 66), .ref (ad141 67), .int 0, .ref (ad141 68), .ref (ad141 69), .ref (ad141 70), .ref (ad141 71), .ref (ad141 72), .int 0, .ref (ad141 73), .ref (ad141 74), .null, .null, .null, .null, .null, .null, .int 0, .null, .null])) := ⟨_, rfl⟩
  have hW : Wd G A js.heap (75, ad141, g_153) H locs := by rw [eg_153]; exact hW
  have hf154 : g_153 63 = .inr (9, [.ref (ad141 64), .ref (ad141 65), .ref (ad141 66), .ref (ad141 67), .int 0, .ref (ad141 68), .ref (ad141 69), .ref (ad141 70), .ref (ad141 71), .ref (ad141 72), .int 0, .ref (ad141 73), .ref (ad141 74), .null, .null, .null, .null, .null, .null, .int 0, .null, .null]) := by rw [eg_153]; exact va_up_s
  have hf155 : g_153 64 = .inl (cy 0, 6, .inl (fun _ => 0)) := by rw [eg_153]; exact (va_up_n (by decide)).trans hf143
  have hf156 : g_153 65 = .inl (cy 0, 24, .inl (fun _ => 0)) := by rw [eg_153]; exact (va_up_n (by decide)).trans hf144
  have hf157 : g_153 66 = .inl (cy 0, 24, .inl (fun _ => 0)) := by rw [eg_153]; exact (va_up_n (by decide)).trans hf145
  have hf158 : g_153 67 = .inl (cy 0, 24, .inl (fun _ => 0)) := by rw [eg_153]; exact (va_up_n (by decide)).trans hf146
  have hf159 : g_153 68 = .inl (cy 0, 200, .inl (fun _ => 0)) := by rw [eg_153]; exact (va_up_n (by decide)).trans hf147
  have hf160 : g_153 69 = .inl (cy 0, 200, .inl (fun _ => 0)) := by rw [eg_153]; exact (va_up_n (by decide)).trans hf148
  have hf161 : g_153 70 = .inl (cy 0, 200, .inl (fun _ => 0)) := by rw [eg_153]; exact (va_up_n (by decide)).trans hf149
  have hf162 : g_153 71 = .inl (cy 0, 200, .inl (fun _ => 0)) := by rw [eg_153]; exact (va_up_n (by decide)).trans hf150
  have hf163 : g_153 72 = .inl (cy 0, 4, .inl (fun _ => 0)) := by rw [eg_153]; exact (va_up_n (by decide)).trans hf151
  have hf164 : g_153 73 = .inl (cy 0, 12, .inl (fun _ => 0)) := by rw [eg_153]; exact (va_up_n (by decide)).trans hf152
  have hf165 : g_153 74 = .inl (cy 0, 2400, .inl (fun _ => 0)) := by rw [eg_153]; exact (va_up_n (by decide)).trans hn141
  refine lv_aload_n jx jb dX9_init_96 rfl (lv_at hl 0 rfl) ?_
  refine lv_sipush (v := 2400) jx jb dX9_init_97 (by decide) ?_
  refine w_newi X hW (k := 2400) (len := 2400) (by decide) (by decide) (by decide) (Nat.le_of_ble_eq_true rfl) (Nat.le_of_ble_eq_true rfl) dX9_init_100 (fun q166 H hW => ?_)
  obtain ⟨ad166, ea166⟩ : ∃ zz, zz = va_up ad141 75 q166 := ⟨_, rfl⟩
  obtain ⟨g_166, eg_166⟩ : ∃ zz, zz = va_up g_153 75 (.inl (cy 0, 2400, .inl (fun _ => 0))) := ⟨_, rfl⟩
  have hW : Wd G A js.heap (76, ad166, g_166) H locs := by rw [ea166, eg_166]; exact hW
  have hq166 : ad166 75 = q166 := by rw [ea166]; exact va_up_s
  have ha166 : ∀ j_, j_ < 75 → ad166 j_ = ad141 j_ := fun j_ hj_ => by rw [ea166]; exact va_up_n (by omega)
  refine W.eq (g2 := F0 jm 102 ls [.ref (ad166 75), .ref (ad166 63)]) (by rw [hq166, ha166 63 (by omega)]) ?_
  have hl : lv_has ls 1 [(0, .ref (ad166 63))] := by rw [ha166 63 (by omega)]; exact hl
  have hf167 : g_166 63 = .inr (9, [.ref (ad166 64), .ref (ad166 65), .ref (ad166 66), .ref (ad166 67), .int 0, .ref (ad166 68), .ref (ad166 69), .ref (ad166 70), .ref (ad166 71), .ref (ad166 72), .int 0, .ref (ad166 73), .ref (ad166 74), .null, .null, .null, .null, .null, .null, .int 0, .null, .null]) := by rw [eg_166, va_up_n (by omega), ha166 64 (by omega), ha166 65 (by omega), ha166 66 (by omega), ha166 67 (by omega), ha166 68 (by omega), ha166 69 (by omega), ha166 70 (by omega), ha166 71 (by omega), ha166 72 (by omega), ha166 73 (by omega), ha166 74 (by omega)]; exact hf154
  have hf168 : g_166 64 = .inl (cy 0, 6, .inl (fun _ => 0)) := by rw [eg_166, va_up_n (by omega)]; exact hf155
  have hf169 : g_166 65 = .inl (cy 0, 24, .inl (fun _ => 0)) := by rw [eg_166, va_up_n (by omega)]; exact hf156
  have hf170 : g_166 66 = .inl (cy 0, 24, .inl (fun _ => 0)) := by rw [eg_166, va_up_n (by omega)]; exact hf157
  have hf171 : g_166 67 = .inl (cy 0, 24, .inl (fun _ => 0)) := by rw [eg_166, va_up_n (by omega)]; exact hf158
  have hf172 : g_166 68 = .inl (cy 0, 200, .inl (fun _ => 0)) := by rw [eg_166, va_up_n (by omega)]; exact hf159
  have hf173 : g_166 69 = .inl (cy 0, 200, .inl (fun _ => 0)) := by rw [eg_166, va_up_n (by omega)]; exact hf160
  have hf174 : g_166 70 = .inl (cy 0, 200, .inl (fun _ => 0)) := by rw [eg_166, va_up_n (by omega)]; exact hf161
  have hf175 : g_166 71 = .inl (cy 0, 200, .inl (fun _ => 0)) := by rw [eg_166, va_up_n (by omega)]; exact hf162
  have hf176 : g_166 72 = .inl (cy 0, 4, .inl (fun _ => 0)) := by rw [eg_166, va_up_n (by omega)]; exact hf163
  have hf177 : g_166 73 = .inl (cy 0, 12, .inl (fun _ => 0)) := by rw [eg_166, va_up_n (by omega)]; exact hf164
  have hf178 : g_166 74 = .inl (cy 0, 2400, .inl (fun _ => 0)) := by rw [eg_166, va_up_n (by omega)]; exact hf165
  have hn166 : g_166 75 = .inl (cy 0, 2400, .inl (fun _ => 0)) := by rw [eg_166]; exact va_up_s
  refine w_putF X hW K9 (by omega) hf167 13 (by decide) fl_X9_43 rfl hin rfl rfl rfl (Nat.le_of_ble_eq_true rfl) dX9_init_102 (fun H locs hW => ?_)
  obtain ⟨g_179, eg_179⟩ : ∃ zz, zz = va_up g_166 63 (.inr (9, [.ref (ad166 64), .ref (ad166 65), .ref (ad166 66), .ref (ad166 67), .int 0, .ref (ad166 68), .ref (ad166 69), .ref (ad166 70), .ref (ad166 71), .ref (ad166 72), .int 0, .ref (ad166 73), .ref (ad166 74), .ref (ad166 75), .null, .null, .null, .null, .null, .int 0, .null, .null])) := ⟨_, rfl⟩
  have hW : Wd G A js.heap (76, ad166, g_179) H locs := by rw [eg_179]; exact hW
  have hf180 : g_179 63 = .inr (9, [.ref (ad166 64), .ref (ad166 65), .ref (ad166 66), .ref (ad166 67), .int 0, .ref (ad166 68), .ref (ad166 69), .ref (ad166 70), .ref (ad166 71), .ref (ad166 72), .int 0, .ref (ad166 73), .ref (ad166 74), .ref (ad166 75), .null, .null, .null, .null, .null, .int 0, .null, .null]) := by rw [eg_179]; exact va_up_s
  have hf181 : g_179 64 = .inl (cy 0, 6, .inl (fun _ => 0)) := by rw [eg_179]; exact (va_up_n (by decide)).trans hf168
  have hf182 : g_179 65 = .inl (cy 0, 24, .inl (fun _ => 0)) := by rw [eg_179]; exact (va_up_n (by decide)).trans hf169
  have hf183 : g_179 66 = .inl (cy 0, 24, .inl (fun _ => 0)) := by rw [eg_179]; exact (va_up_n (by decide)).trans hf170
  have hf184 : g_179 67 = .inl (cy 0, 24, .inl (fun _ => 0)) := by rw [eg_179]; exact (va_up_n (by decide)).trans hf171
  have hf185 : g_179 68 = .inl (cy 0, 200, .inl (fun _ => 0)) := by rw [eg_179]; exact (va_up_n (by decide)).trans hf172
  have hf186 : g_179 69 = .inl (cy 0, 200, .inl (fun _ => 0)) := by rw [eg_179]; exact (va_up_n (by decide)).trans hf173
  have hf187 : g_179 70 = .inl (cy 0, 200, .inl (fun _ => 0)) := by rw [eg_179]; exact (va_up_n (by decide)).trans hf174
  have hf188 : g_179 71 = .inl (cy 0, 200, .inl (fun _ => 0)) := by rw [eg_179]; exact (va_up_n (by decide)).trans hf175
  have hf189 : g_179 72 = .inl (cy 0, 4, .inl (fun _ => 0)) := by rw [eg_179]; exact (va_up_n (by decide)).trans hf176
  have hf190 : g_179 73 = .inl (cy 0, 12, .inl (fun _ => 0)) := by rw [eg_179]; exact (va_up_n (by decide)).trans hf177
  have hf191 : g_179 74 = .inl (cy 0, 2400, .inl (fun _ => 0)) := by rw [eg_179]; exact (va_up_n (by decide)).trans hf178
  have hf192 : g_179 75 = .inl (cy 0, 2400, .inl (fun _ => 0)) := by rw [eg_179]; exact (va_up_n (by decide)).trans hn166
  refine lv_aload_n jx jb dX9_init_105 rfl (lv_at hl 0 rfl) ?_
  refine lv_sipush (v := 2400) jx jb dX9_init_106 (by decide) ?_
  refine w_newi X hW (k := 2400) (len := 2400) (by decide) (by decide) (by decide) (Nat.le_of_ble_eq_true rfl) (Nat.le_of_ble_eq_true rfl) dX9_init_109 (fun q193 H hW => ?_)
  obtain ⟨ad193, ea193⟩ : ∃ zz, zz = va_up ad166 76 q193 := ⟨_, rfl⟩
  obtain ⟨g_193, eg_193⟩ : ∃ zz, zz = va_up g_179 76 (.inl (cy 0, 2400, .inl (fun _ => 0))) := ⟨_, rfl⟩
  have hW : Wd G A js.heap (77, ad193, g_193) H locs := by rw [ea193, eg_193]; exact hW
  have hq193 : ad193 76 = q193 := by rw [ea193]; exact va_up_s
  have ha193 : ∀ j_, j_ < 76 → ad193 j_ = ad166 j_ := fun j_ hj_ => by rw [ea193]; exact va_up_n (by omega)
  refine W.eq (g2 := F0 jm 111 ls [.ref (ad193 76), .ref (ad193 63)]) (by rw [hq193, ha193 63 (by omega)]) ?_
  have hl : lv_has ls 1 [(0, .ref (ad193 63))] := by rw [ha193 63 (by omega)]; exact hl
  have hf194 : g_193 63 = .inr (9, [.ref (ad193 64), .ref (ad193 65), .ref (ad193 66), .ref (ad193 67), .int 0, .ref (ad193 68), .ref (ad193 69), .ref (ad193 70), .ref (ad193 71), .ref (ad193 72), .int 0, .ref (ad193 73), .ref (ad193 74), .ref (ad193 75), .null, .null, .null, .null, .null, .int 0, .null, .null]) := by rw [eg_193, va_up_n (by omega), ha193 64 (by omega), ha193 65 (by omega), ha193 66 (by omega), ha193 67 (by omega), ha193 68 (by omega), ha193 69 (by omega), ha193 70 (by omega), ha193 71 (by omega), ha193 72 (by omega), ha193 73 (by omega), ha193 74 (by omega), ha193 75 (by omega)]; exact hf180
  have hf195 : g_193 64 = .inl (cy 0, 6, .inl (fun _ => 0)) := by rw [eg_193, va_up_n (by omega)]; exact hf181
  have hf196 : g_193 65 = .inl (cy 0, 24, .inl (fun _ => 0)) := by rw [eg_193, va_up_n (by omega)]; exact hf182
  have hf197 : g_193 66 = .inl (cy 0, 24, .inl (fun _ => 0)) := by rw [eg_193, va_up_n (by omega)]; exact hf183
  have hf198 : g_193 67 = .inl (cy 0, 24, .inl (fun _ => 0)) := by rw [eg_193, va_up_n (by omega)]; exact hf184
  have hf199 : g_193 68 = .inl (cy 0, 200, .inl (fun _ => 0)) := by rw [eg_193, va_up_n (by omega)]; exact hf185
  have hf200 : g_193 69 = .inl (cy 0, 200, .inl (fun _ => 0)) := by rw [eg_193, va_up_n (by omega)]; exact hf186
  have hf201 : g_193 70 = .inl (cy 0, 200, .inl (fun _ => 0)) := by rw [eg_193, va_up_n (by omega)]; exact hf187
  have hf202 : g_193 71 = .inl (cy 0, 200, .inl (fun _ => 0)) := by rw [eg_193, va_up_n (by omega)]; exact hf188
  have hf203 : g_193 72 = .inl (cy 0, 4, .inl (fun _ => 0)) := by rw [eg_193, va_up_n (by omega)]; exact hf189
  have hf204 : g_193 73 = .inl (cy 0, 12, .inl (fun _ => 0)) := by rw [eg_193, va_up_n (by omega)]; exact hf190
  have hf205 : g_193 74 = .inl (cy 0, 2400, .inl (fun _ => 0)) := by rw [eg_193, va_up_n (by omega)]; exact hf191
  have hf206 : g_193 75 = .inl (cy 0, 2400, .inl (fun _ => 0)) := by rw [eg_193, va_up_n (by omega)]; exact hf192
  have hn193 : g_193 76 = .inl (cy 0, 2400, .inl (fun _ => 0)) := by rw [eg_193]; exact va_up_s
  refine w_putF X hW K9 (by omega) hf194 14 (by decide) fl_X9_46 rfl hin rfl rfl rfl (Nat.le_of_ble_eq_true rfl) dX9_init_111 (fun H locs hW => ?_)
  obtain ⟨g_207, eg_207⟩ : ∃ zz, zz = va_up g_193 63 (.inr (9, [.ref (ad193 64), .ref (ad193 65), .ref (ad193 66), .ref (ad193 67), .int 0, .ref (ad193 68), .ref (ad193 69), .ref (ad193 70), .ref (ad193 71), .ref (ad193 72), .int 0, .ref (ad193 73), .ref (ad193 74), .ref (ad193 75), .ref (ad193 76), .null, .null, .null, .null, .int 0, .null, .null])) := ⟨_, rfl⟩
  have hW : Wd G A js.heap (77, ad193, g_207) H locs := by rw [eg_207]; exact hW
  have hf208 : g_207 63 = .inr (9, [.ref (ad193 64), .ref (ad193 65), .ref (ad193 66), .ref (ad193 67), .int 0, .ref (ad193 68), .ref (ad193 69), .ref (ad193 70), .ref (ad193 71), .ref (ad193 72), .int 0, .ref (ad193 73), .ref (ad193 74), .ref (ad193 75), .ref (ad193 76), .null, .null, .null, .null, .int 0, .null, .null]) := by rw [eg_207]; exact va_up_s
  have hf209 : g_207 64 = .inl (cy 0, 6, .inl (fun _ => 0)) := by rw [eg_207]; exact (va_up_n (by decide)).trans hf195
  have hf210 : g_207 65 = .inl (cy 0, 24, .inl (fun _ => 0)) := by rw [eg_207]; exact (va_up_n (by decide)).trans hf196
  have hf211 : g_207 66 = .inl (cy 0, 24, .inl (fun _ => 0)) := by rw [eg_207]; exact (va_up_n (by decide)).trans hf197
  have hf212 : g_207 67 = .inl (cy 0, 24, .inl (fun _ => 0)) := by rw [eg_207]; exact (va_up_n (by decide)).trans hf198
  have hf213 : g_207 68 = .inl (cy 0, 200, .inl (fun _ => 0)) := by rw [eg_207]; exact (va_up_n (by decide)).trans hf199
  have hf214 : g_207 69 = .inl (cy 0, 200, .inl (fun _ => 0)) := by rw [eg_207]; exact (va_up_n (by decide)).trans hf200
  have hf215 : g_207 70 = .inl (cy 0, 200, .inl (fun _ => 0)) := by rw [eg_207]; exact (va_up_n (by decide)).trans hf201
  have hf216 : g_207 71 = .inl (cy 0, 200, .inl (fun _ => 0)) := by rw [eg_207]; exact (va_up_n (by decide)).trans hf202
  have hf217 : g_207 72 = .inl (cy 0, 4, .inl (fun _ => 0)) := by rw [eg_207]; exact (va_up_n (by decide)).trans hf203
  have hf218 : g_207 73 = .inl (cy 0, 12, .inl (fun _ => 0)) := by rw [eg_207]; exact (va_up_n (by decide)).trans hf204
  have hf219 : g_207 74 = .inl (cy 0, 2400, .inl (fun _ => 0)) := by rw [eg_207]; exact (va_up_n (by decide)).trans hf205
  have hf220 : g_207 75 = .inl (cy 0, 2400, .inl (fun _ => 0)) := by rw [eg_207]; exact (va_up_n (by decide)).trans hf206
  have hf221 : g_207 76 = .inl (cy 0, 2400, .inl (fun _ => 0)) := by rw [eg_207]; exact (va_up_n (by decide)).trans hn193
  refine lv_aload_n jx jb dX9_init_114 rfl (lv_at hl 0 rfl) ?_
  refine lv_bipush (v := 12) jx jb dX9_init_115 (by decide) ?_
  refine w_newi X hW (k := 12) (len := 12) (by decide) (by decide) (by decide) (Nat.le_of_ble_eq_true rfl) (Nat.le_of_ble_eq_true rfl) dX9_init_117 (fun q222 H hW => ?_)
  obtain ⟨ad222, ea222⟩ : ∃ zz, zz = va_up ad193 77 q222 := ⟨_, rfl⟩
  obtain ⟨g_222, eg_222⟩ : ∃ zz, zz = va_up g_207 77 (.inl (cy 0, 12, .inl (fun _ => 0))) := ⟨_, rfl⟩
  have hW : Wd G A js.heap (78, ad222, g_222) H locs := by rw [ea222, eg_222]; exact hW
  have hq222 : ad222 77 = q222 := by rw [ea222]; exact va_up_s
  have ha222 : ∀ j_, j_ < 77 → ad222 j_ = ad193 j_ := fun j_ hj_ => by rw [ea222]; exact va_up_n (by omega)
  refine W.eq (g2 := F0 jm 119 ls [.ref (ad222 77), .ref (ad222 63)]) (by rw [hq222, ha222 63 (by omega)]) ?_
  have hl : lv_has ls 1 [(0, .ref (ad222 63))] := by rw [ha222 63 (by omega)]; exact hl
  have hf223 : g_222 63 = .inr (9, [.ref (ad222 64), .ref (ad222 65), .ref (ad222 66), .ref (ad222 67), .int 0, .ref (ad222 68), .ref (ad222 69), .ref (ad222 70), .ref (ad222 71), .ref (ad222 72), .int 0, .ref (ad222 73), .ref (ad222 74), .ref (ad222 75), .ref (ad222 76), .null, .null, .null, .null, .int 0, .null, .null]) := by rw [eg_222, va_up_n (by omega), ha222 64 (by omega), ha222 65 (by omega), ha222 66 (by omega), ha222 67 (by omega), ha222 68 (by omega), ha222 69 (by omega), ha222 70 (by omega), ha222 71 (by omega), ha222 72 (by omega), ha222 73 (by omega), ha222 74 (by omega), ha222 75 (by omega), ha222 76 (by omega)]; exact hf208
  have hf224 : g_222 64 = .inl (cy 0, 6, .inl (fun _ => 0)) := by rw [eg_222, va_up_n (by omega)]; exact hf209
  have hf225 : g_222 65 = .inl (cy 0, 24, .inl (fun _ => 0)) := by rw [eg_222, va_up_n (by omega)]; exact hf210
  have hf226 : g_222 66 = .inl (cy 0, 24, .inl (fun _ => 0)) := by rw [eg_222, va_up_n (by omega)]; exact hf211
  have hf227 : g_222 67 = .inl (cy 0, 24, .inl (fun _ => 0)) := by rw [eg_222, va_up_n (by omega)]; exact hf212
  have hf228 : g_222 68 = .inl (cy 0, 200, .inl (fun _ => 0)) := by rw [eg_222, va_up_n (by omega)]; exact hf213
  have hf229 : g_222 69 = .inl (cy 0, 200, .inl (fun _ => 0)) := by rw [eg_222, va_up_n (by omega)]; exact hf214
  have hf230 : g_222 70 = .inl (cy 0, 200, .inl (fun _ => 0)) := by rw [eg_222, va_up_n (by omega)]; exact hf215
  have hf231 : g_222 71 = .inl (cy 0, 200, .inl (fun _ => 0)) := by rw [eg_222, va_up_n (by omega)]; exact hf216
  have hf232 : g_222 72 = .inl (cy 0, 4, .inl (fun _ => 0)) := by rw [eg_222, va_up_n (by omega)]; exact hf217
  have hf233 : g_222 73 = .inl (cy 0, 12, .inl (fun _ => 0)) := by rw [eg_222, va_up_n (by omega)]; exact hf218
  have hf234 : g_222 74 = .inl (cy 0, 2400, .inl (fun _ => 0)) := by rw [eg_222, va_up_n (by omega)]; exact hf219
  have hf235 : g_222 75 = .inl (cy 0, 2400, .inl (fun _ => 0)) := by rw [eg_222, va_up_n (by omega)]; exact hf220
  have hf236 : g_222 76 = .inl (cy 0, 2400, .inl (fun _ => 0)) := by rw [eg_222, va_up_n (by omega)]; exact hf221
  have hn222 : g_222 77 = .inl (cy 0, 12, .inl (fun _ => 0)) := by rw [eg_222]; exact va_up_s
  refine w_putF X hW K9 (by omega) hf223 15 (by decide) fl_X9_49 rfl hin rfl rfl rfl (Nat.le_of_ble_eq_true rfl) dX9_init_119 (fun H locs hW => ?_)
  obtain ⟨g_237, eg_237⟩ : ∃ zz, zz = va_up g_222 63 (.inr (9, [.ref (ad222 64), .ref (ad222 65), .ref (ad222 66), .ref (ad222 67), .int 0, .ref (ad222 68), .ref (ad222 69), .ref (ad222 70), .ref (ad222 71), .ref (ad222 72), .int 0, .ref (ad222 73), .ref (ad222 74), .ref (ad222 75), .ref (ad222 76), .ref (ad222 77), .null, .null, .null, .int 0, .null, .null])) := ⟨_, rfl⟩
  have hW : Wd G A js.heap (78, ad222, g_237) H locs := by rw [eg_237]; exact hW
  have hf238 : g_237 63 = .inr (9, [.ref (ad222 64), .ref (ad222 65), .ref (ad222 66), .ref (ad222 67), .int 0, .ref (ad222 68), .ref (ad222 69), .ref (ad222 70), .ref (ad222 71), .ref (ad222 72), .int 0, .ref (ad222 73), .ref (ad222 74), .ref (ad222 75), .ref (ad222 76), .ref (ad222 77), .null, .null, .null, .int 0, .null, .null]) := by rw [eg_237]; exact va_up_s
  have hf239 : g_237 64 = .inl (cy 0, 6, .inl (fun _ => 0)) := by rw [eg_237]; exact (va_up_n (by decide)).trans hf224
  have hf240 : g_237 65 = .inl (cy 0, 24, .inl (fun _ => 0)) := by rw [eg_237]; exact (va_up_n (by decide)).trans hf225
  have hf241 : g_237 66 = .inl (cy 0, 24, .inl (fun _ => 0)) := by rw [eg_237]; exact (va_up_n (by decide)).trans hf226
  have hf242 : g_237 67 = .inl (cy 0, 24, .inl (fun _ => 0)) := by rw [eg_237]; exact (va_up_n (by decide)).trans hf227
  have hf243 : g_237 68 = .inl (cy 0, 200, .inl (fun _ => 0)) := by rw [eg_237]; exact (va_up_n (by decide)).trans hf228
  have hf244 : g_237 69 = .inl (cy 0, 200, .inl (fun _ => 0)) := by rw [eg_237]; exact (va_up_n (by decide)).trans hf229
  have hf245 : g_237 70 = .inl (cy 0, 200, .inl (fun _ => 0)) := by rw [eg_237]; exact (va_up_n (by decide)).trans hf230
  have hf246 : g_237 71 = .inl (cy 0, 200, .inl (fun _ => 0)) := by rw [eg_237]; exact (va_up_n (by decide)).trans hf231
  have hf247 : g_237 72 = .inl (cy 0, 4, .inl (fun _ => 0)) := by rw [eg_237]; exact (va_up_n (by decide)).trans hf232
  have hf248 : g_237 73 = .inl (cy 0, 12, .inl (fun _ => 0)) := by rw [eg_237]; exact (va_up_n (by decide)).trans hf233
  have hf249 : g_237 74 = .inl (cy 0, 2400, .inl (fun _ => 0)) := by rw [eg_237]; exact (va_up_n (by decide)).trans hf234
  have hf250 : g_237 75 = .inl (cy 0, 2400, .inl (fun _ => 0)) := by rw [eg_237]; exact (va_up_n (by decide)).trans hf235
  have hf251 : g_237 76 = .inl (cy 0, 2400, .inl (fun _ => 0)) := by rw [eg_237]; exact (va_up_n (by decide)).trans hf236
  have hf252 : g_237 77 = .inl (cy 0, 12, .inl (fun _ => 0)) := by rw [eg_237]; exact (va_up_n (by decide)).trans hn222
  refine lv_aload_n jx jb dX9_init_122 rfl (lv_at hl 0 rfl) ?_
  refine lv_bipush (v := 12) jx jb dX9_init_123 (by decide) ?_
  refine w_newz X hW (k := 12) (len := 12) (by decide) (by decide) (by decide) (Nat.le_of_ble_eq_true rfl) (Nat.le_of_ble_eq_true rfl) dX9_init_125 (fun q253 H hW => ?_)
  obtain ⟨ad253, ea253⟩ : ∃ zz, zz = va_up ad222 78 q253 := ⟨_, rfl⟩
  obtain ⟨g_253, eg_253⟩ : ∃ zz, zz = va_up g_237 78 (.inl (cy 1, 12, .inl (fun _ => 0))) := ⟨_, rfl⟩
  have hW : Wd G A js.heap (79, ad253, g_253) H locs := by rw [ea253, eg_253]; exact hW
  have hq253 : ad253 78 = q253 := by rw [ea253]; exact va_up_s
  have ha253 : ∀ j_, j_ < 78 → ad253 j_ = ad222 j_ := fun j_ hj_ => by rw [ea253]; exact va_up_n (by omega)
  refine W.eq (g2 := F0 jm 127 ls [.ref (ad253 78), .ref (ad253 63)]) (by rw [hq253, ha253 63 (by omega)]) ?_
  have hl : lv_has ls 1 [(0, .ref (ad253 63))] := by rw [ha253 63 (by omega)]; exact hl
  have hf254 : g_253 63 = .inr (9, [.ref (ad253 64), .ref (ad253 65), .ref (ad253 66), .ref (ad253 67), .int 0, .ref (ad253 68), .ref (ad253 69), .ref (ad253 70), .ref (ad253 71), .ref (ad253 72), .int 0, .ref (ad253 73), .ref (ad253 74), .ref (ad253 75), .ref (ad253 76), .ref (ad253 77), .null, .null, .null, .int 0, .null, .null]) := by rw [eg_253, va_up_n (by omega), ha253 64 (by omega), ha253 65 (by omega), ha253 66 (by omega), ha253 67 (by omega), ha253 68 (by omega), ha253 69 (by omega), ha253 70 (by omega), ha253 71 (by omega), ha253 72 (by omega), ha253 73 (by omega), ha253 74 (by omega), ha253 75 (by omega), ha253 76 (by omega), ha253 77 (by omega)]; exact hf238
  have hf255 : g_253 64 = .inl (cy 0, 6, .inl (fun _ => 0)) := by rw [eg_253, va_up_n (by omega)]; exact hf239
  have hf256 : g_253 65 = .inl (cy 0, 24, .inl (fun _ => 0)) := by rw [eg_253, va_up_n (by omega)]; exact hf240
  have hf257 : g_253 66 = .inl (cy 0, 24, .inl (fun _ => 0)) := by rw [eg_253, va_up_n (by omega)]; exact hf241
  have hf258 : g_253 67 = .inl (cy 0, 24, .inl (fun _ => 0)) := by rw [eg_253, va_up_n (by omega)]; exact hf242
  have hf259 : g_253 68 = .inl (cy 0, 200, .inl (fun _ => 0)) := by rw [eg_253, va_up_n (by omega)]; exact hf243
  have hf260 : g_253 69 = .inl (cy 0, 200, .inl (fun _ => 0)) := by rw [eg_253, va_up_n (by omega)]; exact hf244
  have hf261 : g_253 70 = .inl (cy 0, 200, .inl (fun _ => 0)) := by rw [eg_253, va_up_n (by omega)]; exact hf245
  have hf262 : g_253 71 = .inl (cy 0, 200, .inl (fun _ => 0)) := by rw [eg_253, va_up_n (by omega)]; exact hf246
  have hf263 : g_253 72 = .inl (cy 0, 4, .inl (fun _ => 0)) := by rw [eg_253, va_up_n (by omega)]; exact hf247
  have hf264 : g_253 73 = .inl (cy 0, 12, .inl (fun _ => 0)) := by rw [eg_253, va_up_n (by omega)]; exact hf248
  have hf265 : g_253 74 = .inl (cy 0, 2400, .inl (fun _ => 0)) := by rw [eg_253, va_up_n (by omega)]; exact hf249
  have hf266 : g_253 75 = .inl (cy 0, 2400, .inl (fun _ => 0)) := by rw [eg_253, va_up_n (by omega)]; exact hf250
  have hf267 : g_253 76 = .inl (cy 0, 2400, .inl (fun _ => 0)) := by rw [eg_253, va_up_n (by omega)]; exact hf251
  have hf268 : g_253 77 = .inl (cy 0, 12, .inl (fun _ => 0)) := by rw [eg_253, va_up_n (by omega)]; exact hf252
  have hn253 : g_253 78 = .inl (cy 1, 12, .inl (fun _ => 0)) := by rw [eg_253]; exact va_up_s
  refine w_putF X hW K9 (by omega) hf254 16 (by decide) fl_X9_52 rfl hin rfl rfl rfl (Nat.le_of_ble_eq_true rfl) dX9_init_127 (fun H locs hW => ?_)
  obtain ⟨g_269, eg_269⟩ : ∃ zz, zz = va_up g_253 63 (.inr (9, [.ref (ad253 64), .ref (ad253 65), .ref (ad253 66), .ref (ad253 67), .int 0, .ref (ad253 68), .ref (ad253 69), .ref (ad253 70), .ref (ad253 71), .ref (ad253 72), .int 0, .ref (ad253 73), .ref (ad253 74), .ref (ad253 75), .ref (ad253 76), .ref (ad253 77), .ref (ad253 78), .null, .null, .int 0, .null, .null])) := ⟨_, rfl⟩
  have hW : Wd G A js.heap (79, ad253, g_269) H locs := by rw [eg_269]; exact hW
  have hf270 : g_269 63 = .inr (9, [.ref (ad253 64), .ref (ad253 65), .ref (ad253 66), .ref (ad253 67), .int 0, .ref (ad253 68), .ref (ad253 69), .ref (ad253 70), .ref (ad253 71), .ref (ad253 72), .int 0, .ref (ad253 73), .ref (ad253 74), .ref (ad253 75), .ref (ad253 76), .ref (ad253 77), .ref (ad253 78), .null, .null, .int 0, .null, .null]) := by rw [eg_269]; exact va_up_s
  have hf271 : g_269 64 = .inl (cy 0, 6, .inl (fun _ => 0)) := by rw [eg_269]; exact (va_up_n (by decide)).trans hf255
  have hf272 : g_269 65 = .inl (cy 0, 24, .inl (fun _ => 0)) := by rw [eg_269]; exact (va_up_n (by decide)).trans hf256
  have hf273 : g_269 66 = .inl (cy 0, 24, .inl (fun _ => 0)) := by rw [eg_269]; exact (va_up_n (by decide)).trans hf257
  have hf274 : g_269 67 = .inl (cy 0, 24, .inl (fun _ => 0)) := by rw [eg_269]; exact (va_up_n (by decide)).trans hf258
  have hf275 : g_269 68 = .inl (cy 0, 200, .inl (fun _ => 0)) := by rw [eg_269]; exact (va_up_n (by decide)).trans hf259
  have hf276 : g_269 69 = .inl (cy 0, 200, .inl (fun _ => 0)) := by rw [eg_269]; exact (va_up_n (by decide)).trans hf260
  have hf277 : g_269 70 = .inl (cy 0, 200, .inl (fun _ => 0)) := by rw [eg_269]; exact (va_up_n (by decide)).trans hf261
  have hf278 : g_269 71 = .inl (cy 0, 200, .inl (fun _ => 0)) := by rw [eg_269]; exact (va_up_n (by decide)).trans hf262
  have hf279 : g_269 72 = .inl (cy 0, 4, .inl (fun _ => 0)) := by rw [eg_269]; exact (va_up_n (by decide)).trans hf263
  have hf280 : g_269 73 = .inl (cy 0, 12, .inl (fun _ => 0)) := by rw [eg_269]; exact (va_up_n (by decide)).trans hf264
  have hf281 : g_269 74 = .inl (cy 0, 2400, .inl (fun _ => 0)) := by rw [eg_269]; exact (va_up_n (by decide)).trans hf265
  have hf282 : g_269 75 = .inl (cy 0, 2400, .inl (fun _ => 0)) := by rw [eg_269]; exact (va_up_n (by decide)).trans hf266
  have hf283 : g_269 76 = .inl (cy 0, 2400, .inl (fun _ => 0)) := by rw [eg_269]; exact (va_up_n (by decide)).trans hf267
  have hf284 : g_269 77 = .inl (cy 0, 12, .inl (fun _ => 0)) := by rw [eg_269]; exact (va_up_n (by decide)).trans hf268
  have hf285 : g_269 78 = .inl (cy 1, 12, .inl (fun _ => 0)) := by rw [eg_269]; exact (va_up_n (by decide)).trans hn253
  refine lv_aload_n jx jb dX9_init_130 rfl (lv_at hl 0 rfl) ?_
  refine lv_bipush (v := 12) jx jb dX9_init_131 (by decide) ?_
  refine w_newz X hW (k := 12) (len := 12) (by decide) (by decide) (by decide) (Nat.le_of_ble_eq_true rfl) (Nat.le_of_ble_eq_true rfl) dX9_init_133 (fun q286 H hW => ?_)
  obtain ⟨ad286, ea286⟩ : ∃ zz, zz = va_up ad253 79 q286 := ⟨_, rfl⟩
  obtain ⟨g_286, eg_286⟩ : ∃ zz, zz = va_up g_269 79 (.inl (cy 1, 12, .inl (fun _ => 0))) := ⟨_, rfl⟩
  have hW : Wd G A js.heap (80, ad286, g_286) H locs := by rw [ea286, eg_286]; exact hW
  have hq286 : ad286 79 = q286 := by rw [ea286]; exact va_up_s
  have ha286 : ∀ j_, j_ < 79 → ad286 j_ = ad253 j_ := fun j_ hj_ => by rw [ea286]; exact va_up_n (by omega)
  refine W.eq (g2 := F0 jm 135 ls [.ref (ad286 79), .ref (ad286 63)]) (by rw [hq286, ha286 63 (by omega)]) ?_
  have hl : lv_has ls 1 [(0, .ref (ad286 63))] := by rw [ha286 63 (by omega)]; exact hl
  have hf287 : g_286 63 = .inr (9, [.ref (ad286 64), .ref (ad286 65), .ref (ad286 66), .ref (ad286 67), .int 0, .ref (ad286 68), .ref (ad286 69), .ref (ad286 70), .ref (ad286 71), .ref (ad286 72), .int 0, .ref (ad286 73), .ref (ad286 74), .ref (ad286 75), .ref (ad286 76), .ref (ad286 77), .ref (ad286 78), .null, .null, .int 0, .null, .null]) := by rw [eg_286, va_up_n (by omega), ha286 64 (by omega), ha286 65 (by omega), ha286 66 (by omega), ha286 67 (by omega), ha286 68 (by omega), ha286 69 (by omega), ha286 70 (by omega), ha286 71 (by omega), ha286 72 (by omega), ha286 73 (by omega), ha286 74 (by omega), ha286 75 (by omega), ha286 76 (by omega), ha286 77 (by omega), ha286 78 (by omega)]; exact hf270
  have hf288 : g_286 64 = .inl (cy 0, 6, .inl (fun _ => 0)) := by rw [eg_286, va_up_n (by omega)]; exact hf271
  have hf289 : g_286 65 = .inl (cy 0, 24, .inl (fun _ => 0)) := by rw [eg_286, va_up_n (by omega)]; exact hf272
  have hf290 : g_286 66 = .inl (cy 0, 24, .inl (fun _ => 0)) := by rw [eg_286, va_up_n (by omega)]; exact hf273
  have hf291 : g_286 67 = .inl (cy 0, 24, .inl (fun _ => 0)) := by rw [eg_286, va_up_n (by omega)]; exact hf274
  have hf292 : g_286 68 = .inl (cy 0, 200, .inl (fun _ => 0)) := by rw [eg_286, va_up_n (by omega)]; exact hf275
  have hf293 : g_286 69 = .inl (cy 0, 200, .inl (fun _ => 0)) := by rw [eg_286, va_up_n (by omega)]; exact hf276
  have hf294 : g_286 70 = .inl (cy 0, 200, .inl (fun _ => 0)) := by rw [eg_286, va_up_n (by omega)]; exact hf277
  have hf295 : g_286 71 = .inl (cy 0, 200, .inl (fun _ => 0)) := by rw [eg_286, va_up_n (by omega)]; exact hf278
  have hf296 : g_286 72 = .inl (cy 0, 4, .inl (fun _ => 0)) := by rw [eg_286, va_up_n (by omega)]; exact hf279
  have hf297 : g_286 73 = .inl (cy 0, 12, .inl (fun _ => 0)) := by rw [eg_286, va_up_n (by omega)]; exact hf280
  have hf298 : g_286 74 = .inl (cy 0, 2400, .inl (fun _ => 0)) := by rw [eg_286, va_up_n (by omega)]; exact hf281
  have hf299 : g_286 75 = .inl (cy 0, 2400, .inl (fun _ => 0)) := by rw [eg_286, va_up_n (by omega)]; exact hf282
  have hf300 : g_286 76 = .inl (cy 0, 2400, .inl (fun _ => 0)) := by rw [eg_286, va_up_n (by omega)]; exact hf283
  have hf301 : g_286 77 = .inl (cy 0, 12, .inl (fun _ => 0)) := by rw [eg_286, va_up_n (by omega)]; exact hf284
  have hf302 : g_286 78 = .inl (cy 1, 12, .inl (fun _ => 0)) := by rw [eg_286, va_up_n (by omega)]; exact hf285
  have hn286 : g_286 79 = .inl (cy 1, 12, .inl (fun _ => 0)) := by rw [eg_286]; exact va_up_s
  refine w_putF X hW K9 (by omega) hf287 17 (by decide) fl_X9_56 rfl hin rfl rfl rfl (Nat.le_of_ble_eq_true rfl) dX9_init_135 (fun H locs hW => ?_)
  obtain ⟨g_303, eg_303⟩ : ∃ zz, zz = va_up g_286 63 (.inr (9, [.ref (ad286 64), .ref (ad286 65), .ref (ad286 66), .ref (ad286 67), .int 0, .ref (ad286 68), .ref (ad286 69), .ref (ad286 70), .ref (ad286 71), .ref (ad286 72), .int 0, .ref (ad286 73), .ref (ad286 74), .ref (ad286 75), .ref (ad286 76), .ref (ad286 77), .ref (ad286 78), .ref (ad286 79), .null, .int 0, .null, .null])) := ⟨_, rfl⟩
  have hW : Wd G A js.heap (80, ad286, g_303) H locs := by rw [eg_303]; exact hW
  have hf304 : g_303 63 = .inr (9, [.ref (ad286 64), .ref (ad286 65), .ref (ad286 66), .ref (ad286 67), .int 0, .ref (ad286 68), .ref (ad286 69), .ref (ad286 70), .ref (ad286 71), .ref (ad286 72), .int 0, .ref (ad286 73), .ref (ad286 74), .ref (ad286 75), .ref (ad286 76), .ref (ad286 77), .ref (ad286 78), .ref (ad286 79), .null, .int 0, .null, .null]) := by rw [eg_303]; exact va_up_s
  have hf305 : g_303 64 = .inl (cy 0, 6, .inl (fun _ => 0)) := by rw [eg_303]; exact (va_up_n (by decide)).trans hf288
  have hf306 : g_303 65 = .inl (cy 0, 24, .inl (fun _ => 0)) := by rw [eg_303]; exact (va_up_n (by decide)).trans hf289
  have hf307 : g_303 66 = .inl (cy 0, 24, .inl (fun _ => 0)) := by rw [eg_303]; exact (va_up_n (by decide)).trans hf290
  have hf308 : g_303 67 = .inl (cy 0, 24, .inl (fun _ => 0)) := by rw [eg_303]; exact (va_up_n (by decide)).trans hf291
  have hf309 : g_303 68 = .inl (cy 0, 200, .inl (fun _ => 0)) := by rw [eg_303]; exact (va_up_n (by decide)).trans hf292
  have hf310 : g_303 69 = .inl (cy 0, 200, .inl (fun _ => 0)) := by rw [eg_303]; exact (va_up_n (by decide)).trans hf293
  have hf311 : g_303 70 = .inl (cy 0, 200, .inl (fun _ => 0)) := by rw [eg_303]; exact (va_up_n (by decide)).trans hf294
  have hf312 : g_303 71 = .inl (cy 0, 200, .inl (fun _ => 0)) := by rw [eg_303]; exact (va_up_n (by decide)).trans hf295
  have hf313 : g_303 72 = .inl (cy 0, 4, .inl (fun _ => 0)) := by rw [eg_303]; exact (va_up_n (by decide)).trans hf296
  have hf314 : g_303 73 = .inl (cy 0, 12, .inl (fun _ => 0)) := by rw [eg_303]; exact (va_up_n (by decide)).trans hf297
  have hf315 : g_303 74 = .inl (cy 0, 2400, .inl (fun _ => 0)) := by rw [eg_303]; exact (va_up_n (by decide)).trans hf298
  have hf316 : g_303 75 = .inl (cy 0, 2400, .inl (fun _ => 0)) := by rw [eg_303]; exact (va_up_n (by decide)).trans hf299
  have hf317 : g_303 76 = .inl (cy 0, 2400, .inl (fun _ => 0)) := by rw [eg_303]; exact (va_up_n (by decide)).trans hf300
  have hf318 : g_303 77 = .inl (cy 0, 12, .inl (fun _ => 0)) := by rw [eg_303]; exact (va_up_n (by decide)).trans hf301
  have hf319 : g_303 78 = .inl (cy 1, 12, .inl (fun _ => 0)) := by rw [eg_303]; exact (va_up_n (by decide)).trans hf302
  have hf320 : g_303 79 = .inl (cy 1, 12, .inl (fun _ => 0)) := by rw [eg_303]; exact (va_up_n (by decide)).trans hn286
  refine lv_aload_n jx jb dX9_init_138 rfl (lv_at hl 0 rfl) ?_
  refine lv_iconst (v := 4) jx jb dX9_init_139 (by decide) ?_
  refine w_newi X hW (k := 4) (len := 4) (by decide) (by decide) (by decide) (Nat.le_of_ble_eq_true rfl) (Nat.le_of_ble_eq_true rfl) dX9_init_140 (fun q321 H hW => ?_)
  obtain ⟨ad321, ea321⟩ : ∃ zz, zz = va_up ad286 80 q321 := ⟨_, rfl⟩
  obtain ⟨g_321, eg_321⟩ : ∃ zz, zz = va_up g_303 80 (.inl (cy 0, 4, .inl (fun _ => 0))) := ⟨_, rfl⟩
  have hW : Wd G A js.heap (81, ad321, g_321) H locs := by rw [ea321, eg_321]; exact hW
  have hq321 : ad321 80 = q321 := by rw [ea321]; exact va_up_s
  have ha321 : ∀ j_, j_ < 80 → ad321 j_ = ad286 j_ := fun j_ hj_ => by rw [ea321]; exact va_up_n (by omega)
  refine W.eq (g2 := F0 jm 142 ls [.ref (ad321 80), .ref (ad321 63)]) (by rw [hq321, ha321 63 (by omega)]) ?_
  have hl : lv_has ls 1 [(0, .ref (ad321 63))] := by rw [ha321 63 (by omega)]; exact hl
  have hf322 : g_321 63 = .inr (9, [.ref (ad321 64), .ref (ad321 65), .ref (ad321 66), .ref (ad321 67), .int 0, .ref (ad321 68), .ref (ad321 69), .ref (ad321 70), .ref (ad321 71), .ref (ad321 72), .int 0, .ref (ad321 73), .ref (ad321 74), .ref (ad321 75), .ref (ad321 76), .ref (ad321 77), .ref (ad321 78), .ref (ad321 79), .null, .int 0, .null, .null]) := by rw [eg_321, va_up_n (by omega), ha321 64 (by omega), ha321 65 (by omega), ha321 66 (by omega), ha321 67 (by omega), ha321 68 (by omega), ha321 69 (by omega), ha321 70 (by omega), ha321 71 (by omega), ha321 72 (by omega), ha321 73 (by omega), ha321 74 (by omega), ha321 75 (by omega), ha321 76 (by omega), ha321 77 (by omega), ha321 78 (by omega), ha321 79 (by omega)]; exact hf304
  have hf323 : g_321 64 = .inl (cy 0, 6, .inl (fun _ => 0)) := by rw [eg_321, va_up_n (by omega)]; exact hf305
  have hf324 : g_321 65 = .inl (cy 0, 24, .inl (fun _ => 0)) := by rw [eg_321, va_up_n (by omega)]; exact hf306
  have hf325 : g_321 66 = .inl (cy 0, 24, .inl (fun _ => 0)) := by rw [eg_321, va_up_n (by omega)]; exact hf307
  have hf326 : g_321 67 = .inl (cy 0, 24, .inl (fun _ => 0)) := by rw [eg_321, va_up_n (by omega)]; exact hf308
  have hf327 : g_321 68 = .inl (cy 0, 200, .inl (fun _ => 0)) := by rw [eg_321, va_up_n (by omega)]; exact hf309
  have hf328 : g_321 69 = .inl (cy 0, 200, .inl (fun _ => 0)) := by rw [eg_321, va_up_n (by omega)]; exact hf310
  have hf329 : g_321 70 = .inl (cy 0, 200, .inl (fun _ => 0)) := by rw [eg_321, va_up_n (by omega)]; exact hf311
  have hf330 : g_321 71 = .inl (cy 0, 200, .inl (fun _ => 0)) := by rw [eg_321, va_up_n (by omega)]; exact hf312
  have hf331 : g_321 72 = .inl (cy 0, 4, .inl (fun _ => 0)) := by rw [eg_321, va_up_n (by omega)]; exact hf313
  have hf332 : g_321 73 = .inl (cy 0, 12, .inl (fun _ => 0)) := by rw [eg_321, va_up_n (by omega)]; exact hf314
  have hf333 : g_321 74 = .inl (cy 0, 2400, .inl (fun _ => 0)) := by rw [eg_321, va_up_n (by omega)]; exact hf315
  have hf334 : g_321 75 = .inl (cy 0, 2400, .inl (fun _ => 0)) := by rw [eg_321, va_up_n (by omega)]; exact hf316
  have hf335 : g_321 76 = .inl (cy 0, 2400, .inl (fun _ => 0)) := by rw [eg_321, va_up_n (by omega)]; exact hf317
  have hf336 : g_321 77 = .inl (cy 0, 12, .inl (fun _ => 0)) := by rw [eg_321, va_up_n (by omega)]; exact hf318
  have hf337 : g_321 78 = .inl (cy 1, 12, .inl (fun _ => 0)) := by rw [eg_321, va_up_n (by omega)]; exact hf319
  have hf338 : g_321 79 = .inl (cy 1, 12, .inl (fun _ => 0)) := by rw [eg_321, va_up_n (by omega)]; exact hf320
  have hn321 : g_321 80 = .inl (cy 0, 4, .inl (fun _ => 0)) := by rw [eg_321]; exact va_up_s
  refine w_putF X hW K9 (by omega) hf322 18 (by decide) fl_X9_59 rfl hin rfl rfl rfl (Nat.le_of_ble_eq_true rfl) dX9_init_142 (fun H locs hW => ?_)
  obtain ⟨g_339, eg_339⟩ : ∃ zz, zz = va_up g_321 63 (.inr (9, [.ref (ad321 64), .ref (ad321 65), .ref (ad321 66), .ref (ad321 67), .int 0, .ref (ad321 68), .ref (ad321 69), .ref (ad321 70), .ref (ad321 71), .ref (ad321 72), .int 0, .ref (ad321 73), .ref (ad321 74), .ref (ad321 75), .ref (ad321 76), .ref (ad321 77), .ref (ad321 78), .ref (ad321 79), .ref (ad321 80), .int 0, .null, .null])) := ⟨_, rfl⟩
  have hW : Wd G A js.heap (81, ad321, g_339) H locs := by rw [eg_339]; exact hW
  have hf340 : g_339 63 = .inr (9, [.ref (ad321 64), .ref (ad321 65), .ref (ad321 66), .ref (ad321 67), .int 0, .ref (ad321 68), .ref (ad321 69), .ref (ad321 70), .ref (ad321 71), .ref (ad321 72), .int 0, .ref (ad321 73), .ref (ad321 74), .ref (ad321 75), .ref (ad321 76), .ref (ad321 77), .ref (ad321 78), .ref (ad321 79), .ref (ad321 80), .int 0, .null, .null]) := by rw [eg_339]; exact va_up_s
  have hf341 : g_339 64 = .inl (cy 0, 6, .inl (fun _ => 0)) := by rw [eg_339]; exact (va_up_n (by decide)).trans hf323
  have hf342 : g_339 65 = .inl (cy 0, 24, .inl (fun _ => 0)) := by rw [eg_339]; exact (va_up_n (by decide)).trans hf324
  have hf343 : g_339 66 = .inl (cy 0, 24, .inl (fun _ => 0)) := by rw [eg_339]; exact (va_up_n (by decide)).trans hf325
  have hf344 : g_339 67 = .inl (cy 0, 24, .inl (fun _ => 0)) := by rw [eg_339]; exact (va_up_n (by decide)).trans hf326
  have hf345 : g_339 68 = .inl (cy 0, 200, .inl (fun _ => 0)) := by rw [eg_339]; exact (va_up_n (by decide)).trans hf327
  have hf346 : g_339 69 = .inl (cy 0, 200, .inl (fun _ => 0)) := by rw [eg_339]; exact (va_up_n (by decide)).trans hf328
  have hf347 : g_339 70 = .inl (cy 0, 200, .inl (fun _ => 0)) := by rw [eg_339]; exact (va_up_n (by decide)).trans hf329
  have hf348 : g_339 71 = .inl (cy 0, 200, .inl (fun _ => 0)) := by rw [eg_339]; exact (va_up_n (by decide)).trans hf330
  have hf349 : g_339 72 = .inl (cy 0, 4, .inl (fun _ => 0)) := by rw [eg_339]; exact (va_up_n (by decide)).trans hf331
  have hf350 : g_339 73 = .inl (cy 0, 12, .inl (fun _ => 0)) := by rw [eg_339]; exact (va_up_n (by decide)).trans hf332
  have hf351 : g_339 74 = .inl (cy 0, 2400, .inl (fun _ => 0)) := by rw [eg_339]; exact (va_up_n (by decide)).trans hf333
  have hf352 : g_339 75 = .inl (cy 0, 2400, .inl (fun _ => 0)) := by rw [eg_339]; exact (va_up_n (by decide)).trans hf334
  have hf353 : g_339 76 = .inl (cy 0, 2400, .inl (fun _ => 0)) := by rw [eg_339]; exact (va_up_n (by decide)).trans hf335
  have hf354 : g_339 77 = .inl (cy 0, 12, .inl (fun _ => 0)) := by rw [eg_339]; exact (va_up_n (by decide)).trans hf336
  have hf355 : g_339 78 = .inl (cy 1, 12, .inl (fun _ => 0)) := by rw [eg_339]; exact (va_up_n (by decide)).trans hf337
  have hf356 : g_339 79 = .inl (cy 1, 12, .inl (fun _ => 0)) := by rw [eg_339]; exact (va_up_n (by decide)).trans hf338
  have hf357 : g_339 80 = .inl (cy 0, 4, .inl (fun _ => 0)) := by rw [eg_339]; exact (va_up_n (by decide)).trans hn321
  refine lv_aload_n jx jb dX9_init_145 rfl (lv_at hl 0 rfl) ?_
  refine lv_sipush (v := 200) jx jb dX9_init_146 (by decide) ?_
  refine w_newz X hW (k := 200) (len := 200) (by decide) (by decide) (by decide) (Nat.le_of_ble_eq_true rfl) (Nat.le_of_ble_eq_true rfl) dX9_init_149 (fun q358 H hW => ?_)
  obtain ⟨ad358, ea358⟩ : ∃ zz, zz = va_up ad321 81 q358 := ⟨_, rfl⟩
  obtain ⟨g_358, eg_358⟩ : ∃ zz, zz = va_up g_339 81 (.inl (cy 1, 200, .inl (fun _ => 0))) := ⟨_, rfl⟩
  have hW : Wd G A js.heap (82, ad358, g_358) H locs := by rw [ea358, eg_358]; exact hW
  have hq358 : ad358 81 = q358 := by rw [ea358]; exact va_up_s
  have ha358 : ∀ j_, j_ < 81 → ad358 j_ = ad321 j_ := fun j_ hj_ => by rw [ea358]; exact va_up_n (by omega)
  refine W.eq (g2 := F0 jm 151 ls [.ref (ad358 81), .ref (ad358 63)]) (by rw [hq358, ha358 63 (by omega)]) ?_
  have hl : lv_has ls 1 [(0, .ref (ad358 63))] := by rw [ha358 63 (by omega)]; exact hl
  have hf359 : g_358 63 = .inr (9, [.ref (ad358 64), .ref (ad358 65), .ref (ad358 66), .ref (ad358 67), .int 0, .ref (ad358 68), .ref (ad358 69), .ref (ad358 70), .ref (ad358 71), .ref (ad358 72), .int 0, .ref (ad358 73), .ref (ad358 74), .ref (ad358 75), .ref (ad358 76), .ref (ad358 77), .ref (ad358 78), .ref (ad358 79), .ref (ad358 80), .int 0, .null, .null]) := by rw [eg_358, va_up_n (by omega), ha358 64 (by omega), ha358 65 (by omega), ha358 66 (by omega), ha358 67 (by omega), ha358 68 (by omega), ha358 69 (by omega), ha358 70 (by omega), ha358 71 (by omega), ha358 72 (by omega), ha358 73 (by omega), ha358 74 (by omega), ha358 75 (by omega), ha358 76 (by omega), ha358 77 (by omega), ha358 78 (by omega), ha358 79 (by omega), ha358 80 (by omega)]; exact hf340
  have hf360 : g_358 64 = .inl (cy 0, 6, .inl (fun _ => 0)) := by rw [eg_358, va_up_n (by omega)]; exact hf341
  have hf361 : g_358 65 = .inl (cy 0, 24, .inl (fun _ => 0)) := by rw [eg_358, va_up_n (by omega)]; exact hf342
  have hf362 : g_358 66 = .inl (cy 0, 24, .inl (fun _ => 0)) := by rw [eg_358, va_up_n (by omega)]; exact hf343
  have hf363 : g_358 67 = .inl (cy 0, 24, .inl (fun _ => 0)) := by rw [eg_358, va_up_n (by omega)]; exact hf344
  have hf364 : g_358 68 = .inl (cy 0, 200, .inl (fun _ => 0)) := by rw [eg_358, va_up_n (by omega)]; exact hf345
  have hf365 : g_358 69 = .inl (cy 0, 200, .inl (fun _ => 0)) := by rw [eg_358, va_up_n (by omega)]; exact hf346
  have hf366 : g_358 70 = .inl (cy 0, 200, .inl (fun _ => 0)) := by rw [eg_358, va_up_n (by omega)]; exact hf347
  have hf367 : g_358 71 = .inl (cy 0, 200, .inl (fun _ => 0)) := by rw [eg_358, va_up_n (by omega)]; exact hf348
  have hf368 : g_358 72 = .inl (cy 0, 4, .inl (fun _ => 0)) := by rw [eg_358, va_up_n (by omega)]; exact hf349
  have hf369 : g_358 73 = .inl (cy 0, 12, .inl (fun _ => 0)) := by rw [eg_358, va_up_n (by omega)]; exact hf350
  have hf370 : g_358 74 = .inl (cy 0, 2400, .inl (fun _ => 0)) := by rw [eg_358, va_up_n (by omega)]; exact hf351
  have hf371 : g_358 75 = .inl (cy 0, 2400, .inl (fun _ => 0)) := by rw [eg_358, va_up_n (by omega)]; exact hf352
  have hf372 : g_358 76 = .inl (cy 0, 2400, .inl (fun _ => 0)) := by rw [eg_358, va_up_n (by omega)]; exact hf353
  have hf373 : g_358 77 = .inl (cy 0, 12, .inl (fun _ => 0)) := by rw [eg_358, va_up_n (by omega)]; exact hf354
  have hf374 : g_358 78 = .inl (cy 1, 12, .inl (fun _ => 0)) := by rw [eg_358, va_up_n (by omega)]; exact hf355
  have hf375 : g_358 79 = .inl (cy 1, 12, .inl (fun _ => 0)) := by rw [eg_358, va_up_n (by omega)]; exact hf356
  have hf376 : g_358 80 = .inl (cy 0, 4, .inl (fun _ => 0)) := by rw [eg_358, va_up_n (by omega)]; exact hf357
  have hn358 : g_358 81 = .inl (cy 1, 200, .inl (fun _ => 0)) := by rw [eg_358]; exact va_up_s
  refine w_putF X hW K9 (by omega) hf359 20 (by decide) fl_X9_62 rfl hin rfl rfl rfl (Nat.le_of_ble_eq_true rfl) dX9_init_151 (fun H locs hW => ?_)
  obtain ⟨g_377, eg_377⟩ : ∃ zz, zz = va_up g_358 63 (.inr (9, [.ref (ad358 64), .ref (ad358 65), .ref (ad358 66), .ref (ad358 67), .int 0, .ref (ad358 68), .ref (ad358 69), .ref (ad358 70), .ref (ad358 71), .ref (ad358 72), .int 0, .ref (ad358 73), .ref (ad358 74), .ref (ad358 75), .ref (ad358 76), .ref (ad358 77), .ref (ad358 78), .ref (ad358 79), .ref (ad358 80), .int 0, .ref (ad358 81), .null])) := ⟨_, rfl⟩
  have hW : Wd G A js.heap (82, ad358, g_377) H locs := by rw [eg_377]; exact hW
  have hf378 : g_377 63 = .inr (9, [.ref (ad358 64), .ref (ad358 65), .ref (ad358 66), .ref (ad358 67), .int 0, .ref (ad358 68), .ref (ad358 69), .ref (ad358 70), .ref (ad358 71), .ref (ad358 72), .int 0, .ref (ad358 73), .ref (ad358 74), .ref (ad358 75), .ref (ad358 76), .ref (ad358 77), .ref (ad358 78), .ref (ad358 79), .ref (ad358 80), .int 0, .ref (ad358 81), .null]) := by rw [eg_377]; exact va_up_s
  have hf379 : g_377 64 = .inl (cy 0, 6, .inl (fun _ => 0)) := by rw [eg_377]; exact (va_up_n (by decide)).trans hf360
  have hf380 : g_377 65 = .inl (cy 0, 24, .inl (fun _ => 0)) := by rw [eg_377]; exact (va_up_n (by decide)).trans hf361
  have hf381 : g_377 66 = .inl (cy 0, 24, .inl (fun _ => 0)) := by rw [eg_377]; exact (va_up_n (by decide)).trans hf362
  have hf382 : g_377 67 = .inl (cy 0, 24, .inl (fun _ => 0)) := by rw [eg_377]; exact (va_up_n (by decide)).trans hf363
  have hf383 : g_377 68 = .inl (cy 0, 200, .inl (fun _ => 0)) := by rw [eg_377]; exact (va_up_n (by decide)).trans hf364
  have hf384 : g_377 69 = .inl (cy 0, 200, .inl (fun _ => 0)) := by rw [eg_377]; exact (va_up_n (by decide)).trans hf365
  have hf385 : g_377 70 = .inl (cy 0, 200, .inl (fun _ => 0)) := by rw [eg_377]; exact (va_up_n (by decide)).trans hf366
  have hf386 : g_377 71 = .inl (cy 0, 200, .inl (fun _ => 0)) := by rw [eg_377]; exact (va_up_n (by decide)).trans hf367
  have hf387 : g_377 72 = .inl (cy 0, 4, .inl (fun _ => 0)) := by rw [eg_377]; exact (va_up_n (by decide)).trans hf368
  have hf388 : g_377 73 = .inl (cy 0, 12, .inl (fun _ => 0)) := by rw [eg_377]; exact (va_up_n (by decide)).trans hf369
  have hf389 : g_377 74 = .inl (cy 0, 2400, .inl (fun _ => 0)) := by rw [eg_377]; exact (va_up_n (by decide)).trans hf370
  have hf390 : g_377 75 = .inl (cy 0, 2400, .inl (fun _ => 0)) := by rw [eg_377]; exact (va_up_n (by decide)).trans hf371
  have hf391 : g_377 76 = .inl (cy 0, 2400, .inl (fun _ => 0)) := by rw [eg_377]; exact (va_up_n (by decide)).trans hf372
  have hf392 : g_377 77 = .inl (cy 0, 12, .inl (fun _ => 0)) := by rw [eg_377]; exact (va_up_n (by decide)).trans hf373
  have hf393 : g_377 78 = .inl (cy 1, 12, .inl (fun _ => 0)) := by rw [eg_377]; exact (va_up_n (by decide)).trans hf374
  have hf394 : g_377 79 = .inl (cy 1, 12, .inl (fun _ => 0)) := by rw [eg_377]; exact (va_up_n (by decide)).trans hf375
  have hf395 : g_377 80 = .inl (cy 0, 4, .inl (fun _ => 0)) := by rw [eg_377]; exact (va_up_n (by decide)).trans hf376
  have hf396 : g_377 81 = .inl (cy 1, 200, .inl (fun _ => 0)) := by rw [eg_377]; exact (va_up_n (by decide)).trans hn358
  refine lv_aload_n jx jb dX9_init_154 rfl (lv_at hl 0 rfl) ?_
  refine lv_bipush (v := 12) jx jb dX9_init_155 (by decide) ?_
  refine w_newi X hW (k := 12) (len := 12) (by decide) (by decide) (by decide) (Nat.le_of_ble_eq_true rfl) (Nat.le_of_ble_eq_true rfl) dX9_init_157 (fun q397 H hW => ?_)
  obtain ⟨ad397, ea397⟩ : ∃ zz, zz = va_up ad358 82 q397 := ⟨_, rfl⟩
  obtain ⟨g_397, eg_397⟩ : ∃ zz, zz = va_up g_377 82 (.inl (cy 0, 12, .inl (fun _ => 0))) := ⟨_, rfl⟩
  have hW : Wd G A js.heap (83, ad397, g_397) H locs := by rw [ea397, eg_397]; exact hW
  have hq397 : ad397 82 = q397 := by rw [ea397]; exact va_up_s
  have ha397 : ∀ j_, j_ < 82 → ad397 j_ = ad358 j_ := fun j_ hj_ => by rw [ea397]; exact va_up_n (by omega)
  refine W.eq (g2 := F0 jm 159 ls [.ref (ad397 82), .ref (ad397 63)]) (by rw [hq397, ha397 63 (by omega)]) ?_
  have hl : lv_has ls 1 [(0, .ref (ad397 63))] := by rw [ha397 63 (by omega)]; exact hl
  have hf398 : g_397 63 = .inr (9, [.ref (ad397 64), .ref (ad397 65), .ref (ad397 66), .ref (ad397 67), .int 0, .ref (ad397 68), .ref (ad397 69), .ref (ad397 70), .ref (ad397 71), .ref (ad397 72), .int 0, .ref (ad397 73), .ref (ad397 74), .ref (ad397 75), .ref (ad397 76), .ref (ad397 77), .ref (ad397 78), .ref (ad397 79), .ref (ad397 80), .int 0, .ref (ad397 81), .null]) := by rw [eg_397, va_up_n (by omega), ha397 64 (by omega), ha397 65 (by omega), ha397 66 (by omega), ha397 67 (by omega), ha397 68 (by omega), ha397 69 (by omega), ha397 70 (by omega), ha397 71 (by omega), ha397 72 (by omega), ha397 73 (by omega), ha397 74 (by omega), ha397 75 (by omega), ha397 76 (by omega), ha397 77 (by omega), ha397 78 (by omega), ha397 79 (by omega), ha397 80 (by omega), ha397 81 (by omega)]; exact hf378
  have hf399 : g_397 64 = .inl (cy 0, 6, .inl (fun _ => 0)) := by rw [eg_397, va_up_n (by omega)]; exact hf379
  have hf400 : g_397 65 = .inl (cy 0, 24, .inl (fun _ => 0)) := by rw [eg_397, va_up_n (by omega)]; exact hf380
  have hf401 : g_397 66 = .inl (cy 0, 24, .inl (fun _ => 0)) := by rw [eg_397, va_up_n (by omega)]; exact hf381
  have hf402 : g_397 67 = .inl (cy 0, 24, .inl (fun _ => 0)) := by rw [eg_397, va_up_n (by omega)]; exact hf382
  have hf403 : g_397 68 = .inl (cy 0, 200, .inl (fun _ => 0)) := by rw [eg_397, va_up_n (by omega)]; exact hf383
  have hf404 : g_397 69 = .inl (cy 0, 200, .inl (fun _ => 0)) := by rw [eg_397, va_up_n (by omega)]; exact hf384
  have hf405 : g_397 70 = .inl (cy 0, 200, .inl (fun _ => 0)) := by rw [eg_397, va_up_n (by omega)]; exact hf385
  have hf406 : g_397 71 = .inl (cy 0, 200, .inl (fun _ => 0)) := by rw [eg_397, va_up_n (by omega)]; exact hf386
  have hf407 : g_397 72 = .inl (cy 0, 4, .inl (fun _ => 0)) := by rw [eg_397, va_up_n (by omega)]; exact hf387
  have hf408 : g_397 73 = .inl (cy 0, 12, .inl (fun _ => 0)) := by rw [eg_397, va_up_n (by omega)]; exact hf388
  have hf409 : g_397 74 = .inl (cy 0, 2400, .inl (fun _ => 0)) := by rw [eg_397, va_up_n (by omega)]; exact hf389
  have hf410 : g_397 75 = .inl (cy 0, 2400, .inl (fun _ => 0)) := by rw [eg_397, va_up_n (by omega)]; exact hf390
  have hf411 : g_397 76 = .inl (cy 0, 2400, .inl (fun _ => 0)) := by rw [eg_397, va_up_n (by omega)]; exact hf391
  have hf412 : g_397 77 = .inl (cy 0, 12, .inl (fun _ => 0)) := by rw [eg_397, va_up_n (by omega)]; exact hf392
  have hf413 : g_397 78 = .inl (cy 1, 12, .inl (fun _ => 0)) := by rw [eg_397, va_up_n (by omega)]; exact hf393
  have hf414 : g_397 79 = .inl (cy 1, 12, .inl (fun _ => 0)) := by rw [eg_397, va_up_n (by omega)]; exact hf394
  have hf415 : g_397 80 = .inl (cy 0, 4, .inl (fun _ => 0)) := by rw [eg_397, va_up_n (by omega)]; exact hf395
  have hf416 : g_397 81 = .inl (cy 1, 200, .inl (fun _ => 0)) := by rw [eg_397, va_up_n (by omega)]; exact hf396
  have hn397 : g_397 82 = .inl (cy 0, 12, .inl (fun _ => 0)) := by rw [eg_397]; exact va_up_s
  refine w_putF X hW K9 (by omega) hf398 21 (by decide) fl_X9_65 rfl hin rfl rfl rfl (Nat.le_of_ble_eq_true rfl) dX9_init_159 (fun H locs hW => ?_)
  obtain ⟨g_417, eg_417⟩ : ∃ zz, zz = va_up g_397 63 (.inr (9, [.ref (ad397 64), .ref (ad397 65), .ref (ad397 66), .ref (ad397 67), .int 0, .ref (ad397 68), .ref (ad397 69), .ref (ad397 70), .ref (ad397 71), .ref (ad397 72), .int 0, .ref (ad397 73), .ref (ad397 74), .ref (ad397 75), .ref (ad397 76), .ref (ad397 77), .ref (ad397 78), .ref (ad397 79), .ref (ad397 80), .int 0, .ref (ad397 81), .ref (ad397 82)])) := ⟨_, rfl⟩
  have hW : Wd G A js.heap (83, ad397, g_417) H locs := by rw [eg_417]; exact hW
  have hf418 : g_417 63 = .inr (9, [.ref (ad397 64), .ref (ad397 65), .ref (ad397 66), .ref (ad397 67), .int 0, .ref (ad397 68), .ref (ad397 69), .ref (ad397 70), .ref (ad397 71), .ref (ad397 72), .int 0, .ref (ad397 73), .ref (ad397 74), .ref (ad397 75), .ref (ad397 76), .ref (ad397 77), .ref (ad397 78), .ref (ad397 79), .ref (ad397 80), .int 0, .ref (ad397 81), .ref (ad397 82)]) := by rw [eg_417]; exact va_up_s
  have hf419 : g_417 64 = .inl (cy 0, 6, .inl (fun _ => 0)) := by rw [eg_417]; exact (va_up_n (by decide)).trans hf399
  have hf420 : g_417 65 = .inl (cy 0, 24, .inl (fun _ => 0)) := by rw [eg_417]; exact (va_up_n (by decide)).trans hf400
  have hf421 : g_417 66 = .inl (cy 0, 24, .inl (fun _ => 0)) := by rw [eg_417]; exact (va_up_n (by decide)).trans hf401
  have hf422 : g_417 67 = .inl (cy 0, 24, .inl (fun _ => 0)) := by rw [eg_417]; exact (va_up_n (by decide)).trans hf402
  have hf423 : g_417 68 = .inl (cy 0, 200, .inl (fun _ => 0)) := by rw [eg_417]; exact (va_up_n (by decide)).trans hf403
  have hf424 : g_417 69 = .inl (cy 0, 200, .inl (fun _ => 0)) := by rw [eg_417]; exact (va_up_n (by decide)).trans hf404
  have hf425 : g_417 70 = .inl (cy 0, 200, .inl (fun _ => 0)) := by rw [eg_417]; exact (va_up_n (by decide)).trans hf405
  have hf426 : g_417 71 = .inl (cy 0, 200, .inl (fun _ => 0)) := by rw [eg_417]; exact (va_up_n (by decide)).trans hf406
  have hf427 : g_417 72 = .inl (cy 0, 4, .inl (fun _ => 0)) := by rw [eg_417]; exact (va_up_n (by decide)).trans hf407
  have hf428 : g_417 73 = .inl (cy 0, 12, .inl (fun _ => 0)) := by rw [eg_417]; exact (va_up_n (by decide)).trans hf408
  have hf429 : g_417 74 = .inl (cy 0, 2400, .inl (fun _ => 0)) := by rw [eg_417]; exact (va_up_n (by decide)).trans hf409
  have hf430 : g_417 75 = .inl (cy 0, 2400, .inl (fun _ => 0)) := by rw [eg_417]; exact (va_up_n (by decide)).trans hf410
  have hf431 : g_417 76 = .inl (cy 0, 2400, .inl (fun _ => 0)) := by rw [eg_417]; exact (va_up_n (by decide)).trans hf411
  have hf432 : g_417 77 = .inl (cy 0, 12, .inl (fun _ => 0)) := by rw [eg_417]; exact (va_up_n (by decide)).trans hf412
  have hf433 : g_417 78 = .inl (cy 1, 12, .inl (fun _ => 0)) := by rw [eg_417]; exact (va_up_n (by decide)).trans hf413
  have hf434 : g_417 79 = .inl (cy 1, 12, .inl (fun _ => 0)) := by rw [eg_417]; exact (va_up_n (by decide)).trans hf414
  have hf435 : g_417 80 = .inl (cy 0, 4, .inl (fun _ => 0)) := by rw [eg_417]; exact (va_up_n (by decide)).trans hf415
  have hf436 : g_417 81 = .inl (cy 1, 200, .inl (fun _ => 0)) := by rw [eg_417]; exact (va_up_n (by decide)).trans hf416
  have hf437 : g_417 82 = .inl (cy 0, 12, .inl (fun _ => 0)) := by rw [eg_417]; exact (va_up_n (by decide)).trans hn397
  exact ret _ _ _ _ _ dX9_init_162 hW ⟨_, _, rfl, (fun k hk => by rw [ha397 k (by omega), ha358 k (by omega), ha321 k (by omega), ha286 k (by omega), ha253 k (by omega), ha222 k (by omega), ha193 k (by omega), ha166 k (by omega), ha141 k (by omega), ha118 k (by omega), ha97 k (by omega), ha78 k (by omega), ha61 k (by omega), ha46 k (by omega), ha33 k (by omega), ha22 k (by omega), ha13 k (by omega), ha6 k (by omega), ha1 k (by omega)]), ⟨by decide, hf418, fun a h1 h2 => by rcases (show a = 64 ∨ a = 65 ∨ a = 66 ∨ a = 67 ∨ a = 68 ∨ a = 69 ∨ a = 70 ∨ a = 71 ∨ a = 72 ∨ a = 73 ∨ a = 74 ∨ a = 75 ∨ a = 76 ∨ a = 77 ∨ a = 78 ∨ a = 79 ∨ a = 80 ∨ a = 81 ∨ a = 82 by omega) with rfl | rfl | rfl | rfl | rfl | rfl | rfl | rfl | rfl | rfl | rfl | rfl | rfl | rfl | rfl | rfl | rfl | rfl | rfl; exact hf419; exact hf420; exact hf421; exact hf422; exact hf423; exact hf424; exact hf425; exact hf426; exact hf427; exact hf428; exact hf429; exact hf430; exact hf431; exact hf432; exact hf433; exact hf434; exact hf435; exact hf436; exact hf437⟩, (fun k hk hkn => by show g_417 k = _; rw [eg_417, va_up_n (by omega), eg_397, va_up_n (by omega), eg_377, va_up_n (by omega), eg_358, va_up_n (by omega), eg_339, va_up_n (by omega), eg_321, va_up_n (by omega), eg_303, va_up_n (by omega), eg_286, va_up_n (by omega), eg_269, va_up_n (by omega), eg_253, va_up_n (by omega), eg_237, va_up_n (by omega), eg_222, va_up_n (by omega), eg_207, va_up_n (by omega), eg_193, va_up_n (by omega), eg_179, va_up_n (by omega), eg_166, va_up_n (by omega), eg_153, va_up_n (by omega), eg_141, va_up_n (by omega), eg_129, va_up_n (by omega), eg_118, va_up_n (by omega), eg_107, va_up_n (by omega), eg_97, va_up_n (by omega), eg_87, va_up_n (by omega), eg_78, va_up_n (by omega), eg_69, va_up_n (by omega), eg_61, va_up_n (by omega), eg_53, va_up_n (by omega), eg_46, va_up_n (by omega), eg_39, va_up_n (by omega), eg_33, va_up_n (by omega), eg_27, va_up_n (by omega), eg_22, va_up_n (by omega), eg_17, va_up_n (by omega), eg_13, va_up_n (by omega), eg_9, va_up_n (by omega), eg_6, va_up_n (by omega), eg_3, va_up_n (by omega), eg_1, va_up_n (by omega)])⟩

def M0 : M4 := (fun _ => 0, fun _ => 0, fun _ => 0, fun _ => 0)
def x0 : Nat → TT := fun _ => ([], fun _ => 0, 0, false, false)
theorem okM0 : okM M0 := ⟨fun k _ => Nat.zero_le _, fun b _ h => absurd h (Nat.not_lt_zero _)⟩
theorem URaw.start {cy : Nat → ClassId} {ad ad' : Nat → Nat} {g g' : Nat → va_E} (h : URaw cy 63 ad g) (ha : ∀ k, k < 63 → ad' k = ad k) (hg : ∀ k, k < 63 → g' k = g k) : XAt cy 83 ad' g' M0 [] (fun _ => 0) (fun _ => 0) 0 0 id x0 := by
  obtain ⟨u0, ⟨u1, u2, u3⟩, ⟨uR, u4, u8⟩, uS, ⟨u60, u61⟩, u62⟩ := h
  obtain ⟨-, s9, ⟨ft, s10, sft⟩, s11, sT⟩ := uS
  have e : ∀ k, k < 63 → ad k = ad' k := fun k hk => (ha k hk).symm
  refine ⟨?_, ⟨okM0, by decide, fun _ => none, fun _ => 0, ?_, ⟨fun _ => none, (hg 2 (by decide)).trans u2, fun b _ => rfl⟩, (hg 3 (by decide)).trans u3, fun k _ => rfl, fun b _ hb => absurd hb (Nat.not_lt_zero _), fun b _ _ => rfl⟩, ⟨fun _ => 0, ⟨by decide, uR.grow (by decide) ha hg, by decide, ?_, (hg 8 (by decide)).trans u8⟩, fun i hi => absurd hi (Nat.not_lt_zero _), fun x hx => absurd hx (by simp)⟩, ⟨by decide, by decide, fun i hi => hi, fun i j _ _ q => q, ⟨ft, _, ?_, (hg 10 (by decide)).trans s10, (hg 11 (by decide)).trans s11, fun i hi => by rw [sft i hi, e _ (by omega)]; rfl⟩, fun q hq => ?_⟩, ⟨0, _, 0, -1, by decide, by decide, ?_, (hg 61 (by decide)).trans u61⟩, -1, -1, ?_⟩
  · rw [hg 0 (by decide), u0, e 1 (by decide), e 4 (by decide), e 9 (by decide), e 60 (by decide), e 62 (by decide)]
  · rw [hg 1 (by decide), u1, e 2 (by decide), e 3 (by decide)]
  · rw [hg 4 (by decide), u4, e 5 (by decide), e 8 (by decide)]; rfl
  · rw [hg 9 (by decide), s9, e 10 (by decide), e 11 (by decide)]; rfl
  · obtain ⟨t1, t2⟩ := sT q hq
    exact ⟨_, _, by rw [hg _ (by omega), t1, e _ (by omega)]; rfl, t2.grow (by decide) ha hg, fun i hi => absurd hi (Nat.not_lt_zero _), fun x hx => absurd hx (by simp [x0]), fun i hi => absurd hi (Nat.not_lt_zero _)⟩
  · rw [hg 60 (by decide), u60, e 1 (by decide), e 61 (by decide)]; rfl
  · rw [hg 62 (by decide), u62, e 1 (by decide)]
theorem MRaw.start {cy : Nat → ClassId} {ad : Nat → Nat} {g : Nat → va_E} (h : MRaw cy 83 ad g (fun _ _ => 0) 0 0 0) : MAt cy 83 ad g M0 [] (fun _ => 0) (fun _ => 0) 0 0 (fun i => x0 (id i)) :=
  ⟨_, _, h, okM0, ⟨fun k _ => rfl, fun b _ hb => absurd hb (Nat.not_lt_zero _)⟩, ⟨by decide, fun x hx => absurd hx (by simp), fun i hi => absurd hi (Nat.not_lt_zero _)⟩, by decide, (fun j hj => by rw [nib0 j hj]; rfl), by decide, fun i hi => absurd hi (Nat.not_lt_zero _)⟩
