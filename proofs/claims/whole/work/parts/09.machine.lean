/-- the machine's cells: the object 1, its branches 2, its sizes 3; the branches lie from cell 83 on -/
def MachAt (cy : Nat → ClassId) (N : Nat) (ad : Nat → Nat) (g : Nat → va_E) (M : M4) : Prop := okM M ∧ 83 ≤ N ∧ ∃ (bc : Nat → Option Nat) (fs : Nat → Int32), g 1 = .inr (2, [.ref (ad 2), .ref (ad 3)]) ∧ (∃ fb : Nat → Option Nat, g 2 = .inl (cy 2, 24, .inr (.inr (.inr (.inr fb)))) ∧ ∀ b, b < 24 → fb b = (bc b).map ad) ∧ g 3 = .inl (cy 0, 6, .inl fs) ∧ (∀ k, k < 6 → fs k = nI (M.1 k)) ∧ (∀ b, b < 24 → b % 4 < M.1 (b / 4) → ∃ n, bc b = some n ∧ 83 ≤ n ∧ n < N ∧ g n = .inr (0, brf (M.2.1 b) (M.2.2.1 b) (M.2.2.2 b))) ∧ ∀ b, b < 24 → ¬ b % 4 < M.1 (b / 4) → bc b = none
theorem MachAt.fr {cy : Nat → ClassId} {N : Nat} {ad : Nat → Nat} {g g' : Nat → va_E} {M : M4} (h : MachAt cy N ad g M) (h1 : ∀ k, k = 1 ∨ k = 2 ∨ k = 3 ∨ 83 ≤ k → g' k = g k) : MachAt cy N ad g' M := by
  obtain ⟨a, b, bc, fs, e1, ⟨fb, e2, e2b⟩, e3, e4, e5, e6⟩ := h
  refine ⟨a, b, bc, fs, (h1 1 (by omega)).trans e1, ⟨fb, (h1 2 (by omega)).trans e2, e2b⟩, (h1 3 (by omega)).trans e3, e4, fun b hb hq => ?_, e6⟩
  obtain ⟨n, n1, n2, n3, n4⟩ := e5 b hb hq
  exact ⟨n, n1, n2, n3, (h1 n (by omega)).trans n4⟩
abbrev isB (M : M4) (v : Int32) : Prop := 0 ≤ v ∧ v.toNatClampNeg < 24 ∧ v.toNatClampNeg % 4 < M.1 (v.toNatClampNeg / 4)
theorem isB_nI {M : M4} {b : Nat} (h : b < 24) : isB M (nI b) ↔ b % 4 < M.1 (b / 4) := by
  unfold isB
  rw [i_cl (by omega)]
  exact ⟨fun q => q.2.2, fun q => ⟨i_0le (by omega), h, q⟩⟩
theorem isB_no {M : M4} {v : Int32} (h : bI (0 ≤ v ∧ v < 24) = 0) : ¬ isB M v := fun q => by
  have h1 := bI_0.mp h
  apply h1
  refine ⟨q.1, ?_⟩
  obtain ⟨j, hj, rfl⟩ := nI_of (x := v) (fun z => by have := q.1; rw [Int32.le_iff_toInt_le] at this; rw [Int32.lt_iff_toInt_lt] at z; omega)
  have h2 := q.2.1
  rw [i_cl hj] at h2
  exact nI_lt (b := 24) h2 (by decide)
abbrev hasR (M : M4) (v : Int32) : Prop := 0 ≤ v ∧ v.toNatClampNeg < 6 ∧ M.1 v.toNatClampNeg < 4
theorem hasR_nI {M : M4} {b : Nat} (h : b < 6) : hasR M (nI b) ↔ M.1 b < 4 := by
  unfold hasR
  rw [i_cl (by omega)]
  exact ⟨fun q => q.2.2, fun q => ⟨i_0le (by omega), h, q⟩⟩
theorem hasR_no {M : M4} {v : Int32} (h : bI (0 ≤ v ∧ v < 6) = 0) : ¬ hasR M v := fun q => by
  have h1 := bI_0.mp h
  apply h1
  refine ⟨q.1, ?_⟩
  obtain ⟨j, hj, rfl⟩ := nI_of (x := v) (fun z => by have := q.1; rw [Int32.le_iff_toInt_le] at this; rw [Int32.lt_iff_toInt_lt] at z; omega)
  have h2 := q.2.1
  rw [i_cl hj] at h2
  exact nI_lt (b := 6) h2 (by decide)
theorem bel_t {a b : Nat} (h : a < b) (hb : b < 2 ^ 31) : bI (0 ≤ nI a ∧ nI a < nI b) = 1 := bI_t ⟨i_0le (by omega), nI_lt h hb⟩
def abq (M : M4) : Nat → Int32
  | 0 => 0
  | b + 1 => if b % 4 < M.1 (b / 4) then abq M b ||| ((1 : Int32) <<< (nI b &&& 31)) else abq M b
theorem tI_isB {M : M4} (hM : okM M) {k st : Nat} (hk : k < 6) : isB M (tI (tk M k st)) ↔ ∃ b, tk M k st = some b := by
  cases h : tk M k st with
  | none => exact ⟨fun q => absurd q.1 (by decide), fun ⟨b, q⟩ => by cases q⟩
  | some b =>
    obtain ⟨h1, h2, h3⟩ := tk_some hM hk h
    exact ⟨fun _ => ⟨b, rfl⟩, fun _ => (isB_nI h1).mpr h3⟩

set_option maxHeartbeats 4000000 in
set_option maxRecDepth 100000 in
theorem c_has {l : Launch} {G : va_G} {cy : Nat → ClassId} {N : Nat} {ad : Nat → Nat} {g : Nat → va_E} {M : M4} {v : Int32} (hM : MachAt cy N ad g M) : RI l G cy (N, ad, g) yX2_has cX2_has 2 (some .boolean) (rmN 1) [.ref (ad 1), .int v] (bI (isB M v)) := by
  refine RI.mk (by decide) (by first | rfl | exact bI_nar) (Nat.le_of_ble_eq_true rfl) ?_
  intro jp je js jm below meth jc A Q X hW ret ls hl
  have jx := X.hx
  have jb := X.hb
  have hl : lv_has ls 2 [(0, .ref (ad 1)), (1, .int v)] := hl
  have X : Cx G cy jp js jm _ jc cX2_has 2 RX2 A js.heap := X
  obtain ⟨hok, h83, bc, fs, f1, ⟨fB, f2, hfb0⟩, f3, f4, f5, f6⟩ := hM
  refine lv_iload_n jx jb dX2_has_0 rfl (lv_at hl 1 rfl) ?_
  refine lv_bipush (v := 24) jx jb dX2_has_1 (by decide) ?_
  refine w_rN (As := [.int v, .int 24]) X hW (c_isBelow) mn_X2_21 mf_X8_isBelow ⟨Nat.le_of_ble_eq_true rfl, Nat.le_of_ble_eq_true rfl⟩ hl.1 rfl (Nat.le_of_ble_eq_true rfl) ⟨Nat.le_of_ble_eq_true rfl, Nat.le_of_ble_eq_true rfl⟩ dX2_has_3 (fun H locs hW => ?_)
  refine lv_if_eq (tgt := 22) jx jb dX2_has_6 (by decide) (fun c6 => ?_) (fun c6 => ?_)
  · refine lv_iconst (v := 0) jx jb dX2_has_22 (by decide) ?_
    exact ret _ _ _ _ _ dX2_has_23 hW (bI_f (isB_no c6)).symm
  · obtain ⟨b, hb24, ev⟩ := i_below (n := 24) (by decide) (bI_n0.mp c6)
    refine lv_aload_n jx jb dX2_has_9 rfl (lv_at hl 0 rfl) ?_
    refine w_get X hW K2 (by omega) f1 0 (by decide) fl_X2_11 rfl dX2_has_10 ?_
    refine lv_iload_n jx jb dX2_has_13 rfl (lv_at hl 1 rfl) ?_
    refine w_ald X hW (by omega) (t := 2) rfl f2 b ev hb24 (by decide) dX2_has_14 ?_
    by_cases hq : b % 4 < M.1 (b / 4)
    · obtain ⟨n, n1, n2, n3, n4⟩ := f5 b hb24 hq
      refine top_q (y := some (ad n)) (by rw [hfb0 _ (by omega), n1]; rfl) ?_
      refine lv_ifnull jx jb dX2_has_15 ?_
      refine lv_iconst (v := 1) jx jb dX2_has_18 (by decide) ?_
      refine lv_goto (tgt := 23) jx jb dX2_has_19 (by decide) ?_
      exact ret _ _ _ _ _ dX2_has_23 hW (by rw [ev]; exact (bI_t ((isB_nI hb24).mpr hq)).symm)
    · refine top_q (y := none) (by rw [hfb0 _ (by omega), f6 b hb24 hq]; rfl) ?_
      refine lv_ifnullN (tgt := 22) jx jb dX2_has_15 (by decide) ?_
      refine lv_iconst (v := 0) jx jb dX2_has_22 (by decide) ?_
      exact ret _ _ _ _ _ dX2_has_23 hW (by rw [ev]; exact (bI_f (fun z => hq ((isB_nI hb24).mp z))).symm)

set_option maxHeartbeats 4000000 in
set_option maxRecDepth 100000 in
theorem c_hasRoom {l : Launch} {G : va_G} {cy : Nat → ClassId} {N : Nat} {ad : Nat → Nat} {g : Nat → va_E} {M : M4} {v : Int32} (hM : MachAt cy N ad g M) : RI l G cy (N, ad, g) yX2_hasRoom cX2_hasRoom 2 (some .boolean) (rmN 1) [.ref (ad 1), .int v] (bI (hasR M v)) := by
  refine RI.mk (by decide) (by first | rfl | exact bI_nar) (Nat.le_of_ble_eq_true rfl) ?_
  intro jp je js jm below meth jc A Q X hW ret ls hl
  have jx := X.hx
  have jb := X.hb
  have hl : lv_has ls 2 [(0, .ref (ad 1)), (1, .int v)] := hl
  have X : Cx G cy jp js jm _ jc cX2_hasRoom 2 RX2 A js.heap := X
  obtain ⟨hok, h83, bc, fs, f1, ⟨fB, f2, hfb0⟩, f3, f4, f5, f6⟩ := hM
  refine lv_iload_n jx jb dX2_hasRoom_0 rfl (lv_at hl 1 rfl) ?_
  refine lv_bipush (v := 6) jx jb dX2_hasRoom_1 (by decide) ?_
  refine w_rN (As := [.int v, .int 6]) X hW (c_isBelow) mn_X2_21 mf_X8_isBelow ⟨Nat.le_of_ble_eq_true rfl, Nat.le_of_ble_eq_true rfl⟩ hl.1 rfl (Nat.le_of_ble_eq_true rfl) ⟨Nat.le_of_ble_eq_true rfl, Nat.le_of_ble_eq_true rfl⟩ dX2_hasRoom_3 (fun H locs hW => ?_)
  refine lv_if_eq (tgt := 23) jx jb dX2_hasRoom_6 (by decide) (fun c6 => ?_) (fun c6 => ?_)
  · refine lv_iconst (v := 0) jx jb dX2_hasRoom_23 (by decide) ?_
    exact ret _ _ _ _ _ dX2_hasRoom_24 hW (bI_f (hasR_no c6)).symm
  · obtain ⟨b, hb6, ev⟩ := i_below (n := 6) (by decide) (bI_n0.mp c6)
    have h4 := hok.1 b hb6
    refine lv_aload_n jx jb dX2_hasRoom_9 rfl (lv_at hl 0 rfl) ?_
    refine w_get X hW K2 (by omega) f1 1 (by decide) fl_X2_17 rfl dX2_hasRoom_10 ?_
    refine lv_iload_n jx jb dX2_hasRoom_13 rfl (lv_at hl 1 rfl) ?_
    refine w_ild X hW (by omega) f3 b ev hb6 (by decide) dX2_hasRoom_14 ?_
    refine top_eq (y := nI (M.1 b)) (f4 b hb6) ?_
    refine lv_iconst (v := 4) jx jb dX2_hasRoom_15 (by decide) ?_
    refine lv_icmp_ge (tgt := 23) jx jb dX2_hasRoom_16 (by decide) (fun c16 => ?_) (fun c16 => ?_)
    · refine lv_iconst (v := 0) jx jb dX2_hasRoom_23 (by decide) ?_
      exact ret _ _ _ _ _ dX2_hasRoom_24 hW (by rw [ev]; exact (bI_f (fun z => by have := (hasR_nI hb6).mp z; have := n_le (a := 4) (by decide) (by omega) c16; omega)).symm)
    · refine lv_iconst (v := 1) jx jb dX2_hasRoom_19 (by decide) ?_
      refine lv_goto (tgt := 24) jx jb dX2_hasRoom_20 (by decide) ?_
      exact ret _ _ _ _ _ dX2_hasRoom_24 hW (by rw [ev]; exact (bI_t ((hasR_nI hb6).mpr (n_nle (a := 4) (by decide) (by omega) c16))).symm)

set_option maxHeartbeats 4000000 in
set_option maxRecDepth 100000 in
theorem c_put {l : Launch} {G : va_G} {cy : Nat → ClassId} {N : Nat} {ad : Nat → Nat} {g : Nat → va_E} {b n : Nat} {f : Nat → Option Nat} {fs : Nat → Int32} {vs : List Value} (h83 : 83 ≤ N) (f1 : g 1 = .inr (2, [.ref (ad 2), .ref (ad 3)])) (f2 : g 2 = .inl (cy 2, 24, .inr (.inr (.inr (.inr f))))) (f3 : g 3 = .inl (cy 0, 6, .inl fs)) (hb : b < 24) (hn : n < N) (hg : g n = .inr (0, vs)) : MV l G cy (N, ad, g) yX2_put cX2_put 3 none (rmN 1) [.ref (ad 1), .int (nI b), .ref (ad n)] (nV N ad (fun g1 => g1 2 = .inl (cy 2, 24, .inr (.inr (.inr (.inr (va_up f b (some (ad n))))))) ∧ Fr g g1 [2])) := by
  refine NV.mk (by decide) (Nat.le_of_ble_eq_true rfl) ?_
  intro jp je js jm below meth jc A Q X hW ret ls hl
  have jx := X.hx
  have jb := X.hb
  have hl : lv_has ls 3 [(0, .ref (ad 1)), (1, .int (nI b)), (2, .ref (ad n))] := hl
  have X : Cx G cy jp js jm _ jc cX2_put 3 RX2 A js.heap := X
  refine lv_iload_n jx jb dX2_put_0 rfl (lv_at hl 1 rfl) ?_
  refine lv_bipush (v := 24) jx jb dX2_put_1 (by decide) ?_
  refine w_rN (As := [.int (nI b), .int 24]) X hW (c_isBelow) mn_X2_21 mf_X8_isBelow ⟨Nat.le_of_ble_eq_true rfl, Nat.le_of_ble_eq_true rfl⟩ hl.1 rfl (Nat.le_of_ble_eq_true rfl) ⟨Nat.le_of_ble_eq_true rfl, Nat.le_of_ble_eq_true rfl⟩ dX2_put_3 (fun H locs hW => ?_)
  refine lv_if_eq (tgt := 16) jx jb dX2_put_6 (by decide) (fun c6 => ?_) (fun c6 => ?_)
  · exact absurd (c6.symm.trans (bel_t (b := 24) hb (by decide))) (by decide)
  · refine lv_aload_n jx jb dX2_put_9 rfl (lv_at hl 0 rfl) ?_
    refine w_get X hW K2 (by omega) f1 0 (by decide) fl_X2_11 rfl dX2_put_10 ?_
    refine lv_iload_n jx jb dX2_put_13 rfl (lv_at hl 1 rfl) ?_
    refine lv_aload_n jx jb dX2_put_14 rfl (lv_at hl 2 rfl) ?_
    refine w_ast X hW (by omega) (t := 2) (q := (RX0, TX0, 8)) rfl f2 hn hg rfl b rfl hb (by decide) dX2_put_15 (fun H locs hW => ?_)
    obtain ⟨g_1, eg_1⟩ : ∃ zz, zz = va_up g 2 (.inl (cy 2, 24, .inr (.inr (.inr (.inr (va_up f b (some (ad n)))))))) := ⟨_, rfl⟩
    have hW : Wd G A js.heap (N, ad, g_1) H locs := by rw [eg_1]; exact hW
    have hf2 : g_1 1 = .inr (2, [.ref (ad 2), .ref (ad 3)]) := by rw [eg_1]; exact (va_up_n (by decide)).trans f1
    have hf3 : g_1 2 = .inl (cy 2, 24, .inr (.inr (.inr (.inr (va_up f b (some (ad n))))))) := by rw [eg_1]; exact va_up_s
    have hf4 : g_1 3 = .inl (cy 0, 6, .inl fs) := by rw [eg_1]; exact (va_up_n (by decide)).trans f3
    exact ret _ _ _ _ _ dX2_put_16 hW ⟨hf3, (fun k hk => by show g_1 k = _; simp only [List.mem_cons, List.not_mem_nil, or_false, not_or] at hk; rw [eg_1, va_up_n (by omega)])⟩

set_option maxHeartbeats 4000000 in
set_option maxRecDepth 100000 in
theorem c_mAdd {l : Launch} {G : va_G} {cy : Nat → ClassId} {N : Nat} {ad : Nat → Nat} {g : Nat → va_E} {M : M4} {k n : Nat} {fB : Nat → Option Nat} {fs : Nat → Int32} {vs : List Value} (hM0 : MachAt cy N ad g M) (f1 : g 1 = .inr (2, [.ref (ad 2), .ref (ad 3)])) (f2 : g 2 = .inl (cy 2, 24, .inr (.inr (.inr (.inr fB))))) (f3 : g 3 = .inl (cy 0, 6, .inl fs)) (f4 : ∀ k, k < 6 → fs k = nI (M.1 k)) (hk : k < 6) (hm : M.1 k < 4) (hn : n < N) (hg : g n = .inr (0, vs)) : MI l G cy (N, ad, g) yX2_add cX2_add 3 (some .int) (rmN 2) [.ref (ad 1), .int (nI k), .ref (ad n)] (nA N ad (fun r g1 => r = nI (M.1 k + 1) ∧ g1 2 = .inl (cy 2, 24, .inr (.inr (.inr (.inr (va_up fB (4 * k + M.1 k) (some (ad n))))))) ∧ g1 3 = .inl (cy 0, 6, .inl (upd fs k (fs k + 1))) ∧ Fr g g1 [2, 3])) := by
  refine NI.mk (by decide) (by intros; first | rfl | (simp_all; done)) (Nat.le_of_ble_eq_true rfl) ?_
  intro jp je js jm below meth jc A Q X hW ret ls hl
  have jx := X.hx
  have jb := X.hb
  have hl : lv_has ls 3 [(0, .ref (ad 1)), (1, .int (nI k)), (2, .ref (ad n))] := hl
  have X : Cx G cy jp js jm _ jc cX2_add 3 RX2 A js.heap := X
  have h83 : 83 ≤ N := hM0.2.1
  refine lv_aload_n jx jb dX2_add_0 rfl (lv_at hl 0 rfl) ?_
  refine lv_iload_n jx jb dX2_add_1 rfl (lv_at hl 1 rfl) ?_
  refine w_rV (As := [.int (nI k)]) X hW (c_hasRoom hM0) (by omega) f1 rfl rfl ml_X2_25 mf_X2_hasRoom ⟨Nat.le_of_ble_eq_true rfl, Nat.le_of_ble_eq_true rfl⟩ hl.1 rfl (Nat.le_of_ble_eq_true rfl) ⟨Nat.le_of_ble_eq_true rfl, Nat.le_of_ble_eq_true rfl⟩ dX2_add_2 (fun H locs hW => ?_)
  refine lv_if_ne (tgt := 10) jx jb dX2_add_5 (by decide) (fun c5 => ?_) (fun c5 => ?_)
  · refine lv_aload_n jx jb dX2_add_10 rfl (lv_at hl 0 rfl) ?_
    refine lv_iload_n jx jb dX2_add_11 rfl (lv_at hl 1 rfl) ?_
    refine lv_iconst (v := 4) jx jb dX2_add_12 (by decide) ?_
    refine lv_imul jx jb dX2_add_13 ?_
    refine lv_aload_n jx jb dX2_add_14 rfl (lv_at hl 0 rfl) ?_
    refine w_get X hW K2 (by omega) f1 1 (by decide) fl_X2_17 rfl dX2_add_15 ?_
    refine lv_iload_n jx jb dX2_add_18 rfl (lv_at hl 1 rfl) ?_
    refine w_ild X hW (by omega) f3 k rfl hk (by decide) dX2_add_19 ?_
    refine lv_iadd jx jb dX2_add_20 ?_
    refine top_eq (y := nI (4 * k + M.1 k)) (by rw [f4 k hk, show (4 : Int32) = nI 4 from rfl, pk_mul, nI_add, Nat.mul_comm]) ?_
    refine lv_aload_n jx jb dX2_add_21 rfl (lv_at hl 2 rfl) ?_
    refine w_nVv (As := [.int (nI (4 * k + M.1 k)), .ref (ad n)]) X hW (c_put h83 f1 f2 f3 (by omega) hn hg) (by omega) f1 rfl rfl ml_X2_29 mf_X2_put ⟨Nat.le_of_ble_eq_true rfl, Nat.le_of_ble_eq_true rfl⟩ hl.1 rfl (Nat.le_of_ble_eq_true rfl) ⟨Nat.le_of_ble_eq_true rfl, Nat.le_of_ble_eq_true rfl⟩ dX2_add_22 (fun g1 H locs hp hW => ?_)
    obtain ⟨p2, pfr⟩ := hp
    have hf1 : g1 1 = .inr (2, [.ref (ad 2), .ref (ad 3)]) := (pfr 1 (by simp only [List.mem_cons, List.not_mem_nil, or_false, not_or] <;> omega)).trans f1
    have hf2 : g1 3 = .inl (cy 0, 6, .inl fs) := (pfr 3 (by simp only [List.mem_cons, List.not_mem_nil, or_false, not_or] <;> omega)).trans f3
    refine lv_aload_n jx jb dX2_add_25 rfl (lv_at hl 0 rfl) ?_
    refine w_get X hW K2 (by omega) hf1 1 (by decide) fl_X2_17 rfl dX2_add_26 ?_
    refine lv_iload_n jx jb dX2_add_29 rfl (lv_at hl 1 rfl) ?_
    refine lv_dup2_11 jx jb dX2_add_30 rfl rfl ?_
    refine w_ild X hW (by omega) hf2 k rfl hk (by decide) dX2_add_31 ?_
    refine lv_iconst (v := 1) jx jb dX2_add_32 (by decide) ?_
    refine lv_iadd jx jb dX2_add_33 ?_
    refine w_ist X hW (by omega) hf2 k rfl hk (by decide) dX2_add_34 (fun H locs hW => ?_)
    obtain ⟨g_3, eg_3⟩ : ∃ zz, zz = va_up g1 3 (.inl (cy 0, 6, .inl (upd fs k ((fs k) + 1)))) := ⟨_, rfl⟩
    have hW : Wd G A js.heap (N, ad, g_3) H locs := by rw [eg_3]; exact hW
    have hf4 : g_3 1 = .inr (2, [.ref (ad 2), .ref (ad 3)]) := by rw [eg_3]; exact (va_up_n (by decide)).trans hf1
    have hf5 : g_3 2 = .inl (cy 2, 24, .inr (.inr (.inr (.inr (va_up fB (4 * k + M.1 k) (some (ad n))))))) := by rw [eg_3]; exact (va_up_n (by decide)).trans p2
    have hf6 : g_3 3 = .inl (cy 0, 6, .inl (upd fs k ((fs k) + 1))) := by rw [eg_3]; exact va_up_s
    refine lv_aload_n jx jb dX2_add_35 rfl (lv_at hl 0 rfl) ?_
    refine w_get X hW K2 (by omega) hf4 1 (by decide) fl_X2_17 rfl dX2_add_36 ?_
    refine lv_iload_n jx jb dX2_add_39 rfl (lv_at hl 1 rfl) ?_
    refine w_ild X hW (by omega) hf6 k rfl hk (by decide) dX2_add_40 ?_
    exact ret _ _ _ _ _ _ dX2_add_41 hW ⟨by rw [pk_us, f4 k hk]; exact nI_1 _, hf5, hf6, (fun k hk => by show g_3 k = _; simp only [List.mem_cons, List.not_mem_nil, or_false, not_or] at hk; rw [eg_3, va_up_n (by omega), pfr k (by simp only [List.mem_cons, List.not_mem_nil, or_false, not_or] <;> omega)])⟩
  · exact absurd c5 (bI_n0.mpr ((hasR_nI hk).mpr hm))

set_option maxHeartbeats 4000000 in
set_option maxRecDepth 100000 in
theorem c_allBits {l : Launch} {G : va_G} {cy : Nat → ClassId} {N : Nat} {ad : Nat → Nat} {g : Nat → va_E} {M : M4} (hM : MachAt cy N ad g M) : RI l G cy (N, ad, g) yX2_allBits cX2_allBits 3 (some .int) (rmN 0) [.ref (ad 1)] (abq M 24) := by
  refine RI.mk (by decide) (by first | rfl | exact bI_nar) (Nat.le_of_ble_eq_true rfl) ?_
  intro jp je js jm below meth jc A Q X hW ret ls hl
  have jx := X.hx
  have jb := X.hb
  have hl : lv_has ls 3 [(0, .ref (ad 1))] := hl
  have X : Cx G cy jp js jm _ jc cX2_allBits 3 RX2 A js.heap := X
  obtain ⟨hok, h83, bc, fs, f1, ⟨fB, f2, hfb0⟩, f3, f4, f5, f6⟩ := hM
  refine lv_iconst (v := 0) jx jb dX2_allBits_0 (by decide) ?_
  refine lv_istore_n (lv' := [(1, .int 0), (0, .ref (ad 1))]) jx jb dX2_allBits_1 rfl hl (by decide) rfl (fun ls hl => ?_)
  refine lv_iconst (v := 0) jx jb dX2_allBits_2 (by decide) ?_
  refine lv_istore_n (lv' := [(2, .int 0), (1, .int 0), (0, .ref (ad 1))]) jx jb dX2_allBits_3 rfl hl (by decide) rfl (fun ls hl => ?_)
  have loop4 : ∀ (fuel4 : Nat) (b : Nat) (H : Heap) (locs : List Loc) (ls : Array Slot), (b ≤ 24) → 24 - b < fuel4 → Wd G A js.heap (N, ad, g) H locs → lv_has ls 3 [(0, .ref (ad 1)), (1, .int (abq M b)), (2, .int (nI b))] → W jp l je (rmN 0) js jm [.ref (ad 1)].toArray below meth jc H locs 0 0 Q (F0 jm 4 ls []) := by
    intro fuel4
    induction fuel4 with
    | zero => intro b H locs ls hb  hm4; exact absurd hm4 (Nat.not_lt_zero _)
    | succ fuel4 ih4 =>
      intro b H locs ls hb  hm4 hW hl
      refine lv_iload_n jx jb dX2_allBits_4 rfl (lv_at hl 2 rfl) ?_
      refine lv_bipush (v := 24) jx jb dX2_allBits_5 (by decide) ?_
      refine lv_icmp_ge (tgt := 31) jx jb dX2_allBits_7 (by decide) (fun c7 => ?_) (fun c7 => ?_)
      · refine lv_iload_n jx jb dX2_allBits_31 rfl (lv_at hl 1 rfl) ?_
        exact ret _ _ _ _ _ dX2_allBits_32 hW (by have := n_le (a := 24) (by decide) (by omega) c7; rw [show b = 24 by omega])
      · have hlt : b < 24 := n_nle (a := 24) (by decide) (by omega) c7
        refine lv_aload_n jx jb dX2_allBits_10 rfl (lv_at hl 0 rfl) ?_
        refine w_get X hW K2 (by omega) f1 0 (by decide) fl_X2_11 rfl dX2_allBits_11 ?_
        refine lv_iload_n jx jb dX2_allBits_14 rfl (lv_at hl 2 rfl) ?_
        refine w_ald X hW (by omega) (t := 2) rfl f2 b rfl hlt (by decide) dX2_allBits_15 ?_
        by_cases hq : b % 4 < M.1 (b / 4)
        · obtain ⟨n, n1, n2, n3, n4⟩ := f5 b hlt hq
          refine top_q (y := some (ad n)) (by rw [hfb0 _ (by omega), n1]; rfl) ?_
          refine lv_ifnull jx jb dX2_allBits_16 ?_
          refine lv_iload_n jx jb dX2_allBits_19 rfl (lv_at hl 1 rfl) ?_
          refine lv_iconst (v := 1) jx jb dX2_allBits_20 (by decide) ?_
          refine lv_iload_n jx jb dX2_allBits_21 rfl (lv_at hl 2 rfl) ?_
          refine lv_ishl jx jb dX2_allBits_22 ?_
          refine lv_ior jx jb dX2_allBits_23 ?_
          refine top_eq (y := abq M (b + 1)) ((if_pos hq).symm) ?_
          refine lv_istore_n (lv' := [(1, .int (abq M (b + 1))), (0, .ref (ad 1)), (2, .int (nI b))]) jx jb dX2_allBits_24 rfl hl (by decide) rfl (fun ls hl => ?_)
          refine lv_iinc (v := nI (b + 1)) (lv' := [(2, .int (nI (b + 1))), (1, .int (abq M (b + 1))), (0, .ref (ad 1))]) jx jb dX2_allBits_25 hl (k := 2) rfl (show nI b + 1 = nI (b + 1) from nI_1 _) (by decide) rfl (fun ls hl => ?_)
          refine lv_goto (tgt := 4) jx jb dX2_allBits_28 (by decide) ?_
          exact ih4 (b + 1)  _ _ _ (by omega)  (by omega) hW (lv_sub hl [2, 1, 0] rfl)
        · refine top_q (y := none) (by rw [hfb0 _ (by omega), f6 b hlt hq]; rfl) ?_
          refine lv_ifnullN (tgt := 25) jx jb dX2_allBits_16 (by decide) ?_
          have hl : lv_has ls 3 [(0, .ref (ad 1)), (1, .int (abq M (b + 1))), (2, .int (nI b))] := by rw [show abq M (b + 1) = abq M b from if_neg hq]; exact hl
          refine lv_iinc (v := nI (b + 1)) (lv' := [(2, .int (nI (b + 1))), (0, .ref (ad 1)), (1, .int (abq M (b + 1)))]) jx jb dX2_allBits_25 hl (k := 2) rfl (show nI b + 1 = nI (b + 1) from nI_1 _) (by decide) rfl (fun ls hl => ?_)
          refine lv_goto (tgt := 4) jx jb dX2_allBits_28 (by decide) ?_
          exact ih4 (b + 1)  _ _ _ (by omega)  (by omega) hW (lv_sub hl [1, 2, 0] rfl)
  exact loop4 _ 0  _ _ _ (by omega)  (Nat.lt_succ_self _) hW (lv_sub hl [2, 1, 0] rfl)

set_option maxHeartbeats 4000000 in
set_option maxRecDepth 100000 in
theorem c_takenBy {l : Launch} {G : va_G} {cy : Nat → ClassId} {N : Nat} {ad : Nat → Nat} {g : Nat → va_E} {M : M4} {c0 st : Nat} (hM0 : MachAt cy N ad g M) (hc : c0 < 96) (hs : st < 65536) : RI l G cy (N, ad, g) yX2_takenBy cX2_takenBy 6 (some .int) (rmN 2) [.ref (ad 1), .int (nI c0), .int (nI st)] (tI (tk M (c0 / 16) st)) := by
  refine RI.mk (by decide) (by first | rfl | exact bI_nar) (Nat.le_of_ble_eq_true rfl) ?_
  intro jp je js jm below meth jc A Q X hW ret ls hl
  have jx := X.hx
  have jb := X.hb
  have hl : lv_has ls 6 [(0, .ref (ad 1)), (1, .int (nI c0)), (2, .int (nI st))] := hl
  have X : Cx G cy jp js jm _ jc cX2_takenBy 6 RX2 A js.heap := X
  obtain ⟨hok, h83, bc, fs, f1, ⟨fB, f2, hfb0⟩, f3, f4, f5, f6⟩ := id hM0
  have hk6 : c0 / 16 < 6 := by omega
  have hm4 := hok.1 _ hk6
  refine lv_iload_n jx jb dX2_takenBy_0 rfl (lv_at hl 1 rfl) ?_
  refine w_rN (As := [.int (nI c0)]) X hW (c_kindOf (by omega)) mn_X2_33 mf_X8_kindOf ⟨Nat.le_of_ble_eq_true rfl, Nat.le_of_ble_eq_true rfl⟩ hl.1 rfl (Nat.le_of_ble_eq_true rfl) ⟨Nat.le_of_ble_eq_true rfl, Nat.le_of_ble_eq_true rfl⟩ dX2_takenBy_1 (fun H locs hW => ?_)
  refine lv_istore_n (lv' := [(3, .int (nI (c0 / 16))), (0, .ref (ad 1)), (1, .int (nI c0)), (2, .int (nI st))]) jx jb dX2_takenBy_4 rfl hl (by decide) rfl (fun ls hl => ?_)
  refine lv_iload_n jx jb dX2_takenBy_5 rfl (lv_at hl 0 rfl) ?_
  refine lv_bipush (v := 6) jx jb dX2_takenBy_6 (by decide) ?_
  refine w_rN (As := [.int (nI (c0 / 16)), .int 6]) X hW (c_isBelow) mn_X2_21 mf_X8_isBelow ⟨Nat.le_of_ble_eq_true rfl, Nat.le_of_ble_eq_true rfl⟩ hl.1 rfl (Nat.le_of_ble_eq_true rfl) ⟨Nat.le_of_ble_eq_true rfl, Nat.le_of_ble_eq_true rfl⟩ dX2_takenBy_8 (fun H locs hW => ?_)
  refine lv_if_ne (tgt := 16) jx jb dX2_takenBy_11 (by decide) (fun c11 => ?_) (fun c11 => ?_)
  · refine lv_iload_n jx jb dX2_takenBy_16 rfl (lv_at hl 0 rfl) ?_
    refine lv_iconst (v := 4) jx jb dX2_takenBy_17 (by decide) ?_
    refine lv_imul jx jb dX2_takenBy_18 ?_
    refine top_eq (y := nI (4 * (c0 / 16) + 0)) (by rw [show (4 : Int32) = nI 4 from rfl, pk_mul, Nat.mul_comm]; rfl) ?_
    refine lv_istore (lv' := [(4, .int (nI (4 * (c0 / 16) + 0))), (3, .int (nI (c0 / 16))), (0, .ref (ad 1)), (1, .int (nI c0)), (2, .int (nI st))]) jx jb dX2_takenBy_19 hl (by decide) rfl (fun ls hl => ?_)
    refine lv_iload jx jb dX2_takenBy_21 (lv_at hl 0 rfl) ?_
    refine lv_istore (lv' := [(5, .int (nI (4 * (c0 / 16) + 0))), (4, .int (nI (4 * (c0 / 16) + 0))), (3, .int (nI (c0 / 16))), (0, .ref (ad 1)), (1, .int (nI c0)), (2, .int (nI st))]) jx jb dX2_takenBy_23 hl (by decide) rfl (fun ls hl => ?_)
    have loop25 : ∀ (fuel25 : Nat) (i : Nat) (H : Heap) (locs : List Loc) (ls : Array Slot), (i ≤ M.1 (c0 / 16)) → (fb (fun b => hold (M.2.1 b) st) (c0 / 16) i (M.1 (c0 / 16) - i) = tk M (c0 / 16) st) → M.1 (c0 / 16) - i < fuel25 → Wd G A js.heap (N, ad, g) H locs → lv_has ls 6 [(0, .ref (ad 1)), (1, .int (nI c0)), (2, .int (nI st)), (3, .int (nI (c0 / 16))), (4, .int (nI (4 * (c0 / 16) + 0))), (5, .int (nI (4 * (c0 / 16) + i)))] → W jp l je (rmN 2) js jm [.ref (ad 1), .int (nI c0), .int (nI st)].toArray below meth jc H locs 0 0 Q (F0 jm 25 ls []) := by
      intro fuel25
      induction fuel25 with
      | zero => intro i H locs ls hi hfb  hm25; exact absurd hm25 (Nat.not_lt_zero _)
      | succ fuel25 ih25 =>
        intro i H locs ls hi hfb  hm25 hW hl
        refine lv_iload jx jb dX2_takenBy_25 (lv_at hl 5 rfl) ?_
        refine lv_iload jx jb dX2_takenBy_27 (lv_at hl 4 rfl) ?_
        refine lv_aload_n jx jb dX2_takenBy_29 rfl (lv_at hl 0 rfl) ?_
        refine w_get X hW K2 (by omega) f1 1 (by decide) fl_X2_17 rfl dX2_takenBy_30 ?_
        refine lv_iload_n jx jb dX2_takenBy_33 rfl (lv_at hl 3 rfl) ?_
        refine w_ild X hW (by omega) f3 (c0 / 16) rfl hk6 (by decide) dX2_takenBy_34 ?_
        refine lv_iadd jx jb dX2_takenBy_35 ?_
        refine top_eq (y := nI (4 * (c0 / 16) + M.1 (c0 / 16))) (by rw [f4 _ hk6, nI_add]; rfl) ?_
        refine lv_icmp_ge (tgt := 71) jx jb dX2_takenBy_36 (by decide) (fun c36 => ?_) (fun c36 => ?_)
        · refine lv_iconst (v := -1) jx jb dX2_takenBy_71 (by decide) ?_
          exact ret _ _ _ _ _ dX2_takenBy_72 hW (by have := n_le (by omega) (by omega) c36; have h0 : M.1 (c0 / 16) - i = 0 := (by omega); rw [← hfb, h0]; rfl)
        · have hlt : i < M.1 (c0 / 16) := by have := n_nle (by omega) (by omega) c36; omega
          have hbit : 4 * (c0 / 16) + i < 24 := by omega
          have hth : (4 * (c0 / 16) + i) % 4 < M.1 ((4 * (c0 / 16) + i) / 4) := by rw [show (4 * (c0 / 16) + i) / 4 = c0 / 16 by omega]; omega
          obtain ⟨n, n1, n2, n3, n4⟩ := f5 _ hbit hth
          obtain ⟨w1, w2, w3⟩ := hok.2 _ hbit hth
          have hd : M.1 (c0 / 16) - i = (M.1 (c0 / 16) - i - 1) + 1 := by omega
          refine lv_aload_n jx jb dX2_takenBy_39 rfl (lv_at hl 0 rfl) ?_
          refine lv_iload jx jb dX2_takenBy_40 (lv_at hl 5 rfl) ?_
          refine w_rV (As := [.int (nI (4 * (c0 / 16) + i))]) X hW (c_has hM0) (by omega) f1 rfl rfl ml_X2_37 mf_X2_has ⟨Nat.le_of_ble_eq_true rfl, Nat.le_of_ble_eq_true rfl⟩ hl.1 rfl (Nat.le_of_ble_eq_true rfl) ⟨Nat.le_of_ble_eq_true rfl, Nat.le_of_ble_eq_true rfl⟩ dX2_takenBy_42 (fun H locs hW => ?_)
          refine lv_if_eq (tgt := 65) jx jb dX2_takenBy_45 (by decide) (fun c45 => ?_) (fun c45 => ?_)
          · exact absurd (bI_0.mp c45) (fun z => z ((isB_nI hbit).mpr hth))
          · refine lv_aload_n jx jb dX2_takenBy_48 rfl (lv_at hl 0 rfl) ?_
            refine w_get X hW K2 (by omega) f1 0 (by decide) fl_X2_11 rfl dX2_takenBy_49 ?_
            refine lv_iload jx jb dX2_takenBy_52 (lv_at hl 5 rfl) ?_
            refine w_ald X hW (by omega) (t := 2) rfl f2 (4 * (c0 / 16) + i) rfl hbit (by decide) dX2_takenBy_54 ?_
            refine top_q (y := some (ad n)) (by rw [hfb0 _ (by omega), n1]; rfl) ?_
            refine lv_iload_n jx jb dX2_takenBy_55 rfl (lv_at hl 2 rfl) ?_
            refine w_rV (As := [.int (nI st)]) X hW (c_holds n3 n4 w1 hs) n3 n4 rfl rfl ml_X2_40 mf_X0_holds ⟨Nat.le_of_ble_eq_true rfl, Nat.le_of_ble_eq_true rfl⟩ hl.1 rfl (Nat.le_of_ble_eq_true rfl) ⟨Nat.le_of_ble_eq_true rfl, Nat.le_of_ble_eq_true rfl⟩ dX2_takenBy_56 (fun H locs hW => ?_)
            refine lv_if_eq (tgt := 65) jx jb dX2_takenBy_59 (by decide) (fun c59 => ?_) (fun c59 => ?_)
            · have hnh := bI_0.mp c59
              refine lv_iinc (v := nI ((4 * (c0 / 16) + i) + 1)) (lv' := [(5, .int (nI ((4 * (c0 / 16) + i) + 1))), (0, .ref (ad 1)), (1, .int (nI c0)), (2, .int (nI st)), (3, .int (nI (c0 / 16))), (4, .int (nI (4 * (c0 / 16) + 0)))]) jx jb dX2_takenBy_65 hl (k := 5) rfl (show nI (4 * (c0 / 16) + i) + 1 = nI ((4 * (c0 / 16) + i) + 1) from nI_1 _) (by decide) rfl (fun ls hl => ?_)
              refine lv_goto (tgt := 25) jx jb dX2_takenBy_68 (by decide) ?_
              exact ih25 (i + 1)  _ _ _ (by omega) (by rw [← hfb, hd, fb, if_neg hnh, show M.1 (c0 / 16) - (i + 1) = M.1 (c0 / 16) - i - 1 by omega])  (by omega) hW (lv_sub hl [1, 2, 3, 4, 5, 0] rfl)
            · refine lv_iload jx jb dX2_takenBy_62 (lv_at hl 5 rfl) ?_
              exact ret _ _ _ _ _ dX2_takenBy_64 hW (by rw [← hfb, hd, fb, if_pos (bI_n0.mp c59)]; rfl)
    exact loop25 _ 0  _ _ _ (by omega) rfl  (Nat.lt_succ_self _) hW (lv_sub hl [3, 4, 5, 2, 1, 0] rfl)
  · exact absurd (c11.symm.trans (bel_t (b := 6) hk6 (by decide))) (by decide)

set_option maxHeartbeats 4000000 in
set_option maxRecDepth 100000 in
theorem c_mStateBehind {l : Launch} {G : va_G} {cy : Nat → ClassId} {N : Nat} {ad : Nat → Nat} {g : Nat → va_E} {M : M4} {k st num : Nat} (hM0 : MachAt cy N ad g M) (hk : k < 6) (hs : st < 65536) (hnum : num < 16) : RI l G cy (N, ad, g) yX2_stateBehind cX2_stateBehind 4 (some .int) (rmN 2) [.ref (ad 1), .int (tI (tk M k st)), .int (nI st), .int (nI num)] (nI (nx M (tk M k st) st num)) := by
  refine RI.mk (by decide) (by first | rfl | exact bI_nar) (Nat.le_of_ble_eq_true rfl) ?_
  intro jp je js jm below meth jc A Q X hW ret ls hl
  have jx := X.hx
  have jb := X.hb
  have hl : lv_has ls 4 [(0, .ref (ad 1)), (1, .int (tI (tk M k st))), (2, .int (nI st)), (3, .int (nI num))] := hl
  have X : Cx G cy jp js jm _ jc cX2_stateBehind 4 RX2 A js.heap := X
  obtain ⟨hok, h83, bc, fs, f1, ⟨fB, f2, hfb0⟩, f3, f4, f5, f6⟩ := id hM0
  refine lv_aload_n jx jb dX2_stateBehind_0 rfl (lv_at hl 0 rfl) ?_
  refine lv_iload_n jx jb dX2_stateBehind_1 rfl (lv_at hl 1 rfl) ?_
  refine w_rV (As := [.int (tI (tk M k st))]) X hW (c_has hM0) (by omega) f1 rfl rfl ml_X2_37 mf_X2_has ⟨Nat.le_of_ble_eq_true rfl, Nat.le_of_ble_eq_true rfl⟩ hl.1 rfl (Nat.le_of_ble_eq_true rfl) ⟨Nat.le_of_ble_eq_true rfl, Nat.le_of_ble_eq_true rfl⟩ dX2_stateBehind_2 (fun H locs hW => ?_)
  refine lv_if_eq (tgt := 22) jx jb dX2_stateBehind_5 (by decide) (fun c5 => ?_) (fun c5 => ?_)
  · refine lv_iload_n jx jb dX2_stateBehind_22 rfl (lv_at hl 2 rfl) ?_
    exact ret _ _ _ _ _ dX2_stateBehind_23 hW (by cases h : tk M k st with | none => rfl | some b => exact absurd ((tI_isB hok hk).mpr ⟨b, h⟩) (bI_0.mp c5))
  · obtain ⟨b, hb⟩ := (tI_isB hok hk).mp (bI_n0.mp c5)
    obtain ⟨b1, b2, b3⟩ := tk_some hok hk hb
    obtain ⟨n, n1, n2, n3, n4⟩ := f5 b b1 b3
    obtain ⟨w1, w2, w3⟩ := hok.2 b b1 b3
    refine lv_aload_n jx jb dX2_stateBehind_8 rfl (lv_at hl 0 rfl) ?_
    refine w_get X hW K2 (by omega) f1 0 (by decide) fl_X2_11 rfl dX2_stateBehind_9 ?_
    refine lv_iload_n jx jb dX2_stateBehind_12 rfl (lv_at hl 1 rfl) ?_
    refine w_ald X hW (by omega) (t := 2) rfl f2 b (by rw [hb]; rfl) b1 (by decide) dX2_stateBehind_13 ?_
    refine top_q (y := some (ad n)) (by rw [hfb0 _ (by omega), n1]; rfl) ?_
    refine lv_iload_n jx jb dX2_stateBehind_14 rfl (lv_at hl 2 rfl) ?_
    refine lv_iload_n jx jb dX2_stateBehind_15 rfl (lv_at hl 3 rfl) ?_
    refine w_rV (As := [.int (nI st), .int (nI num)]) X hW (c_brStateBehind n3 n4 w2 hs hnum) n3 n4 rfl rfl ml_X2_43 mf_X0_stateBehind ⟨Nat.le_of_ble_eq_true rfl, Nat.le_of_ble_eq_true rfl⟩ hl.1 rfl (Nat.le_of_ble_eq_true rfl) ⟨Nat.le_of_ble_eq_true rfl, Nat.le_of_ble_eq_true rfl⟩ dX2_stateBehind_16 (fun H locs hW => ?_)
    refine lv_goto (tgt := 23) jx jb dX2_stateBehind_19 (by decide) ?_
    exact ret _ _ _ _ _ dX2_stateBehind_23 hW (by rw [hb]; rfl)

set_option maxHeartbeats 4000000 in
set_option maxRecDepth 100000 in
theorem c_resultOf {l : Launch} {G : va_G} {cy : Nat → ClassId} {N : Nat} {ad : Nat → Nat} {g : Nat → va_E} {M : M4} {k st st2 : Nat} (hM0 : MachAt cy N ad g M) (hk : k < 6) (hs : st2 < 65536) : RI l G cy (N, ad, g) yX2_resultOf cX2_resultOf 3 (some .int) (rmN 2) [.ref (ad 1), .int (tI (tk M k st)), .int (nI st2)] (rs M (tk M k st) st2) := by
  refine RI.mk (by decide) (by first | rfl | exact bI_nar) (Nat.le_of_ble_eq_true rfl) ?_
  intro jp je js jm below meth jc A Q X hW ret ls hl
  have jx := X.hx
  have jb := X.hb
  have hl : lv_has ls 3 [(0, .ref (ad 1)), (1, .int (tI (tk M k st))), (2, .int (nI st2))] := hl
  have X : Cx G cy jp js jm _ jc cX2_resultOf 3 RX2 A js.heap := X
  obtain ⟨hok, h83, bc, fs, f1, ⟨fB, f2, hfb0⟩, f3, f4, f5, f6⟩ := id hM0
  refine lv_aload_n jx jb dX2_resultOf_0 rfl (lv_at hl 0 rfl) ?_
  refine lv_iload_n jx jb dX2_resultOf_1 rfl (lv_at hl 1 rfl) ?_
  refine w_rV (As := [.int (tI (tk M k st))]) X hW (c_has hM0) (by omega) f1 rfl rfl ml_X2_37 mf_X2_has ⟨Nat.le_of_ble_eq_true rfl, Nat.le_of_ble_eq_true rfl⟩ hl.1 rfl (Nat.le_of_ble_eq_true rfl) ⟨Nat.le_of_ble_eq_true rfl, Nat.le_of_ble_eq_true rfl⟩ dX2_resultOf_2 (fun H locs hW => ?_)
  refine lv_if_eq (tgt := 21) jx jb dX2_resultOf_5 (by decide) (fun c5 => ?_) (fun c5 => ?_)
  · refine lv_iconst (v := -1) jx jb dX2_resultOf_21 (by decide) ?_
    exact ret _ _ _ _ _ dX2_resultOf_22 hW (by cases h : tk M k st with | none => rfl | some b => exact absurd ((tI_isB hok hk).mpr ⟨b, h⟩) (bI_0.mp c5))
  · obtain ⟨b, hb⟩ := (tI_isB hok hk).mp (bI_n0.mp c5)
    obtain ⟨b1, b2, b3⟩ := tk_some hok hk hb
    obtain ⟨n, n1, n2, n3, n4⟩ := f5 b b1 b3
    obtain ⟨w1, w2, w3⟩ := hok.2 b b1 b3
    refine lv_aload_n jx jb dX2_resultOf_8 rfl (lv_at hl 0 rfl) ?_
    refine w_get X hW K2 (by omega) f1 0 (by decide) fl_X2_11 rfl dX2_resultOf_9 ?_
    refine lv_iload_n jx jb dX2_resultOf_12 rfl (lv_at hl 1 rfl) ?_
    refine w_ald X hW (by omega) (t := 2) rfl f2 b (by rw [hb]; rfl) b1 (by decide) dX2_resultOf_13 ?_
    refine top_q (y := some (ad n)) (by rw [hfb0 _ (by omega), n1]; rfl) ?_
    refine lv_iload_n jx jb dX2_resultOf_14 rfl (lv_at hl 2 rfl) ?_
    refine w_rV (As := [.int (nI st2)]) X hW (c_resultIn n3 n4 w3 hs) n3 n4 rfl rfl ml_X2_47 mf_X0_resultIn ⟨Nat.le_of_ble_eq_true rfl, Nat.le_of_ble_eq_true rfl⟩ hl.1 rfl (Nat.le_of_ble_eq_true rfl) ⟨Nat.le_of_ble_eq_true rfl, Nat.le_of_ble_eq_true rfl⟩ dX2_resultOf_15 (fun H locs hW => ?_)
    refine lv_goto (tgt := 22) jx jb dX2_resultOf_18 (by decide) ?_
    exact ret _ _ _ _ _ dX2_resultOf_22 hW (by rw [hb]; rfl)
