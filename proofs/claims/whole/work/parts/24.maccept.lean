set_option maxHeartbeats 4000000 in
set_option maxRecDepth 100000 in
theorem c_mAcceptNo {l : Launch} {G : va_G} {cy : Nat → ClassId} {N : Nat} {ad : Nat → Nat} {g : Nat → va_E} {q : Nat → Nat → Int32} {ca to : Int32} {T : Nat} {v : Int32} (hR : MRaw cy N ad g q ca (nI T) to) (hT12 : T ≤ 12) (hno : ¬ (0 ≤ v ∧ v < nI T)) : RI l G cy (N, ad, g) yX9_accept cX9_accept 3 (some .boolean) (rmN 2) [.ref (ad 63), .int v] 0 := by
  refine RI.mk (by decide) (by first | rfl | exact bI_nar) (Nat.le_of_ble_eq_true rfl) ?_
  intro jp je js jm below meth jc A Q X hW ret ls hl
  have jx := X.hx
  have jb := X.hb
  have hl : lv_has ls 3 [(0, .ref (ad 63)), (1, .int v)] := hl
  have X : Cx G cy jp js jm _ jc cX9_accept 3 RX9 A js.heap := X
  have h83 : 83 ≤ N := hR.1
  refine lv_aload_n jx jb dX9_accept_0 rfl (lv_at hl 0 rfl) ?_
  refine lv_iload_n jx jb dX9_accept_1 rfl (lv_at hl 1 rfl) ?_
  have m1 : g 63 = .inr (9, [.ref (ad 64), .ref (ad 65), .ref (ad 66), .ref (ad 67), .int ca, .ref (ad 68), .ref (ad 69), .ref (ad 70), .ref (ad 71), .ref (ad 72), .int (nI T), .ref (ad 73), .ref (ad 74), .ref (ad 75), .ref (ad 76), .ref (ad 77), .ref (ad 78), .ref (ad 79), .ref (ad 80), .int to, .ref (ad 81), .ref (ad 82)]) := hR.2.1
  refine w_rV (As := [.int v]) X hW (c_isTest hR hT12) (by omega) m1 rfl rfl ml_X9_121 mf_X9_isTest ⟨Nat.le_of_ble_eq_true rfl, Nat.le_of_ble_eq_true rfl⟩ hl.1 rfl (Nat.le_of_ble_eq_true rfl) ⟨Nat.le_of_ble_eq_true rfl, Nat.le_of_ble_eq_true rfl⟩ dX9_accept_2 (fun H locs hW => ?_)
  refine lv_if_ne (tgt := 10) jx jb dX9_accept_5 (by decide) (fun c5 => ?_) (fun c5 => ?_)
  · exact absurd (bI_n0.mp c5) hno
  · refine lv_iconst (v := 0) jx jb dX9_accept_8 (by decide) ?_
    exact ret _ _ _ _ _ dX9_accept_9 hW rfl

set_option maxHeartbeats 4000000 in
set_option maxRecDepth 100000 in
theorem c_mAccept {l : Launch} {G : va_G} {cy : Nat → ClassId} {N : Nat} {ad : Nat → Nat} {g : Nat → va_E} {q : Nat → Nat → Int32} {ca to : Int32} {T : Nat} {M : M4} {i : Nat} {row : List Nat} (hR : MRaw cy N ad g q ca (nI T) to) (hT12 : T ≤ 12) (hok : okM M) (hQ : QM q M) (hT : QR q i row) (hlen : q 73 i = nI row.length) (hiT : i < T) : MI l G cy (N, ad, g) yX9_accept cX9_accept 3 (some .boolean) (rmN 2) [.ref (ad 63), .int (nI i)] (nA N ad (fun v g1 => v = 1 ∧ ∃ q1 tv, MRaw cy N ad g1 q1 ca (nI T) tv ∧ (∀ a, a ≠ 76 → a ≠ 77 → a ≠ 78 → a ≠ 79 → a ≠ 80 → q1 a = q a) ∧ (∀ m, m < row.length → q1 76 (200 * i + m) = rsq M (gl row) 0 m) ∧ (∀ m, ¬ (200 * i ≤ m ∧ m < 200 * i + row.length) → q1 76 m = q 76 m) ∧ q1 77 i = mtq M (gl row) row.length ∧ (∀ m, m ≠ i → q1 77 m = q 77 m) ∧ q1 78 i = 0 ∧ (∀ m, m ≠ i → q1 78 m = q 78 m) ∧ q1 79 i = 0 ∧ (∀ m, m ≠ i → q1 79 m = q 79 m) ∧ ∀ k, ¬ (63 ≤ k ∧ k < 83) → g1 k = g k)) := by
  refine NI.mk (by decide) (by intro v g1 h; rw [h.1]; decide) (Nat.le_of_ble_eq_true rfl) ?_
  intro jp je js jm below meth jc A Q X hW ret ls hl
  have jx := X.hx
  have jb := X.hb
  have hl : lv_has ls 3 [(0, .ref (ad 63)), (1, .int (nI i))] := hl
  have X : Cx G cy jp js jm _ jc cX9_accept 3 RX9 A js.heap := X
  have h83 : 83 ≤ N := hR.1
  have hl200 := hT.1
  have hi : i < 12 := by omega
  refine lv_aload_n jx jb dX9_accept_0 rfl (lv_at hl 0 rfl) ?_
  refine lv_iload_n jx jb dX9_accept_1 rfl (lv_at hl 1 rfl) ?_
  have m1 : g 63 = .inr (9, [.ref (ad 64), .ref (ad 65), .ref (ad 66), .ref (ad 67), .int ca, .ref (ad 68), .ref (ad 69), .ref (ad 70), .ref (ad 71), .ref (ad 72), .int (nI T), .ref (ad 73), .ref (ad 74), .ref (ad 75), .ref (ad 76), .ref (ad 77), .ref (ad 78), .ref (ad 79), .ref (ad 80), .int to, .ref (ad 81), .ref (ad 82)]) := hR.2.1
  refine w_rV (As := [.int (nI i)]) X hW (c_isTest hR hT12) (by omega) m1 rfl rfl ml_X9_121 mf_X9_isTest ⟨Nat.le_of_ble_eq_true rfl, Nat.le_of_ble_eq_true rfl⟩ hl.1 rfl (Nat.le_of_ble_eq_true rfl) ⟨Nat.le_of_ble_eq_true rfl, Nat.le_of_ble_eq_true rfl⟩ dX9_accept_2 (fun H locs hW => ?_)
  refine lv_if_ne (tgt := 10) jx jb dX9_accept_5 (by decide) (fun c5 => ?_) (fun c5 => ?_)
  · refine lv_aload_n jx jb dX9_accept_10 rfl (lv_at hl 0 rfl) ?_
    refine w_nVv (As := []) X hW (c_begins hR) (by omega) m1 rfl rfl ml_X9_103 mf_X9_begins ⟨Nat.le_of_ble_eq_true rfl, Nat.le_of_ble_eq_true rfl⟩ hl.1 rfl (Nat.le_of_ble_eq_true rfl) ⟨Nat.le_of_ble_eq_true rfl, Nat.le_of_ble_eq_true rfl⟩ dX9_accept_11 (fun gBb2 H locs hp hW => ?_)
    obtain ⟨qBb2, hRBb2, hNBb2, hsBb2, frBb2⟩ := hp
    refine lv_aload_n jx jb dX9_accept_14 rfl (lv_at hl 0 rfl) ?_
    have m3 : gBb2 63 = .inr (9, [.ref (ad 64), .ref (ad 65), .ref (ad 66), .ref (ad 67), .int ca, .ref (ad 68), .ref (ad 69), .ref (ad 70), .ref (ad 71), .ref (ad 72), .int (nI T), .ref (ad 73), .ref (ad 74), .ref (ad 75), .ref (ad 76), .ref (ad 77), .ref (ad 78), .ref (ad 79), .ref (ad 80), .int to, .ref (ad 81), .ref (ad 82)]) := hRBb2.2.1
    refine w_get X hW K9 (by omega) m3 15 (by decide) fl_X9_49 rfl dX9_accept_15 ?_
    refine lv_iload_n jx jb dX9_accept_18 rfl (lv_at hl 1 rfl) ?_
    refine lv_iconst (v := 0) jx jb dX9_accept_19 (by decide) ?_
    have m4 : gBb2 77 = .inl (cy 0, 12, .inl (qBb2 77)) := hRBb2.2.2 77 (by decide) (by decide)
    refine w_ist X hW (by omega) m4 i rfl hi (by decide) dX9_accept_20 (fun H locs hW => ?_)
    obtain ⟨g_5, eg_5⟩ : ∃ zz, zz = va_up gBb2 77 (.inl (cy 0, 12, .inl (upd (qBb2 77) i 0))) := ⟨_, rfl⟩
    have hW : Wd G A js.heap (N, ad, g_5) H locs := by rw [eg_5]; exact hW
    obtain ⟨q_7, eq_7⟩ : ∃ zz, zz = va_up qBb2 77 (upd (qBb2 77) i 0) := ⟨_, rfl⟩
    have hR6 : MRaw cy N ad g_5 q_7 ca (nI T) to := by rw [eq_7]; exact hRBb2.put (by decide) (by decide) (fun k hk => by rw [eg_5, va_up_n hk]) (by rw [eg_5]; exact va_up_s)
    refine lv_sipush (v := 200) jx jb dX9_accept_21 (by decide) ?_
    refine lv_iload_n jx jb dX9_accept_24 rfl (lv_at hl 1 rfl) ?_
    refine lv_imul jx jb dX9_accept_25 ?_
    refine top_eq (y := nI (200 * i + 0)) (by rw [show (200 : Int32) = nI 200 from rfl, pk_mul]; rfl) ?_
    refine lv_istore_n (lv' := [(2, .int (nI (200 * i + 0))), (0, .ref (ad 63)), (1, .int (nI i))]) jx jb dX9_accept_26 rfl hl (by decide) rfl (fun ls hl => ?_)
    have loop27 : ∀ (fuel27 : Nat) (k : Nat) (tv : Int32) (qL27 : Nat → Nat → Int32) (gL27 : Nat → va_E) (H : Heap) (locs : List Loc) (ls : Array Slot), (MRaw cy N ad gL27 qL27 ca (nI T) tv) → (∀ k, ¬ (63 ≤ k ∧ k < 83) → gL27 k = g k) → (k ≤ row.length) → (∀ a, a ≠ 76 → a ≠ 77 → a ≠ 80 → qL27 a = q a) → (∀ m, m < k → qL27 76 (200 * i + m) = rsq M (gl row) 0 m) → (∀ m, ¬ (200 * i ≤ m ∧ m < 200 * i + row.length) → qL27 76 m = q 76 m) → (qL27 77 i = mtq M (gl row) k) → (∀ m, m ≠ i → qL27 77 m = q 77 m) → (QN qL27 (stq M (gl row) 0 k)) → row.length - k < fuel27 → Wd G A js.heap (N, ad, gL27) H locs → lv_has ls 3 [(0, .ref (ad 63)), (1, .int (nI i)), (2, .int (nI (200 * i + k)))] → W jp l je (rmN 2) js jm [.ref (ad 63), .int (nI i)].toArray below meth jc H locs 0 0 Q (F0 jm 27 ls []) := by
      intro fuel27
      induction fuel27 with
      | zero => intro k tv qL27 gL27 H locs ls hR27 hfr27 hk hsm hA hA2 hB hB2 hN  hm27; exact absurd hm27 (Nat.not_lt_zero _)
      | succ fuel27 ih27 =>
        intro k tv qL27 gL27 H locs ls hR27 hfr27 hk hsm hA hA2 hB hB2 hN  hm27 hW hl
        refine lv_iload_n jx jb dX9_accept_27 rfl (lv_at hl 2 rfl) ?_
        refine lv_sipush (v := 200) jx jb dX9_accept_28 (by decide) ?_
        refine lv_iload_n jx jb dX9_accept_31 rfl (lv_at hl 1 rfl) ?_
        refine lv_imul jx jb dX9_accept_32 ?_
        refine top_eq (y := nI (200 * i)) (by rw [show (200 : Int32) = nI 200 from rfl, pk_mul]) ?_
        refine lv_aload_n jx jb dX9_accept_33 rfl (lv_at hl 0 rfl) ?_
        have m8 : gL27 63 = .inr (9, [.ref (ad 64), .ref (ad 65), .ref (ad 66), .ref (ad 67), .int ca, .ref (ad 68), .ref (ad 69), .ref (ad 70), .ref (ad 71), .ref (ad 72), .int (nI T), .ref (ad 73), .ref (ad 74), .ref (ad 75), .ref (ad 76), .ref (ad 77), .ref (ad 78), .ref (ad 79), .ref (ad 80), .int tv, .ref (ad 81), .ref (ad 82)]) := hR27.2.1
        refine w_get X hW K9 (by omega) m8 11 (by decide) fl_X9_37 rfl dX9_accept_34 ?_
        refine lv_iload_n jx jb dX9_accept_37 rfl (lv_at hl 1 rfl) ?_
        have m9 : gL27 73 = .inl (cy 0, 12, .inl (qL27 73)) := hR27.2.2 73 (by decide) (by decide)
        refine w_ild X hW (by omega) m9 i rfl hi (by decide) dX9_accept_38 ?_
        refine lv_iadd jx jb dX9_accept_39 ?_
        refine top_eq (y := nI (200 * i + row.length)) (by rw [hsm 73 (by decide) (by decide) (by decide), hlen, nI_add]) ?_
        refine lv_icmp_ge (tgt := 94) jx jb dX9_accept_40 (by decide) (fun c40 => ?_) (fun c40 => ?_)
        · refine lv_aload_n jx jb dX9_accept_94 rfl (lv_at hl 0 rfl) ?_
          refine w_get X hW K9 (by omega) m8 16 (by decide) fl_X9_52 rfl dX9_accept_95 ?_
          refine lv_iload_n jx jb dX9_accept_98 rfl (lv_at hl 1 rfl) ?_
          refine lv_iconst (v := 0) jx jb dX9_accept_99 (by decide) ?_
          have m10 : gL27 78 = .inl (cy 1, 12, .inl (qL27 78)) := hR27.2.2 78 (by decide) (by decide)
          refine w_zst X hW (by omega) m10 i rfl hi (by decide) (by first | exact Or.inl rfl | exact Or.inr rfl | exact bI_01) dX9_accept_100 (fun H locs hW => ?_)
          obtain ⟨g_11, eg_11⟩ : ∃ zz, zz = va_up gL27 78 (.inl (cy 1, 12, .inl (upd (qL27 78) i 0))) := ⟨_, rfl⟩
          have hW : Wd G A js.heap (N, ad, g_11) H locs := by rw [eg_11]; exact hW
          obtain ⟨q_13, eq_13⟩ : ∃ zz, zz = va_up qL27 78 (upd (qL27 78) i 0) := ⟨_, rfl⟩
          have hR12 : MRaw cy N ad g_11 q_13 ca (nI T) tv := by rw [eq_13]; exact hR27.put (by decide) (by decide) (fun k hk => by rw [eg_11, va_up_n hk]) (by rw [eg_11]; exact va_up_s)
          refine lv_aload_n jx jb dX9_accept_101 rfl (lv_at hl 0 rfl) ?_
          have m14 : g_11 63 = .inr (9, [.ref (ad 64), .ref (ad 65), .ref (ad 66), .ref (ad 67), .int ca, .ref (ad 68), .ref (ad 69), .ref (ad 70), .ref (ad 71), .ref (ad 72), .int (nI T), .ref (ad 73), .ref (ad 74), .ref (ad 75), .ref (ad 76), .ref (ad 77), .ref (ad 78), .ref (ad 79), .ref (ad 80), .int tv, .ref (ad 81), .ref (ad 82)]) := hR12.2.1
          refine w_get X hW K9 (by omega) m14 17 (by decide) fl_X9_56 rfl dX9_accept_102 ?_
          refine lv_iload_n jx jb dX9_accept_105 rfl (lv_at hl 1 rfl) ?_
          refine lv_iconst (v := 0) jx jb dX9_accept_106 (by decide) ?_
          have m15 : g_11 79 = .inl (cy 1, 12, .inl (q_13 79)) := hR12.2.2 79 (by decide) (by decide)
          refine w_zst X hW (by omega) m15 i rfl hi (by decide) (by first | exact Or.inl rfl | exact Or.inr rfl | exact bI_01) dX9_accept_107 (fun H locs hW => ?_)
          obtain ⟨g_16, eg_16⟩ : ∃ zz, zz = va_up g_11 79 (.inl (cy 1, 12, .inl (upd (q_13 79) i 0))) := ⟨_, rfl⟩
          have hW : Wd G A js.heap (N, ad, g_16) H locs := by rw [eg_16]; exact hW
          obtain ⟨q_18, eq_18⟩ : ∃ zz, zz = va_up q_13 79 (upd (q_13 79) i 0) := ⟨_, rfl⟩
          have hR17 : MRaw cy N ad g_16 q_18 ca (nI T) tv := by rw [eq_18]; exact hR12.put (by decide) (by decide) (fun k hk => by rw [eg_16, va_up_n hk]) (by rw [eg_16]; exact va_up_s)
          refine lv_iconst (v := 1) jx jb dX9_accept_108 (by decide) ?_
          exact ret _ _ _ _ _ _ dX9_accept_109 hW (by have := n_le (by omega) (by omega) c40; have e : k = row.length := (by omega); rw [e] at hA hB; exact ⟨rfl, _, _, hR17, (fun a h1 h2 h3 h4 h5 => by rw [eq_18, va_up_n h4, eq_13, va_up_n h3]; exact hsm a h1 h2 h5), (fun m hm => by rw [eq_18, va_up_n (by decide), eq_13, va_up_n (by decide)]; exact hA m hm), (fun m hm => by rw [eq_18, va_up_n (by decide), eq_13, va_up_n (by decide)]; exact hA2 m hm), (by rw [eq_18, va_up_n (by decide), eq_13, va_up_n (by decide)]; exact hB), (fun m hm => by rw [eq_18, va_up_n (by decide), eq_13, va_up_n (by decide)]; exact hB2 m hm), (by rw [eq_18, va_up_n (by decide), eq_13, va_up_s, pk_us]), (fun m hm => by rw [eq_18, va_up_n (by decide), eq_13, va_up_s, pk_un hm]; exact congrFun (hsm 78 (by decide) (by decide) (by decide)) m), (by rw [eq_18, va_up_s, pk_us]), (fun m hm => by rw [eq_18, va_up_s, pk_un hm, eq_13, va_up_n (by decide)]; exact congrFun (hsm 79 (by decide) (by decide) (by decide)) m), (fun k hk => by show g_16 k = _; rw [eg_16, va_up_n (by omega), eg_11, va_up_n (by omega), hfr27 k hk])⟩)
        · have hlt : k < row.length := by have := n_nle (by omega) (by omega) c40; omega
          have h96 := hT.2.1 _ (gl_mem hlt)
          refine lv_aload_n jx jb dX9_accept_43 rfl (lv_at hl 0 rfl) ?_
          refine w_get X hW K9 (by omega) m8 14 (by decide) fl_X9_46 rfl dX9_accept_44 ?_
          refine lv_iload_n jx jb dX9_accept_47 rfl (lv_at hl 2 rfl) ?_
          refine lv_aload_n jx jb dX9_accept_48 rfl (lv_at hl 0 rfl) ?_
          refine lv_aload_n jx jb dX9_accept_49 rfl (lv_at hl 0 rfl) ?_
          refine w_get X hW K9 (by omega) m8 12 (by decide) fl_X9_40 rfl dX9_accept_50 ?_
          refine lv_iload_n jx jb dX9_accept_53 rfl (lv_at hl 2 rfl) ?_
          have m19 : gL27 74 = .inl (cy 0, 2400, .inl (qL27 74)) := hR27.2.2 74 (by decide) (by decide)
          refine w_ild X hW (by omega) m19 (200 * i + k) rfl (by omega) (by decide) dX9_accept_54 ?_
          refine top_eq (y := nI (gl row k / 16)) (by rw [hsm 74 (by decide) (by decide) (by decide)]; exact (hT.2.2 k hlt).1) ?_
          refine lv_aload_n jx jb dX9_accept_55 rfl (lv_at hl 0 rfl) ?_
          refine w_get X hW K9 (by omega) m8 13 (by decide) fl_X9_43 rfl dX9_accept_56 ?_
          refine lv_iload_n jx jb dX9_accept_59 rfl (lv_at hl 2 rfl) ?_
          have m20 : gL27 75 = .inl (cy 0, 2400, .inl (qL27 75)) := hR27.2.2 75 (by decide) (by decide)
          refine w_ild X hW (by omega) m20 (200 * i + k) rfl (by omega) (by decide) dX9_accept_60 ?_
          refine top_eq (y := nI (gl row k % 16)) (by rw [hsm 75 (by decide) (by decide) (by decide)]; exact (hT.2.2 k hlt).2) ?_
          refine w_nV (As := [.int (nI (gl row k / 16)), .int (nI (gl row k % 16))]) X hW (c_goes hR27 hok (hQ.of (fun a h1 h2 => hsm a (by omega) (by omega) (by omega))) hN (by omega) (Nat.mod_lt _ (by decide))) (by omega) m8 rfl rfl ml_X9_99 mf_X9_goes ⟨Nat.le_of_ble_eq_true rfl, Nat.le_of_ble_eq_true rfl⟩ hl.1 rfl (Nat.le_of_ble_eq_true rfl) ⟨Nat.le_of_ble_eq_true rfl, Nat.le_of_ble_eq_true rfl⟩ dX9_accept_61 (fun rx21 gGx21 H locs hp hW => ?_)
          obtain ⟨erx21, qGx21, hRGx21, hNGx21, hsGx21, frGx21⟩ := hp
          refine top_eq (y := rsq M (gl row) 0 k) (erx21) ?_
          have m22 : gGx21 76 = .inl (cy 0, 2400, .inl (qGx21 76)) := hRGx21.2.2 76 (by decide) (by decide)
          refine w_ist X hW (by omega) m22 (200 * i + k) rfl (by omega) (by decide) dX9_accept_64 (fun H locs hW => ?_)
          obtain ⟨g_23, eg_23⟩ : ∃ zz, zz = va_up gGx21 76 (.inl (cy 0, 2400, .inl (upd (qGx21 76) (200 * i + k) (rsq M (gl row) 0 k)))) := ⟨_, rfl⟩
          have hW : Wd G A js.heap (N, ad, g_23) H locs := by rw [eg_23]; exact hW
          obtain ⟨q_25, eq_25⟩ : ∃ zz, zz = va_up qGx21 76 (upd (qGx21 76) (200 * i + k) (rsq M (gl row) 0 k)) := ⟨_, rfl⟩
          have hR24 : MRaw cy N ad g_23 q_25 ca (nI T) (tI (tk M (gl row k / 16) (stq M (gl row) 0 k))) := by rw [eq_25]; exact hRGx21.put (by decide) (by decide) (fun k hk => by rw [eg_23, va_up_n hk]) (by rw [eg_23]; exact va_up_s)
          refine lv_aload_n jx jb dX9_accept_65 rfl (lv_at hl 0 rfl) ?_
          have m26 : g_23 63 = .inr (9, [.ref (ad 64), .ref (ad 65), .ref (ad 66), .ref (ad 67), .int ca, .ref (ad 68), .ref (ad 69), .ref (ad 70), .ref (ad 71), .ref (ad 72), .int (nI T), .ref (ad 73), .ref (ad 74), .ref (ad 75), .ref (ad 76), .ref (ad 77), .ref (ad 78), .ref (ad 79), .ref (ad 80), .int (tI (tk M (gl row k / 16) (stq M (gl row) 0 k))), .ref (ad 81), .ref (ad 82)]) := hR24.2.1
          refine w_get X hW K9 (by omega) m26 19 (by decide) fl_X9_90 rfl dX9_accept_66 ?_
          refine top_eq (y := tI (tkq M (gl row) 0 k)) (rfl) ?_
          refine lv_iconst (v := -1) jx jb dX9_accept_69 (by decide) ?_
          refine lv_icmp_eq (tgt := 88) jx jb dX9_accept_70 (by decide) (fun c70 => ?_) (fun c70 => ?_)
          · refine lv_iinc (v := nI ((200 * i + k) + 1)) (lv' := [(2, .int (nI ((200 * i + k) + 1))), (0, .ref (ad 63)), (1, .int (nI i))]) jx jb dX9_accept_88 hl (k := 2) rfl (show nI (200 * i + k) + 1 = nI ((200 * i + k) + 1) from nI_1 _) (by decide) rfl (fun ls hl => ?_)
            refine lv_goto (tgt := 27) jx jb dX9_accept_91 (by decide) ?_
            exact ih27 (k + 1) _ q_25 g_23 _ _ _ hR24 (fun k hk => by show g_23 k = _; rw [eg_23, va_up_n (by omega), frGx21 k hk, hfr27 k hk]) (by omega) (fun a h1 h2 h3 => by rw [eq_25, va_up_n h1, hsGx21 a h3]; exact hsm a h1 h2 h3) (fun m hm => by rw [eq_25, va_up_s]; by_cases z : m = k; (rw [z, pk_us]); (rw [pk_un (by omega), hsGx21 76 (by decide)]; exact hA m (by omega))) (fun m hm => by rw [eq_25, va_up_s, pk_un (by omega), hsGx21 76 (by decide)]; exact hA2 m hm) (by rw [eq_25, va_up_n (by decide), hsGx21 77 (by decide), hB, mt_none (tkq_b hok h96) c70]) (fun m hm => by rw [eq_25, va_up_n (by decide), hsGx21 77 (by decide)]; exact hB2 m hm) (fun j hj => by rw [eq_25, va_up_n (by decide)]; exact hNGx21 j hj)  (by omega) hW (lv_sub hl [1, 2, 0] rfl)
          · refine lv_aload_n jx jb dX9_accept_73 rfl (lv_at hl 0 rfl) ?_
            refine w_get X hW K9 (by omega) m26 15 (by decide) fl_X9_49 rfl dX9_accept_74 ?_
            refine lv_iload_n jx jb dX9_accept_77 rfl (lv_at hl 1 rfl) ?_
            refine lv_dup2_11 jx jb dX9_accept_78 rfl rfl ?_
            have m27 : g_23 77 = .inl (cy 0, 12, .inl (q_25 77)) := hR24.2.2 77 (by decide) (by decide)
            refine w_ild X hW (by omega) m27 i rfl hi (by decide) dX9_accept_79 ?_
            refine top_eq (y := mtq M (gl row) k) (by rw [eq_25, va_up_n (by decide), hsGx21 77 (by decide)]; exact hB) ?_
            refine lv_iconst (v := 1) jx jb dX9_accept_80 (by decide) ?_
            refine lv_aload_n jx jb dX9_accept_81 rfl (lv_at hl 0 rfl) ?_
            refine w_get X hW K9 (by omega) m26 19 (by decide) fl_X9_90 rfl dX9_accept_82 ?_
            refine top_eq (y := tI (tkq M (gl row) 0 k)) (rfl) ?_
            refine lv_ishl jx jb dX9_accept_85 ?_
            refine lv_ior jx jb dX9_accept_86 ?_
            refine top_eq (y := mtq M (gl row) (k + 1)) (mt_some c70) ?_
            refine w_ist X hW (by omega) m27 i rfl hi (by decide) dX9_accept_87 (fun H locs hW => ?_)
            obtain ⟨g_28, eg_28⟩ : ∃ zz, zz = va_up g_23 77 (.inl (cy 0, 12, .inl (upd (q_25 77) i (mtq M (gl row) (k + 1))))) := ⟨_, rfl⟩
            have hW : Wd G A js.heap (N, ad, g_28) H locs := by rw [eg_28]; exact hW
            obtain ⟨q_30, eq_30⟩ : ∃ zz, zz = va_up q_25 77 (upd (q_25 77) i (mtq M (gl row) (k + 1))) := ⟨_, rfl⟩
            have hR29 : MRaw cy N ad g_28 q_30 ca (nI T) (tI (tk M (gl row k / 16) (stq M (gl row) 0 k))) := by rw [eq_30]; exact hR24.put (by decide) (by decide) (fun k hk => by rw [eg_28, va_up_n hk]) (by rw [eg_28]; exact va_up_s)
            refine lv_iinc (v := nI ((200 * i + k) + 1)) (lv' := [(2, .int (nI ((200 * i + k) + 1))), (0, .ref (ad 63)), (1, .int (nI i))]) jx jb dX9_accept_88 hl (k := 2) rfl (show nI (200 * i + k) + 1 = nI ((200 * i + k) + 1) from nI_1 _) (by decide) rfl (fun ls hl => ?_)
            refine lv_goto (tgt := 27) jx jb dX9_accept_91 (by decide) ?_
            exact ih27 (k + 1) _ q_30 g_28 _ _ _ hR29 (fun k hk => by show g_28 k = _; rw [eg_28, va_up_n (by omega), eg_23, va_up_n (by omega), frGx21 k hk, hfr27 k hk]) (by omega) (fun a h1 h2 h3 => by rw [eq_30, va_up_n h2, eq_25, va_up_n h1, hsGx21 a h3]; exact hsm a h1 h2 h3) (fun m hm => by rw [eq_30, va_up_n (by decide), eq_25, va_up_s]; by_cases z : m = k; (rw [z, pk_us]); (rw [pk_un (by omega), hsGx21 76 (by decide)]; exact hA m (by omega))) (fun m hm => by rw [eq_30, va_up_n (by decide), eq_25, va_up_s, pk_un (by omega), hsGx21 76 (by decide)]; exact hA2 m hm) (by rw [eq_30, va_up_s, pk_us]) (fun m hm => by rw [eq_30, va_up_s, pk_un hm, eq_25, va_up_n (by decide), hsGx21 77 (by decide)]; exact hB2 m hm) (fun j hj => by rw [eq_30, va_up_n (by decide), eq_25, va_up_n (by decide)]; exact hNGx21 j hj)  (by omega) hW (lv_sub hl [1, 2, 0] rfl)
    exact loop27 _ 0 _ q_7 g_5 _ _ _ hR6 (fun k hk => by show g_5 k = _; rw [eg_5, va_up_n (by omega), frBb2 k hk]) (by omega) (fun a h1 h2 h3 => by rw [eq_7, va_up_n h2]; exact hsBb2 a h3) (fun m hm => absurd hm (by omega)) (fun m hm => by rw [eq_7, va_up_n (by decide), hsBb2 76 (by decide)]) (by rw [eq_7, va_up_s, pk_us]; rfl) (fun m hm => by rw [eq_7, va_up_s, pk_un hm, hsBb2 77 (by decide)]) (fun j hj => by rw [eq_7, va_up_n (by decide)]; exact hNBb2 j hj)  (Nat.lt_succ_self _) hW (lv_sub hl [1, 2, 0] rfl)
  · exact absurd (c5.symm.trans (bel_t hiT (by omega))) (by decide)

/-- the calls that are not left out, of the first k; and of the d from k on -/
def filL (o : Nat → Bool) (lg : List Nat) : Nat → List Nat
  | 0 => []
  | k + 1 => if o k = true then filL o lg k else filL o lg k ++ [gl lg k]
def restL (o : Nat → Bool) (lg : List Nat) : Nat → Nat → List Nat
  | _, 0 => []
  | k, d + 1 => if o k = true then restL o lg (k + 1) d else gl lg k :: restL o lg (k + 1) d
theorem stq_snoc {M : M4} {L : List Nat} {x s : Nat} : stq M (gl (L ++ [x])) s (L ++ [x]).length = stp M x (stq M (gl L) s L.length) := by
  rw [show (L ++ [x]).length = L.length + 1 by simp]
  show stp M (gl (L ++ [x]) L.length) (stq M (gl (L ++ [x])) s L.length) = _
  rw [show gl (L ++ [x]) L.length = x from gl_app_r (i := 0), stq_congr (fun i hi => gl_app_l hi)]
theorem tkq_snoc {M : M4} {L : List Nat} {x s : Nat} : tkq M (gl (L ++ [x])) s ((L ++ [x]).length - 1) = tk M (x / 16) (stq M (gl L) s L.length) := by
  rw [show (L ++ [x]).length - 1 = L.length by simp]
  show tk M (gl (L ++ [x]) L.length / 16) (stq M (gl (L ++ [x])) s L.length) = _
  rw [show gl (L ++ [x]) L.length = x from gl_app_r (i := 0), stq_congr (fun i hi => gl_app_l hi)]
theorem rsq_snoc {M : M4} {L : List Nat} {x s : Nat} : rsq M (gl (L ++ [x])) s ((L ++ [x]).length - 1) = rs M (tk M (x / 16) (stq M (gl L) s L.length)) (stp M x (stq M (gl L) s L.length)) := by
  show rs M (tkq M (gl (L ++ [x])) s ((L ++ [x]).length - 1)) (stq M (gl (L ++ [x])) s ((L ++ [x]).length - 1 + 1)) = _
  rw [tkq_snoc, show (L ++ [x]).length - 1 + 1 = (L ++ [x]).length by simp, stq_snoc]

set_option maxHeartbeats 4000000 in
set_option maxRecDepth 100000 in
theorem c_ends {l : Launch} {G : va_G} {cy : Nat → ClassId} {N : Nat} {ad : Nat → Nat} {g : Nat → va_E} {q : Nat → Nat → Int32} {te to : Int32} {M : M4} {lg : List Nat} {lr lt : Nat → Int32} {j : Nat} {o : Nat → Bool} (hR : MRaw cy N ad g q (nI lg.length) te to) (hok : okM M) (hQ : QM q M) (hL : QL q lg lr lt) (hj : j < lg.length) (ho : ∀ i, i ≤ j → q 81 i = bI (o i = true)) (hoj : o j = false) : MI l G cy (N, ad, g) yX9_ends cX9_ends 4 (some .int) (rmN 2) [.ref (ad 63), .int (nI j)] (nA N ad (fun v g1 => v = rsq M (gl (filL o lg (j + 1))) 0 ((filL o lg (j + 1)).length - 1) ∧ ∃ q1, MRaw cy N ad g1 q1 (nI lg.length) te (tI (tkq M (gl (filL o lg (j + 1))) 0 ((filL o lg (j + 1)).length - 1))) ∧ (∀ a, a ≠ 80 → q1 a = q a) ∧ ∀ k, ¬ (63 ≤ k ∧ k < 83) → g1 k = g k)) := by
  refine NI.mk (by decide) (by intros; first | rfl | (simp_all; done)) (Nat.le_of_ble_eq_true rfl) ?_
  intro jp je js jm below meth jc A Q X hW ret ls hl
  have jx := X.hx
  have jb := X.hb
  have hl : lv_has ls 4 [(0, .ref (ad 63)), (1, .int (nI j))] := hl
  have X : Cx G cy jp js jm _ jc cX9_ends 4 RX9 A js.heap := X
  have h83 : 83 ≤ N := hR.1
  have hl200 := hL.1
  have hne : (filL o lg (j + 1)) ≠ [] := by show (if o j = true then filL o lg j else filL o lg j ++ [gl lg j]) ≠ []; rw [if_neg (by rw [hoj]; decide)]; simp
  refine lv_aload_n jx jb dX9_ends_0 rfl (lv_at hl 0 rfl) ?_
  have m2 : g 63 = .inr (9, [.ref (ad 64), .ref (ad 65), .ref (ad 66), .ref (ad 67), .int (nI lg.length), .ref (ad 68), .ref (ad 69), .ref (ad 70), .ref (ad 71), .ref (ad 72), .int te, .ref (ad 73), .ref (ad 74), .ref (ad 75), .ref (ad 76), .ref (ad 77), .ref (ad 78), .ref (ad 79), .ref (ad 80), .int to, .ref (ad 81), .ref (ad 82)]) := hR.2.1
  refine w_nVv (As := []) X hW (c_begins hR) (by omega) m2 rfl rfl ml_X9_103 mf_X9_begins ⟨Nat.le_of_ble_eq_true rfl, Nat.le_of_ble_eq_true rfl⟩ hl.1 rfl (Nat.le_of_ble_eq_true rfl) ⟨Nat.le_of_ble_eq_true rfl, Nat.le_of_ble_eq_true rfl⟩ dX9_ends_1 (fun gBb1 H locs hp hW => ?_)
  obtain ⟨qBb1, hRBb1, hNBb1, hsBb1, frBb1⟩ := hp
  refine lv_iconst (v := -1) jx jb dX9_ends_4 (by decide) ?_
  refine lv_istore_n (lv' := [(2, .int (-1)), (0, .ref (ad 63)), (1, .int (nI j))]) jx jb dX9_ends_5 rfl hl (by decide) rfl (fun ls hl => ?_)
  refine lv_iconst (v := 0) jx jb dX9_ends_6 (by decide) ?_
  refine lv_istore_n (lv' := [(3, .int 0), (2, .int (-1)), (0, .ref (ad 63)), (1, .int (nI j))]) jx jb dX9_ends_7 rfl hl (by decide) rfl (fun ls hl => ?_)
  have loop8 : ∀ (fuel8 : Nat) (k : Nat) (v : Int32) (tv : Int32) (qL8 : Nat → Nat → Int32) (gL8 : Nat → va_E) (H : Heap) (locs : List Loc) (ls : Array Slot), (MRaw cy N ad gL8 qL8 (nI lg.length) te tv) → (∀ k, ¬ (63 ≤ k ∧ k < 83) → gL8 k = g k) → (k ≤ j + 1) → (∀ a, a ≠ 80 → qL8 a = q a) → (QN qL8 (stq M (gl (filL o lg k)) 0 (filL o lg k).length)) → (filL o lg k ≠ [] → v = rsq M (gl (filL o lg k)) 0 ((filL o lg k).length - 1) ∧ tv = tI (tkq M (gl (filL o lg k)) 0 ((filL o lg k).length - 1))) → j + 1 - k < fuel8 → Wd G A js.heap (N, ad, gL8) H locs → lv_has ls 4 [(0, .ref (ad 63)), (1, .int (nI j)), (2, .int v), (3, .int (nI k))] → W jp l je (rmN 2) js jm [.ref (ad 63), .int (nI j)].toArray below meth jc H locs 0 0 Q (F0 jm 8 ls []) := by
    intro fuel8
    induction fuel8 with
    | zero => intro k v tv qL8 gL8 H locs ls hR8 hfr8 hk hsm hN hlast  hm8; exact absurd hm8 (Nat.not_lt_zero _)
    | succ fuel8 ih8 =>
      intro k v tv qL8 gL8 H locs ls hR8 hfr8 hk hsm hN hlast  hm8 hW hl
      refine lv_iload_n jx jb dX9_ends_8 rfl (lv_at hl 3 rfl) ?_
      refine lv_iload_n jx jb dX9_ends_9 rfl (lv_at hl 1 rfl) ?_
      refine lv_icmp_gt (tgt := 45) jx jb dX9_ends_10 (by decide) (fun c10 => ?_) (fun c10 => ?_)
      · refine lv_iload_n jx jb dX9_ends_45 rfl (lv_at hl 2 rfl) ?_
        exact ret _ _ _ _ _ _ dX9_ends_46 hW (by have := n_lt (by omega) (by omega) c10; have e : k = j + 1 := (by omega); rw [e] at hlast; obtain ⟨e1, e2⟩ := hlast hne; exact ⟨e1, qL8, e2 ▸ hR8, hsm, (fun k hk => by show gL8 k = _; rw [hfr8 k hk])⟩)
      · have hkj : k ≤ j := n_nlt (by omega) (by omega) c10
        have hlt : k < lg.length := by omega
        have h96 := hL.2.1 _ (gl_mem hlt)
        refine lv_aload_n jx jb dX9_ends_13 rfl (lv_at hl 0 rfl) ?_
        have m3 : gL8 63 = .inr (9, [.ref (ad 64), .ref (ad 65), .ref (ad 66), .ref (ad 67), .int (nI lg.length), .ref (ad 68), .ref (ad 69), .ref (ad 70), .ref (ad 71), .ref (ad 72), .int te, .ref (ad 73), .ref (ad 74), .ref (ad 75), .ref (ad 76), .ref (ad 77), .ref (ad 78), .ref (ad 79), .ref (ad 80), .int tv, .ref (ad 81), .ref (ad 82)]) := hR8.2.1
        refine w_get X hW K9 (by omega) m3 20 (by decide) fl_X9_62 rfl dX9_ends_14 ?_
        refine lv_iload_n jx jb dX9_ends_17 rfl (lv_at hl 3 rfl) ?_
        have m4 : gL8 81 = .inl (cy 1, 200, .inl (qL8 81)) := hR8.2.2 81 (by decide) (by decide)
        refine w_zld X hW (by omega) m4 k rfl (by omega) (by decide) dX9_ends_18 ?_
        refine top_eq (y := bI (o k = true)) (by rw [hsm 81 (by decide)]; exact ho k hkj) ?_
        refine lv_if_ne (tgt := 39) jx jb dX9_ends_19 (by decide) (fun c19 => ?_) (fun c19 => ?_)
        · refine lv_iinc (v := nI (k + 1)) (lv' := [(3, .int (nI (k + 1))), (0, .ref (ad 63)), (1, .int (nI j)), (2, .int v)]) jx jb dX9_ends_39 hl (k := 3) rfl (show nI k + 1 = nI (k + 1) from nI_1 _) (by decide) rfl (fun ls hl => ?_)
          refine lv_goto (tgt := 8) jx jb dX9_ends_42 (by decide) ?_
          have hfk : filL o lg (k + 1) = filL o lg k := if_pos (bI_n0.mp c19)
          exact ih8 (k + 1) v tv qL8 gL8 _ _ _ hR8 (fun k hk => by show gL8 k = _; rw [hfr8 k hk]) (by omega) hsm (by rw [hfk]; exact hN) (by rw [hfk]; exact hlast)  (by omega) hW (lv_sub hl [1, 2, 3, 0] rfl)
        · have hfk : filL o lg (k + 1) = filL o lg k ++ [gl lg k] := if_neg (bI_0.mp c19)
          refine lv_aload_n jx jb dX9_ends_22 rfl (lv_at hl 0 rfl) ?_
          refine lv_aload_n jx jb dX9_ends_23 rfl (lv_at hl 0 rfl) ?_
          refine w_get X hW K9 (by omega) m3 5 (by decide) fl_X9_22 rfl dX9_ends_24 ?_
          refine lv_iload_n jx jb dX9_ends_27 rfl (lv_at hl 3 rfl) ?_
          have m5 : gL8 68 = .inl (cy 0, 200, .inl (qL8 68)) := hR8.2.2 68 (by decide) (by decide)
          refine w_ild X hW (by omega) m5 k rfl (by omega) (by decide) dX9_ends_28 ?_
          refine top_eq (y := nI (gl lg k / 16)) (by rw [hsm 68 (by decide)]; exact (hL.2.2 k hlt).1) ?_
          refine lv_aload_n jx jb dX9_ends_29 rfl (lv_at hl 0 rfl) ?_
          refine w_get X hW K9 (by omega) m3 6 (by decide) fl_X9_25 rfl dX9_ends_30 ?_
          refine lv_iload_n jx jb dX9_ends_33 rfl (lv_at hl 3 rfl) ?_
          have m6 : gL8 69 = .inl (cy 0, 200, .inl (qL8 69)) := hR8.2.2 69 (by decide) (by decide)
          refine w_ild X hW (by omega) m6 k rfl (by omega) (by decide) dX9_ends_34 ?_
          refine top_eq (y := nI (gl lg k % 16)) (by rw [hsm 69 (by decide)]; exact (hL.2.2 k hlt).2.1) ?_
          refine w_nV (As := [.int (nI (gl lg k / 16)), .int (nI (gl lg k % 16))]) X hW (c_goes hR8 hok (hQ.of (fun a h1 h2 => hsm a (by omega))) hN (by omega) (Nat.mod_lt _ (by decide))) (by omega) m3 rfl rfl ml_X9_99 mf_X9_goes ⟨Nat.le_of_ble_eq_true rfl, Nat.le_of_ble_eq_true rfl⟩ hl.1 rfl (Nat.le_of_ble_eq_true rfl) ⟨Nat.le_of_ble_eq_true rfl, Nat.le_of_ble_eq_true rfl⟩ dX9_ends_35 (fun rx7 gGx7 H locs hp hW => ?_)
          obtain ⟨erx7, qGx7, hRGx7, hNGx7, hsGx7, frGx7⟩ := hp
          refine lv_istore_n (lv' := [(2, .int rx7), (0, .ref (ad 63)), (1, .int (nI j)), (3, .int (nI k))]) jx jb dX9_ends_38 rfl hl (by decide) rfl (fun ls hl => ?_)
          refine lv_iinc (v := nI (k + 1)) (lv' := [(3, .int (nI (k + 1))), (2, .int rx7), (0, .ref (ad 63)), (1, .int (nI j))]) jx jb dX9_ends_39 hl (k := 3) rfl (show nI k + 1 = nI (k + 1) from nI_1 _) (by decide) rfl (fun ls hl => ?_)
          refine lv_goto (tgt := 8) jx jb dX9_ends_42 (by decide) ?_
          exact ih8 (k + 1) rx7 _ qGx7 gGx7 _ _ _ hRGx7 (fun k hk => by show gGx7 k = _; rw [frGx7 k hk, hfr8 k hk]) (by omega) (fun a ha => (hsGx7 a ha).trans (hsm a ha)) (by rw [hfk, stq_snoc]; exact hNGx7) (fun _ => by rw [hfk, rsq_snoc, tkq_snoc]; exact ⟨erx7, rfl⟩)  (by omega) hW (lv_sub hl [2, 3, 1, 0] rfl)
  exact loop8 _ 0 (-1) _ qBb1 gBb1 _ _ _ hRBb1 (fun k hk => by show gBb1 k = _; rw [frBb1 k hk]) (by omega) hsBb1 hNBb1 (fun h => absurd rfl h)  (Nat.lt_succ_self _) hW (lv_sub hl [2, 3, 1, 0] rfl)

set_option maxHeartbeats 4000000 in
set_option maxRecDepth 100000 in
theorem c_isLike {l : Launch} {G : va_G} {cy : Nat → ClassId} {N : Nat} {ad : Nat → Nat} {g : Nat → va_E} {q : Nat → Nat → Int32} {ca to : Int32} {T : Nat} {i : Nat} {r1 row : List Nat} (hR : MRaw cy N ad g q ca (nI T) to) (hT12 : T < 12) (hi : i < T) (hT : QR q i r1) (hlen : q 73 i = nI r1.length) (hT2 : QR q T row) : RI l G cy (N, ad, g) yX9_isLike cX9_isLike 6 (some .boolean) (rmN 0) [.ref (ad 63), .int (nI i), .int (nI row.length)] (bI (r1 = row)) := by
  refine RI.mk (by decide) (by first | rfl | exact bI_nar) (Nat.le_of_ble_eq_true rfl) ?_
  intro jp je js jm below meth jc A Q X hW ret ls hl
  have jx := X.hx
  have jb := X.hb
  have hl : lv_has ls 6 [(0, .ref (ad 63)), (1, .int (nI i)), (2, .int (nI row.length))] := hl
  have X : Cx G cy jp js jm _ jc cX9_isLike 6 RX9 A js.heap := X
  have h83 : 83 ≤ N := hR.1
  have hl200 := hT.1
  have hl201 := hT2.1
  refine lv_aload_n jx jb dX9_isLike_0 rfl (lv_at hl 0 rfl) ?_
  have m1 : g 63 = .inr (9, [.ref (ad 64), .ref (ad 65), .ref (ad 66), .ref (ad 67), .int ca, .ref (ad 68), .ref (ad 69), .ref (ad 70), .ref (ad 71), .ref (ad 72), .int (nI T), .ref (ad 73), .ref (ad 74), .ref (ad 75), .ref (ad 76), .ref (ad 77), .ref (ad 78), .ref (ad 79), .ref (ad 80), .int to, .ref (ad 81), .ref (ad 82)]) := hR.2.1
  refine w_get X hW K9 (by omega) m1 11 (by decide) fl_X9_37 rfl dX9_isLike_1 ?_
  refine lv_iload_n jx jb dX9_isLike_4 rfl (lv_at hl 1 rfl) ?_
  have m2 : g 73 = .inl (cy 0, 12, .inl (q 73)) := hR.2.2 73 (by decide) (by decide)
  refine w_ild X hW (by omega) m2 i rfl (by omega) (by decide) dX9_isLike_5 ?_
  refine top_eq (y := nI r1.length) (hlen) ?_
  refine lv_iload_n jx jb dX9_isLike_6 rfl (lv_at hl 2 rfl) ?_
  refine lv_icmp_eq (tgt := 12) jx jb dX9_isLike_7 (by decide) (fun c7 => ?_) (fun c7 => ?_)
  · have hll : r1.length = row.length := n_eq (by omega) (by omega) c7
    refine lv_sipush (v := 200) jx jb dX9_isLike_12 (by decide) ?_
    refine lv_iload_n jx jb dX9_isLike_15 rfl (lv_at hl 1 rfl) ?_
    refine lv_imul jx jb dX9_isLike_16 ?_
    refine top_eq (y := nI (200 * i)) (by rw [show (200 : Int32) = nI 200 from rfl, pk_mul]) ?_
    refine lv_istore_n (lv' := [(3, .int (nI (200 * i))), (0, .ref (ad 63)), (1, .int (nI i)), (2, .int (nI row.length))]) jx jb dX9_isLike_17 rfl hl (by decide) rfl (fun ls hl => ?_)
    refine lv_sipush (v := 200) jx jb dX9_isLike_18 (by decide) ?_
    refine lv_aload_n jx jb dX9_isLike_21 rfl (lv_at hl 1 rfl) ?_
    refine w_get X hW K9 (by omega) m1 10 (by decide) fl_X9_83 rfl dX9_isLike_22 ?_
    refine lv_imul jx jb dX9_isLike_25 ?_
    refine top_eq (y := nI (200 * T)) (by rw [show (200 : Int32) = nI 200 from rfl, pk_mul]) ?_
    refine lv_istore (lv' := [(4, .int (nI (200 * T))), (3, .int (nI (200 * i))), (0, .ref (ad 63)), (1, .int (nI i)), (2, .int (nI row.length))]) jx jb dX9_isLike_26 hl (by decide) rfl (fun ls hl => ?_)
    refine lv_iconst (v := 0) jx jb dX9_isLike_28 (by decide) ?_
    refine lv_istore (lv' := [(5, .int 0), (4, .int (nI (200 * T))), (3, .int (nI (200 * i))), (0, .ref (ad 63)), (1, .int (nI i)), (2, .int (nI row.length))]) jx jb dX9_isLike_29 hl (by decide) rfl (fun ls hl => ?_)
    have loop31 : ∀ (fuel31 : Nat) (k : Nat) (H : Heap) (locs : List Loc) (ls : Array Slot), (k ≤ row.length) → (∀ m, m < k → gl r1 m = gl row m) → row.length - k < fuel31 → Wd G A js.heap (N, ad, g) H locs → lv_has ls 6 [(0, .ref (ad 63)), (1, .int (nI i)), (2, .int (nI row.length)), (3, .int (nI (200 * i))), (4, .int (nI (200 * T))), (5, .int (nI k))] → W jp l je (rmN 0) js jm [.ref (ad 63), .int (nI i), .int (nI row.length)].toArray below meth jc H locs 0 0 Q (F0 jm 31 ls []) := by
      intro fuel31
      induction fuel31 with
      | zero => intro k H locs ls hk hsame  hm31; exact absurd hm31 (Nat.not_lt_zero _)
      | succ fuel31 ih31 =>
        intro k H locs ls hk hsame  hm31 hW hl
        refine lv_iload jx jb dX9_isLike_31 (lv_at hl 5 rfl) ?_
        refine lv_iload_n jx jb dX9_isLike_33 rfl (lv_at hl 2 rfl) ?_
        refine lv_icmp_ge (tgt := 89) jx jb dX9_isLike_34 (by decide) (fun c34 => ?_) (fun c34 => ?_)
        · refine lv_iconst (v := 1) jx jb dX9_isLike_89 (by decide) ?_
          exact ret _ _ _ _ _ dX9_isLike_90 hW (bI_t (gl_ext hll (fun m hm => hsame m (by have := n_le (by omega) (by omega) c34; omega)))).symm
        · have hlt : k < row.length := n_nle (by omega) (by omega) c34
          have h96 := hT.2.1 _ (gl_mem (row := r1) (i := k) (by omega))
          have h96b := hT2.2.1 _ (gl_mem hlt)
          refine lv_aload_n jx jb dX9_isLike_37 rfl (lv_at hl 0 rfl) ?_
          refine w_get X hW K9 (by omega) m1 12 (by decide) fl_X9_40 rfl dX9_isLike_38 ?_
          refine lv_iload_n jx jb dX9_isLike_41 rfl (lv_at hl 3 rfl) ?_
          refine lv_iload jx jb dX9_isLike_42 (lv_at hl 5 rfl) ?_
          refine lv_iadd jx jb dX9_isLike_44 ?_
          refine top_eq (y := nI (200 * i + k)) (nI_add _ _) ?_
          have m3 : g 74 = .inl (cy 0, 2400, .inl (q 74)) := hR.2.2 74 (by decide) (by decide)
          refine w_ild X hW (by omega) m3 (200 * i + k) rfl (by omega) (by decide) dX9_isLike_45 ?_
          refine top_eq (y := nI (gl r1 k / 16)) ((hT.2.2 k (by omega)).1) ?_
          refine lv_aload_n jx jb dX9_isLike_46 rfl (lv_at hl 0 rfl) ?_
          refine w_get X hW K9 (by omega) m1 12 (by decide) fl_X9_40 rfl dX9_isLike_47 ?_
          refine lv_iload jx jb dX9_isLike_50 (lv_at hl 4 rfl) ?_
          refine lv_iload jx jb dX9_isLike_52 (lv_at hl 5 rfl) ?_
          refine lv_iadd jx jb dX9_isLike_54 ?_
          refine top_eq (y := nI (200 * T + k)) (nI_add _ _) ?_
          refine w_ild X hW (by omega) m3 (200 * T + k) rfl (by omega) (by decide) dX9_isLike_55 ?_
          refine top_eq (y := nI (gl row k / 16)) ((hT2.2.2 k (by omega)).1) ?_
          refine lv_icmp_ne (tgt := 81) jx jb dX9_isLike_56 (by decide) (fun c56 => ?_) (fun c56 => ?_)
          · refine lv_iconst (v := 0) jx jb dX9_isLike_81 (by decide) ?_
            exact ret _ _ _ _ _ dX9_isLike_82 hW (bI_f (fun z => n_ne (by omega) (by omega) c56 (by rw [z]))).symm
          · refine lv_aload_n jx jb dX9_isLike_59 rfl (lv_at hl 0 rfl) ?_
            refine w_get X hW K9 (by omega) m1 13 (by decide) fl_X9_43 rfl dX9_isLike_60 ?_
            refine lv_iload_n jx jb dX9_isLike_63 rfl (lv_at hl 3 rfl) ?_
            refine lv_iload jx jb dX9_isLike_64 (lv_at hl 5 rfl) ?_
            refine lv_iadd jx jb dX9_isLike_66 ?_
            refine top_eq (y := nI (200 * i + k)) (nI_add _ _) ?_
            have m4 : g 75 = .inl (cy 0, 2400, .inl (q 75)) := hR.2.2 75 (by decide) (by decide)
            refine w_ild X hW (by omega) m4 (200 * i + k) rfl (by omega) (by decide) dX9_isLike_67 ?_
            refine top_eq (y := nI (gl r1 k % 16)) ((hT.2.2 k (by omega)).2) ?_
            refine lv_aload_n jx jb dX9_isLike_68 rfl (lv_at hl 0 rfl) ?_
            refine w_get X hW K9 (by omega) m1 13 (by decide) fl_X9_43 rfl dX9_isLike_69 ?_
            refine lv_iload jx jb dX9_isLike_72 (lv_at hl 4 rfl) ?_
            refine lv_iload jx jb dX9_isLike_74 (lv_at hl 5 rfl) ?_
            refine lv_iadd jx jb dX9_isLike_76 ?_
            refine top_eq (y := nI (200 * T + k)) (nI_add _ _) ?_
            refine w_ild X hW (by omega) m4 (200 * T + k) rfl (by omega) (by decide) dX9_isLike_77 ?_
            refine top_eq (y := nI (gl row k % 16)) ((hT2.2.2 k (by omega)).2) ?_
            refine lv_icmp_eq (tgt := 83) jx jb dX9_isLike_78 (by decide) (fun c78 => ?_) (fun c78 => ?_)
            · refine lv_iinc (v := nI (k + 1)) (lv' := [(5, .int (nI (k + 1))), (0, .ref (ad 63)), (1, .int (nI i)), (2, .int (nI row.length)), (3, .int (nI (200 * i))), (4, .int (nI (200 * T)))]) jx jb dX9_isLike_83 hl (k := 5) rfl (show nI k + 1 = nI (k + 1) from nI_1 _) (by decide) rfl (fun ls hl => ?_)
              refine lv_goto (tgt := 31) jx jb dX9_isLike_86 (by decide) ?_
              exact ih31 (k + 1)  _ _ _ (by omega) (fun m hm => by by_cases z : m = k; (rw [z]; have u1 := n_eq (by omega) (by omega) c56; have u2 := n_eq (by omega) (by omega) c78; omega); exact hsame m (by omega))  (by omega) hW (lv_sub hl [1, 2, 3, 4, 5, 0] rfl)
            · refine lv_iconst (v := 0) jx jb dX9_isLike_81 (by decide) ?_
              exact ret _ _ _ _ _ dX9_isLike_82 hW (bI_f (fun z => n_ne (by omega) (by omega) c78 (by rw [z]))).symm
    exact loop31 _ 0  _ _ _ (by omega) (fun m hm => absurd hm (by omega))  (Nat.lt_succ_self _) hW (lv_sub hl [3, 4, 5, 2, 1, 0] rfl)
  · refine lv_iconst (v := 0) jx jb dX9_isLike_10 (by decide) ?_
    exact ret _ _ _ _ _ dX9_isLike_11 hW (bI_f (fun z => n_ne (by omega) (by omega) c7 (by rw [z]))).symm
