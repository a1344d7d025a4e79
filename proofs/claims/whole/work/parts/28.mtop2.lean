theorem mOK_of {t t' : TT} (h : mOK t) (h1 : t'.1 = t.1) (h2 : t'.2.2.1 = t.2.2.1) : mOK t' := fun k hk ha => by rw [h2]; exact h k hk (by rw [← h1]; exact ha)
theorem QT.acc {q q1 : Nat → Nat → Int32} {M : M4} {i j : Nat} {y : Nat → TT} (hok : okM M) (hi : QT q i (y i)) (hj : QT q j (y j)) (hj12 : j < 12) (h1 : ∀ a, a ≠ 76 → a ≠ 77 → a ≠ 78 → a ≠ 79 → a ≠ 80 → q1 a = q a) (h2 : ∀ m, m < (y i).1.length → q1 76 (200 * i + m) = rsq M (gl (y i).1) 0 m) (h3 : ∀ m, ¬ (200 * i ≤ m ∧ m < 200 * i + (y i).1.length) → q1 76 m = q 76 m) (h4 : q1 77 i = mtq M (gl (y i).1) (y i).1.length) (h5 : ∀ m, m ≠ i → q1 77 m = q 77 m) (h6 : q1 78 i = 0) (h7 : ∀ m, m ≠ i → q1 78 m = q 78 m) (h8 : q1 79 i = 0) (h9 : ∀ m, m ≠ i → q1 79 m = q 79 m) : QT q1 j (va_up y i (stl M (y i)) j) := by
  by_cases e : j = i
  · subst e
    rw [va_up_s]
    obtain ⟨⟨a1, a2, a3⟩, b, -, -, -, -, -⟩ := hi
    refine ⟨⟨a1, a2, fun k hk => ?_⟩, ?_, h2, h4, h6, h8, mOK_mt hok a2⟩
    · rw [h1 74 (by decide) (by decide) (by decide) (by decide) (by decide), h1 75 (by decide) (by decide) (by decide) (by decide) (by decide)]
      exact a3 k hk
    · rw [h1 73 (by decide) (by decide) (by decide) (by decide) (by decide)]
      exact b
  · rw [va_up_n e]
    obtain ⟨⟨a1, a2, a3⟩, b, c, d, f, g, m⟩ := hj
    have hi200 := hi.1.1
    refine ⟨⟨a1, a2, fun k hk => ?_⟩, ?_, fun k hk => ?_, ?_, ?_, ?_, m⟩
    · rw [h1 74 (by decide) (by decide) (by decide) (by decide) (by decide), h1 75 (by decide) (by decide) (by decide) (by decide) (by decide)]
      exact a3 k hk
    · rw [h1 73 (by decide) (by decide) (by decide) (by decide) (by decide)]
      exact b
    · rw [h3 _ (by omega)]
      exact c k hk
    · rw [h5 j e]; exact d
    · rw [h7 j e]; exact f
    · rw [h9 j e]; exact g

theorem c_mAccept2 {l : Launch} {G : va_G} {cy : Nat → ClassId} {N : Nat} {ad : Nat → Nat} {g : Nat → va_E} {M : M4} {lg : List Nat} {lr lt : Nat → Int32} {st T : Nat} {y : Nat → TT} {i : Nat} (hMA : MAt cy N ad g M lg lr lt st T y) (hi : i < T) : MI l G cy (N, ad, g) yX9_accept cX9_accept 3 (some .boolean) (rmN 2) [.ref (ad 63), .int (nI i)] (nA N ad (fun v g1 => v = 1 ∧ MAt cy N ad g1 M lg lr lt st T (va_up y i (stl M (y i))) ∧ ∀ k, ¬ (63 ≤ k ∧ k < 83) → g1 k = g k)) := by
  obtain ⟨q, to, hR, hok, hQ, hL, hst, hS4, hT12, hQT⟩ := id hMA
  intro sz
  refine Met.post (c_mAccept hR hT12 hok hQ (hQT i hi).1 (hQT i hi).2.1 hi sz) ?_
  rintro r u ⟨h1, h2, h3, q1, tv, h4, a1, a2, a3, a4, a5, a6, a7, a8, a9, h6⟩
  exact ⟨h1, h2, h3, ⟨q1, tv, h4, hok, hQ.of (fun a _ _ => a1 a (by omega) (by omega) (by omega) (by omega) (by omega)), hL.of (fun a _ _ => a1 a (by omega) (by omega) (by omega) (by omega) (by omega)), hst, fun j hj => by rw [a1 72 (by decide) (by decide) (by decide) (by decide) (by decide)]; exact hS4 j hj, hT12, fun j hj => QT.acc hok (hQT i hi) (hQT j hj) (by omega) a1 a2 a3 a4 a5 a6 a7 a8 a9⟩, h6⟩

set_option maxHeartbeats 4000000 in
set_option maxRecDepth 100000 in
theorem c_mCallNo {l : Launch} {G : va_G} {cy : Nat → ClassId} {N : Nat} {ad : Nat → Nat} {g : Nat → va_E} {M : M4} {lg : List Nat} {lr lt : Nat → Int32} {st T : Nat} {y : Nat → TT} {a b : Int32} (hMA : MAt cy N ad g M lg lr lt st T y) (hno : ¬ ((0 ≤ a ∧ a < 6) ∧ 0 ≤ b ∧ b < 16)) : RI l G cy (N, ad, g) yX9_call cX9_call 5 (some .int) (rmN 2) [.ref (ad 63), .int a, .int b] (-1) := by
  refine RI.mk (by decide) (by first | rfl | exact bI_nar) (Nat.le_of_ble_eq_true rfl) ?_
  intro jp je js jm below meth jc A Q X hW ret ls hl
  have jx := X.hx
  have jb := X.hb
  have hl : lv_has ls 5 [(0, .ref (ad 63)), (1, .int a), (2, .int b)] := hl
  have X : Cx G cy jp js jm _ jc cX9_call 5 RX9 A js.heap := X
  obtain ⟨q, to, hR, hok, hQ, hL, hst, hS4, hT12, hQT⟩ := id hMA
  have h83 : 83 ≤ N := hR.1
  have hl200 := hL.1
  refine lv_iload_n jx jb dX9_call_0 rfl (lv_at hl 1 rfl) ?_
  refine w_rS (As := [.int a]) X hW (c_isKind) ml_X9_72 mf_X9_isKind ⟨Nat.le_of_ble_eq_true rfl, Nat.le_of_ble_eq_true rfl⟩ hl.1 rfl (Nat.le_of_ble_eq_true rfl) ⟨Nat.le_of_ble_eq_true rfl, Nat.le_of_ble_eq_true rfl⟩ dX9_call_1 (fun H locs hW => ?_)
  refine lv_if_eq (tgt := 27) jx jb dX9_call_4 (by decide) (fun c4 => ?_) (fun c4 => ?_)
  · refine lv_iconst (v := -1) jx jb dX9_call_27 (by decide) ?_
    exact ret _ _ _ _ _ dX9_call_28 hW rfl
  · refine lv_iload_n jx jb dX9_call_7 rfl (lv_at hl 2 rfl) ?_
    refine lv_iconst (v := 0) jx jb dX9_call_8 (by decide) ?_
    refine lv_bipush (v := 15) jx jb dX9_call_9 (by decide) ?_
    refine w_rS (As := [.int b, .int 0, .int 15]) X hW (c_in) ml_X9_68 mf_X9_in ⟨Nat.le_of_ble_eq_true rfl, Nat.le_of_ble_eq_true rfl⟩ hl.1 rfl (Nat.le_of_ble_eq_true rfl) ⟨Nat.le_of_ble_eq_true rfl, Nat.le_of_ble_eq_true rfl⟩ dX9_call_11 (fun H locs hW => ?_)
    refine top_eq (y := bI (0 ≤ b ∧ b < 16)) (bI_iff (in_below (n := 16) (by decide))) ?_
    refine lv_if_eq (tgt := 27) jx jb dX9_call_14 (by decide) (fun c14 => ?_) (fun c14 => ?_)
    · refine lv_iconst (v := -1) jx jb dX9_call_27 (by decide) ?_
      exact ret _ _ _ _ _ dX9_call_28 hW rfl
    · exact absurd ⟨bI_n0.mp c4, bI_n0.mp c14⟩ hno

set_option maxHeartbeats 4000000 in
set_option maxRecDepth 100000 in
theorem c_mCallFull {l : Launch} {G : va_G} {cy : Nat → ClassId} {N : Nat} {ad : Nat → Nat} {g : Nat → va_E} {M : M4} {lg : List Nat} {lr lt : Nat → Int32} {st T : Nat} {y : Nat → TT} {kd nm : Nat} (hMA : MAt cy N ad g M lg lr lt st T y) (hk6 : kd < 6) (hn16 : nm < 16) (h200 : lg.length = 200) : RI l G cy (N, ad, g) yX9_call cX9_call 5 (some .int) (rmN 2) [.ref (ad 63), .int (nI kd), .int (nI nm)] (-1) := by
  refine RI.mk (by decide) (by first | rfl | exact bI_nar) (Nat.le_of_ble_eq_true rfl) ?_
  intro jp je js jm below meth jc A Q X hW ret ls hl
  have jx := X.hx
  have jb := X.hb
  have hl : lv_has ls 5 [(0, .ref (ad 63)), (1, .int (nI kd)), (2, .int (nI nm))] := hl
  have X : Cx G cy jp js jm _ jc cX9_call 5 RX9 A js.heap := X
  obtain ⟨q, to, hR, hok, hQ, hL, hst, hS4, hT12, hQT⟩ := id hMA
  have h83 : 83 ≤ N := hR.1
  have hl200 := hL.1
  refine lv_iload_n jx jb dX9_call_0 rfl (lv_at hl 1 rfl) ?_
  refine w_rS (As := [.int (nI kd)]) X hW (c_isKind) ml_X9_72 mf_X9_isKind ⟨Nat.le_of_ble_eq_true rfl, Nat.le_of_ble_eq_true rfl⟩ hl.1 rfl (Nat.le_of_ble_eq_true rfl) ⟨Nat.le_of_ble_eq_true rfl, Nat.le_of_ble_eq_true rfl⟩ dX9_call_1 (fun H locs hW => ?_)
  refine lv_if_eq (tgt := 27) jx jb dX9_call_4 (by decide) (fun c4 => ?_) (fun c4 => ?_)
  · exact absurd (c4.symm.trans (bel_t (b := 6) hk6 (by decide))) (by decide)
  · refine lv_iload_n jx jb dX9_call_7 rfl (lv_at hl 2 rfl) ?_
    refine lv_iconst (v := 0) jx jb dX9_call_8 (by decide) ?_
    refine lv_bipush (v := 15) jx jb dX9_call_9 (by decide) ?_
    refine w_rS (As := [.int (nI nm), .int 0, .int 15]) X hW (c_in) ml_X9_68 mf_X9_in ⟨Nat.le_of_ble_eq_true rfl, Nat.le_of_ble_eq_true rfl⟩ hl.1 rfl (Nat.le_of_ble_eq_true rfl) ⟨Nat.le_of_ble_eq_true rfl, Nat.le_of_ble_eq_true rfl⟩ dX9_call_11 (fun H locs hW => ?_)
    refine top_eq (y := bI (0 ≤ nI nm ∧ nI nm < 16)) (bI_iff (in_below (n := 16) (by decide))) ?_
    refine lv_if_eq (tgt := 27) jx jb dX9_call_14 (by decide) (fun c14 => ?_) (fun c14 => ?_)
    · exact absurd (c14.symm.trans (bel_t (b := 16) hn16 (by decide))) (by decide)
    · refine lv_aload_n jx jb dX9_call_17 rfl (lv_at hl 0 rfl) ?_
      have m1 : g 63 = .inr (9, [.ref (ad 64), .ref (ad 65), .ref (ad 66), .ref (ad 67), .int (nI lg.length), .ref (ad 68), .ref (ad 69), .ref (ad 70), .ref (ad 71), .ref (ad 72), .int (nI T), .ref (ad 73), .ref (ad 74), .ref (ad 75), .ref (ad 76), .ref (ad 77), .ref (ad 78), .ref (ad 79), .ref (ad 80), .int to, .ref (ad 81), .ref (ad 82)]) := hR.2.1
      refine w_get X hW K9 (by omega) m1 4 (by decide) fl_X9_96 rfl dX9_call_18 ?_
      refine lv_sipush (v := 200) jx jb dX9_call_21 (by decide) ?_
      refine lv_icmp_ne (tgt := 29) jx jb dX9_call_24 (by decide) (fun c24 => ?_) (fun c24 => ?_)
      · exact absurd (by rw [h200]; rfl) c24
      · refine lv_iconst (v := -1) jx jb dX9_call_27 (by decide) ?_
        exact ret _ _ _ _ _ dX9_call_28 hW rfl

set_option maxHeartbeats 4000000 in
set_option maxRecDepth 100000 in
theorem c_mCall {l : Launch} {G : va_G} {cy : Nat → ClassId} {N : Nat} {ad : Nat → Nat} {g : Nat → va_E} {M : M4} {lg : List Nat} {lr lt : Nat → Int32} {st T : Nat} {y : Nat → TT} {kd nm : Nat} (hMA : MAt cy N ad g M lg lr lt st T y) (hk6 : kd < 6) (hn16 : nm < 16) (hs : lg.length < 200) : MI l G cy (N, ad, g) yX9_call cX9_call 5 (some .int) (rmN 2) [.ref (ad 63), .int (nI kd), .int (nI nm)] (nA N ad (fun v g1 => v = rs M (tk M ((kd * 16 + nm) / 16) st) (stp M (kd * 16 + nm) st) ∧ MAt cy N ad g1 M (lg ++ [(kd * 16 + nm)]) (upd lr lg.length (rs M (tk M ((kd * 16 + nm) / 16) st) (stp M (kd * 16 + nm) st))) (upd lt lg.length (tI (tk M ((kd * 16 + nm) / 16) st))) (stp M (kd * 16 + nm) st) T y ∧ ∀ k, ¬ (63 ≤ k ∧ k < 83) → g1 k = g k)) := by
  refine NI.mk (by decide) (by intros; first | rfl | (simp_all; done)) (Nat.le_of_ble_eq_true rfl) ?_
  intro jp je js jm below meth jc A Q X hW ret ls hl
  have jx := X.hx
  have jb := X.hb
  have hl : lv_has ls 5 [(0, .ref (ad 63)), (1, .int (nI kd)), (2, .int (nI nm))] := hl
  have X : Cx G cy jp js jm _ jc cX9_call 5 RX9 A js.heap := X
  obtain ⟨q, to, hR, hok, hQ, hL, hst, hS4, hT12, hQT⟩ := id hMA
  have h83 : 83 ≤ N := hR.1
  have hl200 := hL.1
  refine lv_iload_n jx jb dX9_call_0 rfl (lv_at hl 1 rfl) ?_
  refine w_rS (As := [.int (nI kd)]) X hW (c_isKind) ml_X9_72 mf_X9_isKind ⟨Nat.le_of_ble_eq_true rfl, Nat.le_of_ble_eq_true rfl⟩ hl.1 rfl (Nat.le_of_ble_eq_true rfl) ⟨Nat.le_of_ble_eq_true rfl, Nat.le_of_ble_eq_true rfl⟩ dX9_call_1 (fun H locs hW => ?_)
  refine lv_if_eq (tgt := 27) jx jb dX9_call_4 (by decide) (fun c4 => ?_) (fun c4 => ?_)
  · exact absurd (c4.symm.trans (bel_t (b := 6) hk6 (by decide))) (by decide)
  · refine lv_iload_n jx jb dX9_call_7 rfl (lv_at hl 2 rfl) ?_
    refine lv_iconst (v := 0) jx jb dX9_call_8 (by decide) ?_
    refine lv_bipush (v := 15) jx jb dX9_call_9 (by decide) ?_
    refine w_rS (As := [.int (nI nm), .int 0, .int 15]) X hW (c_in) ml_X9_68 mf_X9_in ⟨Nat.le_of_ble_eq_true rfl, Nat.le_of_ble_eq_true rfl⟩ hl.1 rfl (Nat.le_of_ble_eq_true rfl) ⟨Nat.le_of_ble_eq_true rfl, Nat.le_of_ble_eq_true rfl⟩ dX9_call_11 (fun H locs hW => ?_)
    refine top_eq (y := bI (0 ≤ nI nm ∧ nI nm < 16)) (bI_iff (in_below (n := 16) (by decide))) ?_
    refine lv_if_eq (tgt := 27) jx jb dX9_call_14 (by decide) (fun c14 => ?_) (fun c14 => ?_)
    · exact absurd (c14.symm.trans (bel_t (b := 16) hn16 (by decide))) (by decide)
    · refine lv_aload_n jx jb dX9_call_17 rfl (lv_at hl 0 rfl) ?_
      have m1 : g 63 = .inr (9, [.ref (ad 64), .ref (ad 65), .ref (ad 66), .ref (ad 67), .int (nI lg.length), .ref (ad 68), .ref (ad 69), .ref (ad 70), .ref (ad 71), .ref (ad 72), .int (nI T), .ref (ad 73), .ref (ad 74), .ref (ad 75), .ref (ad 76), .ref (ad 77), .ref (ad 78), .ref (ad 79), .ref (ad 80), .int to, .ref (ad 81), .ref (ad 82)]) := hR.2.1
      refine w_get X hW K9 (by omega) m1 4 (by decide) fl_X9_96 rfl dX9_call_18 ?_
      refine lv_sipush (v := 200) jx jb dX9_call_21 (by decide) ?_
      refine lv_icmp_ne (tgt := 29) jx jb dX9_call_24 (by decide) (fun c24 => ?_) (fun c24 => ?_)
      · refine lv_iconst (v := 0) jx jb dX9_call_29 (by decide) ?_
        refine lv_istore_n (lv' := [(3, .int 0), (0, .ref (ad 63)), (1, .int (nI kd)), (2, .int (nI nm))]) jx jb dX9_call_30 rfl hl (by decide) rfl (fun ls hl => ?_)
        have loop31 : ∀ (fuel31 : Nat) (k : Nat) (qL31 : Nat → Nat → Int32) (gL31 : Nat → va_E) (H : Heap) (locs : List Loc) (ls : Array Slot), (MRaw cy N ad gL31 qL31 (nI lg.length) (nI T) to) → (∀ k, ¬ (63 ≤ k ∧ k < 83) → gL31 k = g k) → (k ≤ 4) → (∀ m, m < k → qL31 80 m = nI (nib st m)) → (∀ a, a ≠ 80 → qL31 a = q a) → 4 - k < fuel31 → Wd G A js.heap (N, ad, gL31) H locs → lv_has ls 5 [(0, .ref (ad 63)), (1, .int (nI kd)), (2, .int (nI nm)), (3, .int (nI k))] → W jp l je (rmN 2) js jm [.ref (ad 63), .int (nI kd), .int (nI nm)].toArray below meth jc H locs 0 0 Q (F0 jm 31 ls []) := by
          intro fuel31
          induction fuel31 with
          | zero => intro k qL31 gL31 H locs ls hR31 hfr31 hk h0 hsm  hm31; exact absurd hm31 (Nat.not_lt_zero _)
          | succ fuel31 ih31 =>
            intro k qL31 gL31 H locs ls hR31 hfr31 hk h0 hsm  hm31 hW hl
            refine lv_iload_n jx jb dX9_call_31 rfl (lv_at hl 3 rfl) ?_
            refine lv_iconst (v := 4) jx jb dX9_call_32 (by decide) ?_
            refine lv_icmp_ge (tgt := 54) jx jb dX9_call_33 (by decide) (fun c33 => ?_) (fun c33 => ?_)
            · refine lv_aload_n jx jb dX9_call_54 rfl (lv_at hl 0 rfl) ?_
              refine lv_iload_n jx jb dX9_call_55 rfl (lv_at hl 1 rfl) ?_
              refine lv_iload_n jx jb dX9_call_56 rfl (lv_at hl 2 rfl) ?_
              have hk4 := n_le (a := 4) (by decide) (by omega) c33
              have m3 : gL31 63 = .inr (9, [.ref (ad 64), .ref (ad 65), .ref (ad 66), .ref (ad 67), .int (nI lg.length), .ref (ad 68), .ref (ad 69), .ref (ad 70), .ref (ad 71), .ref (ad 72), .int (nI T), .ref (ad 73), .ref (ad 74), .ref (ad 75), .ref (ad 76), .ref (ad 77), .ref (ad 78), .ref (ad 79), .ref (ad 80), .int to, .ref (ad 81), .ref (ad 82)]) := hR31.2.1
              refine w_nV (As := [.int (nI kd), .int (nI nm)]) X hW (c_goes hR31 hok (hQ.of (fun a h1 h2 => hsm a (by omega))) (fun j hj => h0 j (by omega)) hk6 hn16) (by omega) m3 rfl rfl ml_X9_99 mf_X9_goes ⟨Nat.le_of_ble_eq_true rfl, Nat.le_of_ble_eq_true rfl⟩ hl.1 rfl (Nat.le_of_ble_eq_true rfl) ⟨Nat.le_of_ble_eq_true rfl, Nat.le_of_ble_eq_true rfl⟩ dX9_call_57 (fun rx2 gG H locs hp hW => ?_)
              obtain ⟨er, qG, hRG, hNG, hsG, frG⟩ := hp
              rw [show kd = (kd * 16 + nm) / 16 by omega, show nx M (tk M ((kd * 16 + nm) / 16) st) st nm = stp M (kd * 16 + nm) st from by unfold stp; rw [show (kd * 16 + nm) % 16 = nm by omega]] at er hNG
              rw [show tk M kd st = tk M ((kd * 16 + nm) / 16) st by rw [show (kd * 16 + nm) / 16 = kd by omega]] at hRG
              have hsQ : ∀ a, a ≠ 80 → qG a = q a := fun a ha => (hsG a ha).trans (hsm a ha)
              refine top_eq (y := rs M (tk M ((kd * 16 + nm) / 16) st) (stp M (kd * 16 + nm) st)) (er) ?_
              refine lv_istore_n (lv' := [(3, .int (rs M (tk M ((kd * 16 + nm) / 16) st) (stp M (kd * 16 + nm) st))), (0, .ref (ad 63)), (1, .int (nI kd)), (2, .int (nI nm))]) jx jb dX9_call_60 rfl hl (by decide) rfl (fun ls hl => ?_)
              refine lv_iconst (v := 0) jx jb dX9_call_61 (by decide) ?_
              refine lv_istore (lv' := [(4, .int 0), (3, .int (rs M (tk M ((kd * 16 + nm) / 16) st) (stp M (kd * 16 + nm) st))), (0, .ref (ad 63)), (1, .int (nI kd)), (2, .int (nI nm))]) jx jb dX9_call_62 hl (by decide) rfl (fun ls hl => ?_)
              have loop64 : ∀ (fuel64 : Nat) (m : Nat) (qL64 : Nat → Nat → Int32) (gL64 : Nat → va_E) (H : Heap) (locs : List Loc) (ls : Array Slot), (MRaw cy N ad gL64 qL64 (nI lg.length) (nI T) (tI (tk M ((kd * 16 + nm) / 16) st))) → (∀ k, ¬ (63 ≤ k ∧ k < 83) → gL64 k = g k) → (m ≤ 4) → (∀ i, i < m → qL64 72 i = nI (nib (stp M (kd * 16 + nm) st) i)) → (∀ a, a ≠ 72 → qL64 a = qG a) → 4 - m < fuel64 → Wd G A js.heap (N, ad, gL64) H locs → lv_has ls 5 [(0, .ref (ad 63)), (1, .int (nI kd)), (2, .int (nI nm)), (3, .int (rs M (tk M ((kd * 16 + nm) / 16) st) (stp M (kd * 16 + nm) st))), (4, .int (nI m))] → W jp l je (rmN 2) js jm [.ref (ad 63), .int (nI kd), .int (nI nm)].toArray below meth jc H locs 0 0 Q (F0 jm 64 ls []) := by
                intro fuel64
                induction fuel64 with
                | zero => intro m qL64 gL64 H locs ls hR64 hfr64 hm h0b hsb  hm64; exact absurd hm64 (Nat.not_lt_zero _)
                | succ fuel64 ih64 =>
                  intro m qL64 gL64 H locs ls hR64 hfr64 hm h0b hsb  hm64 hW hl
                  refine lv_iload jx jb dX9_call_64 (lv_at hl 4 rfl) ?_
                  refine lv_iconst (v := 4) jx jb dX9_call_66 (by decide) ?_
                  refine lv_icmp_ge (tgt := 90) jx jb dX9_call_67 (by decide) (fun c67 => ?_) (fun c67 => ?_)
                  · refine lv_aload_n jx jb dX9_call_90 rfl (lv_at hl 0 rfl) ?_
                    have m4 : gL64 63 = .inr (9, [.ref (ad 64), .ref (ad 65), .ref (ad 66), .ref (ad 67), .int (nI lg.length), .ref (ad 68), .ref (ad 69), .ref (ad 70), .ref (ad 71), .ref (ad 72), .int (nI T), .ref (ad 73), .ref (ad 74), .ref (ad 75), .ref (ad 76), .ref (ad 77), .ref (ad 78), .ref (ad 79), .ref (ad 80), .int (tI (tk M ((kd * 16 + nm) / 16) st)), .ref (ad 81), .ref (ad 82)]) := hR64.2.1
                    refine w_get X hW K9 (by omega) m4 5 (by decide) fl_X9_22 rfl dX9_call_91 ?_
                    refine lv_aload_n jx jb dX9_call_94 rfl (lv_at hl 0 rfl) ?_
                    refine w_get X hW K9 (by omega) m4 4 (by decide) fl_X9_96 rfl dX9_call_95 ?_
                    refine lv_iload_n jx jb dX9_call_98 rfl (lv_at hl 1 rfl) ?_
                    have m5 : gL64 68 = .inl (cy 0, 200, .inl (qL64 68)) := hR64.2.2 68 (by decide) (by decide)
                    refine w_ist X hW (by omega) m5 lg.length rfl (by omega) (by decide) dX9_call_99 (fun H locs hW => ?_)
                    obtain ⟨g_6, eg_6⟩ : ∃ zz, zz = va_up gL64 68 (.inl (cy 0, 200, .inl (upd (qL64 68) lg.length (nI kd)))) := ⟨_, rfl⟩
                    have hW : Wd G A js.heap (N, ad, g_6) H locs := by rw [eg_6]; exact hW
                    obtain ⟨q_8, eq_8⟩ : ∃ zz, zz = va_up qL64 68 (upd (qL64 68) lg.length (nI kd)) := ⟨_, rfl⟩
                    have hR7 : MRaw cy N ad g_6 q_8 (nI lg.length) (nI T) (tI (tk M ((kd * 16 + nm) / 16) st)) := by rw [eq_8]; exact hR64.put (by decide) (by decide) (fun k hk => by rw [eg_6, va_up_n hk]) (by rw [eg_6]; exact va_up_s)
                    refine lv_aload_n jx jb dX9_call_100 rfl (lv_at hl 0 rfl) ?_
                    have m9 : g_6 63 = .inr (9, [.ref (ad 64), .ref (ad 65), .ref (ad 66), .ref (ad 67), .int (nI lg.length), .ref (ad 68), .ref (ad 69), .ref (ad 70), .ref (ad 71), .ref (ad 72), .int (nI T), .ref (ad 73), .ref (ad 74), .ref (ad 75), .ref (ad 76), .ref (ad 77), .ref (ad 78), .ref (ad 79), .ref (ad 80), .int (tI (tk M ((kd * 16 + nm) / 16) st)), .ref (ad 81), .ref (ad 82)]) := hR7.2.1
                    refine w_get X hW K9 (by omega) m9 6 (by decide) fl_X9_25 rfl dX9_call_101 ?_
                    refine lv_aload_n jx jb dX9_call_104 rfl (lv_at hl 0 rfl) ?_
                    refine w_get X hW K9 (by omega) m9 4 (by decide) fl_X9_96 rfl dX9_call_105 ?_
                    refine lv_iload_n jx jb dX9_call_108 rfl (lv_at hl 2 rfl) ?_
                    have m10 : g_6 69 = .inl (cy 0, 200, .inl (q_8 69)) := hR7.2.2 69 (by decide) (by decide)
                    refine w_ist X hW (by omega) m10 lg.length rfl (by omega) (by decide) dX9_call_109 (fun H locs hW => ?_)
                    obtain ⟨g_11, eg_11⟩ : ∃ zz, zz = va_up g_6 69 (.inl (cy 0, 200, .inl (upd (q_8 69) lg.length (nI nm)))) := ⟨_, rfl⟩
                    have hW : Wd G A js.heap (N, ad, g_11) H locs := by rw [eg_11]; exact hW
                    obtain ⟨q_13, eq_13⟩ : ∃ zz, zz = va_up q_8 69 (upd (q_8 69) lg.length (nI nm)) := ⟨_, rfl⟩
                    have hR12 : MRaw cy N ad g_11 q_13 (nI lg.length) (nI T) (tI (tk M ((kd * 16 + nm) / 16) st)) := by rw [eq_13]; exact hR7.put (by decide) (by decide) (fun k hk => by rw [eg_11, va_up_n hk]) (by rw [eg_11]; exact va_up_s)
                    refine lv_aload_n jx jb dX9_call_110 rfl (lv_at hl 0 rfl) ?_
                    have m14 : g_11 63 = .inr (9, [.ref (ad 64), .ref (ad 65), .ref (ad 66), .ref (ad 67), .int (nI lg.length), .ref (ad 68), .ref (ad 69), .ref (ad 70), .ref (ad 71), .ref (ad 72), .int (nI T), .ref (ad 73), .ref (ad 74), .ref (ad 75), .ref (ad 76), .ref (ad 77), .ref (ad 78), .ref (ad 79), .ref (ad 80), .int (tI (tk M ((kd * 16 + nm) / 16) st)), .ref (ad 81), .ref (ad 82)]) := hR12.2.1
                    refine w_get X hW K9 (by omega) m14 7 (by decide) fl_X9_28 rfl dX9_call_111 ?_
                    refine lv_aload_n jx jb dX9_call_114 rfl (lv_at hl 0 rfl) ?_
                    refine w_get X hW K9 (by omega) m14 4 (by decide) fl_X9_96 rfl dX9_call_115 ?_
                    refine lv_iload_n jx jb dX9_call_118 rfl (lv_at hl 3 rfl) ?_
                    have m15 : g_11 70 = .inl (cy 0, 200, .inl (q_13 70)) := hR12.2.2 70 (by decide) (by decide)
                    refine w_ist X hW (by omega) m15 lg.length rfl (by omega) (by decide) dX9_call_119 (fun H locs hW => ?_)
                    obtain ⟨g_16, eg_16⟩ : ∃ zz, zz = va_up g_11 70 (.inl (cy 0, 200, .inl (upd (q_13 70) lg.length (rs M (tk M ((kd * 16 + nm) / 16) st) (stp M (kd * 16 + nm) st))))) := ⟨_, rfl⟩
                    have hW : Wd G A js.heap (N, ad, g_16) H locs := by rw [eg_16]; exact hW
                    obtain ⟨q_18, eq_18⟩ : ∃ zz, zz = va_up q_13 70 (upd (q_13 70) lg.length (rs M (tk M ((kd * 16 + nm) / 16) st) (stp M (kd * 16 + nm) st))) := ⟨_, rfl⟩
                    have hR17 : MRaw cy N ad g_16 q_18 (nI lg.length) (nI T) (tI (tk M ((kd * 16 + nm) / 16) st)) := by rw [eq_18]; exact hR12.put (by decide) (by decide) (fun k hk => by rw [eg_16, va_up_n hk]) (by rw [eg_16]; exact va_up_s)
                    refine lv_aload_n jx jb dX9_call_120 rfl (lv_at hl 0 rfl) ?_
                    have m19 : g_16 63 = .inr (9, [.ref (ad 64), .ref (ad 65), .ref (ad 66), .ref (ad 67), .int (nI lg.length), .ref (ad 68), .ref (ad 69), .ref (ad 70), .ref (ad 71), .ref (ad 72), .int (nI T), .ref (ad 73), .ref (ad 74), .ref (ad 75), .ref (ad 76), .ref (ad 77), .ref (ad 78), .ref (ad 79), .ref (ad 80), .int (tI (tk M ((kd * 16 + nm) / 16) st)), .ref (ad 81), .ref (ad 82)]) := hR17.2.1
                    refine w_get X hW K9 (by omega) m19 8 (by decide) fl_X9_31 rfl dX9_call_121 ?_
                    refine lv_aload_n jx jb dX9_call_124 rfl (lv_at hl 0 rfl) ?_
                    refine w_get X hW K9 (by omega) m19 4 (by decide) fl_X9_96 rfl dX9_call_125 ?_
                    refine lv_aload_n jx jb dX9_call_128 rfl (lv_at hl 0 rfl) ?_
                    refine w_get X hW K9 (by omega) m19 19 (by decide) fl_X9_90 rfl dX9_call_129 ?_
                    have m20 : g_16 71 = .inl (cy 0, 200, .inl (q_18 71)) := hR17.2.2 71 (by decide) (by decide)
                    refine w_ist X hW (by omega) m20 lg.length rfl (by omega) (by decide) dX9_call_132 (fun H locs hW => ?_)
                    obtain ⟨g_21, eg_21⟩ : ∃ zz, zz = va_up g_16 71 (.inl (cy 0, 200, .inl (upd (q_18 71) lg.length (tI (tk M ((kd * 16 + nm) / 16) st))))) := ⟨_, rfl⟩
                    have hW : Wd G A js.heap (N, ad, g_21) H locs := by rw [eg_21]; exact hW
                    obtain ⟨q_23, eq_23⟩ : ∃ zz, zz = va_up q_18 71 (upd (q_18 71) lg.length (tI (tk M ((kd * 16 + nm) / 16) st))) := ⟨_, rfl⟩
                    have hR22 : MRaw cy N ad g_21 q_23 (nI lg.length) (nI T) (tI (tk M ((kd * 16 + nm) / 16) st)) := by rw [eq_23]; exact hR17.put (by decide) (by decide) (fun k hk => by rw [eg_21, va_up_n hk]) (by rw [eg_21]; exact va_up_s)
                    refine lv_aload_n jx jb dX9_call_133 rfl (lv_at hl 0 rfl) ?_
                    refine lv_dup jx jb dX9_call_134 rfl ?_
                    have m24 : g_21 63 = .inr (9, [.ref (ad 64), .ref (ad 65), .ref (ad 66), .ref (ad 67), .int (nI lg.length), .ref (ad 68), .ref (ad 69), .ref (ad 70), .ref (ad 71), .ref (ad 72), .int (nI T), .ref (ad 73), .ref (ad 74), .ref (ad 75), .ref (ad 76), .ref (ad 77), .ref (ad 78), .ref (ad 79), .ref (ad 80), .int (tI (tk M ((kd * 16 + nm) / 16) st)), .ref (ad 81), .ref (ad 82)]) := hR22.2.1
                    refine w_get X hW K9 (by omega) m24 4 (by decide) fl_X9_96 rfl dX9_call_135 ?_
                    refine lv_iconst (v := 1) jx jb dX9_call_138 (by decide) ?_
                    refine lv_iadd jx jb dX9_call_139 ?_
                    refine top_eq (y := nI (lg.length + 1)) (nI_1 _) ?_
                    refine w_put X hW K9 (by omega) m24 4 (by decide) fl_X9_96 rfl rfl rfl (Nat.le_of_ble_eq_true rfl) dX9_call_140 (fun H locs hW => ?_)
                    obtain ⟨g_25, eg_25⟩ : ∃ zz, zz = va_up g_21 63 (.inr (9, [.ref (ad 64), .ref (ad 65), .ref (ad 66), .ref (ad 67), .int (nI (lg.length + 1)), .ref (ad 68), .ref (ad 69), .ref (ad 70), .ref (ad 71), .ref (ad 72), .int (nI T), .ref (ad 73), .ref (ad 74), .ref (ad 75), .ref (ad 76), .ref (ad 77), .ref (ad 78), .ref (ad 79), .ref (ad 80), .int (tI (tk M ((kd * 16 + nm) / 16) st)), .ref (ad 81), .ref (ad 82)])) := ⟨_, rfl⟩
                    have hW : Wd G A js.heap (N, ad, g_25) H locs := by rw [eg_25]; exact hW
                    have hR26 : MRaw cy N ad g_25 q_23 (nI (lg.length + 1)) (nI T) (tI (tk M ((kd * 16 + nm) / 16) st)) := hR22.put63 (fun k hk => by rw [eg_25, va_up_n hk]) (by rw [eg_25]; exact va_up_s)
                    refine lv_iload_n jx jb dX9_call_143 rfl (lv_at hl 3 rfl) ?_
                    have hmm := n_le (a := 4) (by decide) (by omega) c67
                    have hql : QL q_23 (lg ++ [(kd * 16 + nm)]) (upd lr lg.length (rs M (tk M ((kd * 16 + nm) / 16) st) (stp M (kd * 16 + nm) st))) (upd lt lg.length (tI (tk M ((kd * 16 + nm) / 16) st))) := ⟨by simp; omega, fun z hz => by rcases List.mem_append.mp hz with h | h; exact hL.2.1 z h; (simp at h; omega), (fun i hi => by
                        simp at hi
                        by_cases z : i = lg.length
                        · rw [z, show gl (lg ++ [(kd * 16 + nm)]) lg.length = (kd * 16 + nm) from gl_app_r (i := 0)]
                          refine ⟨?_, ?_, ?_, ?_⟩
                          · rw [eq_23, va_up_n (by decide), eq_18, va_up_n (by decide), eq_13, va_up_n (by decide), eq_8, va_up_s, pk_us, show (kd * 16 + nm) / 16 = kd by omega]
                          · rw [eq_23, va_up_n (by decide), eq_18, va_up_n (by decide), eq_13, va_up_s, pk_us, show (kd * 16 + nm) % 16 = nm by omega]
                          · rw [eq_23, va_up_n (by decide), eq_18, va_up_s, pk_us, pk_us]
                          · rw [eq_23, va_up_s, pk_us, pk_us]
                        · obtain ⟨u1, u2, u3, u4⟩ := hL.2.2 i (by omega)
                          rw [gl_app_l (by omega)]
                          refine ⟨?_, ?_, ?_, ?_⟩
                          · rw [eq_23, va_up_n (by decide), eq_18, va_up_n (by decide), eq_13, va_up_n (by decide), eq_8, va_up_s, pk_un z, hsb 68 (by decide), hsQ 68 (by decide)]; exact u1
                          · rw [eq_23, va_up_n (by decide), eq_18, va_up_n (by decide), eq_13, va_up_s, pk_un z, eq_8, va_up_n (by decide), hsb 69 (by decide), hsQ 69 (by decide)]; exact u2
                          · rw [eq_23, va_up_n (by decide), eq_18, va_up_s, pk_un z, eq_13, va_up_n (by decide), eq_8, va_up_n (by decide), hsb 70 (by decide), hsQ 70 (by decide)]; rw [pk_un z]; exact u3
                          · rw [eq_23, va_up_s, pk_un z, eq_18, va_up_n (by decide), eq_13, va_up_n (by decide), eq_8, va_up_n (by decide), hsb 71 (by decide), hsQ 71 (by decide)]; rw [pk_un z]; exact u4)⟩
                    have hR9 : MRaw cy N ad g_25 q_23 (nI (lg ++ [(kd * 16 + nm)]).length) (nI T) (tI (tk M ((kd * 16 + nm) / 16) st)) := by rw [show (lg ++ [(kd * 16 + nm)]).length = lg.length + 1 by simp]; exact hR26
                    exact ret _ _ _ _ _ _ dX9_call_144 hW ⟨rfl, ⟨q_23, _, hR9, hok, hQ.of (fun a h1 h2 => by rw [eq_23, va_up_n (by omega), eq_18, va_up_n (by omega), eq_13, va_up_n (by omega), eq_8, va_up_n (by omega), hsb a (by omega), hsQ a (by omega)]), hql, nx_lt hok (by omega) hst, (fun j hj => by rw [eq_23, va_up_n (by decide), eq_18, va_up_n (by decide), eq_13, va_up_n (by decide), eq_8, va_up_n (by decide)]; exact h0b j (by omega)), hT12, fun i hi => (hQT i hi).of (fun a h1 h2 => by rw [eq_23, va_up_n (by omega), eq_18, va_up_n (by omega), eq_13, va_up_n (by omega), eq_8, va_up_n (by omega), hsb a (by omega), hsQ a (by omega)])⟩, (fun k hk => by show g_25 k = _; rw [eg_25, va_up_n (by omega), eg_21, va_up_n (by omega), eg_16, va_up_n (by omega), eg_11, va_up_n (by omega), eg_6, va_up_n (by omega), hfr64 k hk])⟩
                  · have hlt2 : m < 4 := n_nle (a := 4) (by decide) (by omega) c67
                    refine lv_aload_n jx jb dX9_call_70 rfl (lv_at hl 0 rfl) ?_
                    have m27 : gL64 63 = .inr (9, [.ref (ad 64), .ref (ad 65), .ref (ad 66), .ref (ad 67), .int (nI lg.length), .ref (ad 68), .ref (ad 69), .ref (ad 70), .ref (ad 71), .ref (ad 72), .int (nI T), .ref (ad 73), .ref (ad 74), .ref (ad 75), .ref (ad 76), .ref (ad 77), .ref (ad 78), .ref (ad 79), .ref (ad 80), .int (tI (tk M ((kd * 16 + nm) / 16) st)), .ref (ad 81), .ref (ad 82)]) := hR64.2.1
                    refine w_get X hW K9 (by omega) m27 9 (by decide) fl_X9_34 rfl dX9_call_71 ?_
                    refine lv_iload jx jb dX9_call_74 (lv_at hl 4 rfl) ?_
                    refine lv_aload_n jx jb dX9_call_76 rfl (lv_at hl 0 rfl) ?_
                    refine w_get X hW K9 (by omega) m27 18 (by decide) fl_X9_59 rfl dX9_call_77 ?_
                    refine lv_iload jx jb dX9_call_80 (lv_at hl 4 rfl) ?_
                    have m28 : gL64 80 = .inl (cy 0, 4, .inl (qL64 80)) := hR64.2.2 80 (by decide) (by decide)
                    refine w_ild X hW (by omega) m28 m rfl hlt2 (by decide) dX9_call_82 ?_
                    refine top_eq (y := nI (nib (stp M (kd * 16 + nm) st) m)) (by rw [hsb 80 (by decide)]; exact hNG m hlt2) ?_
                    have m29 : gL64 72 = .inl (cy 0, 4, .inl (qL64 72)) := hR64.2.2 72 (by decide) (by decide)
                    refine w_ist X hW (by omega) m29 m rfl hlt2 (by decide) dX9_call_83 (fun H locs hW => ?_)
                    obtain ⟨g_30, eg_30⟩ : ∃ zz, zz = va_up gL64 72 (.inl (cy 0, 4, .inl (upd (qL64 72) m (nI (nib (stp M (kd * 16 + nm) st) m))))) := ⟨_, rfl⟩
                    have hW : Wd G A js.heap (N, ad, g_30) H locs := by rw [eg_30]; exact hW
                    obtain ⟨q_32, eq_32⟩ : ∃ zz, zz = va_up qL64 72 (upd (qL64 72) m (nI (nib (stp M (kd * 16 + nm) st) m))) := ⟨_, rfl⟩
                    have hR31 : MRaw cy N ad g_30 q_32 (nI lg.length) (nI T) (tI (tk M ((kd * 16 + nm) / 16) st)) := by rw [eq_32]; exact hR64.put (by decide) (by decide) (fun k hk => by rw [eg_30, va_up_n hk]) (by rw [eg_30]; exact va_up_s)
                    refine lv_iinc (v := nI (m + 1)) (lv' := [(4, .int (nI (m + 1))), (0, .ref (ad 63)), (1, .int (nI kd)), (2, .int (nI nm)), (3, .int (rs M (tk M ((kd * 16 + nm) / 16) st) (stp M (kd * 16 + nm) st)))]) jx jb dX9_call_84 hl (k := 4) rfl (show nI m + 1 = nI (m + 1) from nI_1 _) (by decide) rfl (fun ls hl => ?_)
                    refine lv_goto (tgt := 64) jx jb dX9_call_87 (by decide) ?_
                    exact ih64 (m + 1) q_32 g_30 _ _ _ hR31 (fun k hk => by show g_30 k = _; rw [eg_30, va_up_n (by omega), hfr64 k hk]) (by omega) (fun i hi => by rw [eq_32, va_up_s]; by_cases z : i = m; (rw [z, pk_us]); (rw [pk_un z]; exact h0b i (by omega))) (fun a ha => by rw [eq_32, va_up_n ha]; exact hsb a ha)  (by omega) hW (lv_sub hl [1, 2, 3, 4, 0] rfl)
              exact loop64 _ 0 qG gG _ _ _ hRG (fun k hk => by show gG k = _; rw [frG k hk, hfr31 k hk]) (by omega) (fun i hi => absurd hi (by omega)) (fun a ha => rfl)  (Nat.lt_succ_self _) hW (lv_sub hl [2, 3, 4, 1, 0] rfl)
            · have hlt : k < 4 := n_nle (a := 4) (by decide) (by omega) c33
              refine lv_aload_n jx jb dX9_call_36 rfl (lv_at hl 0 rfl) ?_
              have m33 : gL31 63 = .inr (9, [.ref (ad 64), .ref (ad 65), .ref (ad 66), .ref (ad 67), .int (nI lg.length), .ref (ad 68), .ref (ad 69), .ref (ad 70), .ref (ad 71), .ref (ad 72), .int (nI T), .ref (ad 73), .ref (ad 74), .ref (ad 75), .ref (ad 76), .ref (ad 77), .ref (ad 78), .ref (ad 79), .ref (ad 80), .int to, .ref (ad 81), .ref (ad 82)]) := hR31.2.1
              refine w_get X hW K9 (by omega) m33 18 (by decide) fl_X9_59 rfl dX9_call_37 ?_
              refine lv_iload_n jx jb dX9_call_40 rfl (lv_at hl 3 rfl) ?_
              refine lv_aload_n jx jb dX9_call_41 rfl (lv_at hl 0 rfl) ?_
              refine w_get X hW K9 (by omega) m33 9 (by decide) fl_X9_34 rfl dX9_call_42 ?_
              refine lv_iload_n jx jb dX9_call_45 rfl (lv_at hl 3 rfl) ?_
              have m34 : gL31 72 = .inl (cy 0, 4, .inl (qL31 72)) := hR31.2.2 72 (by decide) (by decide)
              refine w_ild X hW (by omega) m34 k rfl hlt (by decide) dX9_call_46 ?_
              refine top_eq (y := nI (nib st k)) (by rw [hsm 72 (by decide)]; exact hS4 k hlt) ?_
              have m35 : gL31 80 = .inl (cy 0, 4, .inl (qL31 80)) := hR31.2.2 80 (by decide) (by decide)
              refine w_ist X hW (by omega) m35 k rfl hlt (by decide) dX9_call_47 (fun H locs hW => ?_)
              obtain ⟨g_36, eg_36⟩ : ∃ zz, zz = va_up gL31 80 (.inl (cy 0, 4, .inl (upd (qL31 80) k (nI (nib st k))))) := ⟨_, rfl⟩
              have hW : Wd G A js.heap (N, ad, g_36) H locs := by rw [eg_36]; exact hW
              obtain ⟨q_38, eq_38⟩ : ∃ zz, zz = va_up qL31 80 (upd (qL31 80) k (nI (nib st k))) := ⟨_, rfl⟩
              have hR37 : MRaw cy N ad g_36 q_38 (nI lg.length) (nI T) to := by rw [eq_38]; exact hR31.put (by decide) (by decide) (fun k hk => by rw [eg_36, va_up_n hk]) (by rw [eg_36]; exact va_up_s)
              refine lv_iinc (v := nI (k + 1)) (lv' := [(3, .int (nI (k + 1))), (0, .ref (ad 63)), (1, .int (nI kd)), (2, .int (nI nm))]) jx jb dX9_call_48 hl (k := 3) rfl (show nI k + 1 = nI (k + 1) from nI_1 _) (by decide) rfl (fun ls hl => ?_)
              refine lv_goto (tgt := 31) jx jb dX9_call_51 (by decide) ?_
              exact ih31 (k + 1) q_38 g_36 _ _ _ hR37 (fun k hk => by show g_36 k = _; rw [eg_36, va_up_n (by omega), hfr31 k hk]) (by omega) (fun m hm => by rw [eq_38, va_up_s]; by_cases z : m = k; (rw [z, pk_us]); (rw [pk_un z]; exact h0 m (by omega))) (fun a ha => by rw [eq_38, va_up_n ha]; exact hsm a ha)  (by omega) hW (lv_sub hl [1, 2, 3, 0] rfl)
        exact loop31 _ 0 q g _ _ _ hR (fun k hk => by show g k = _; rfl) (by omega) (fun m hm => absurd hm (by omega)) (fun a ha => rfl)  (Nat.lt_succ_self _) hW (lv_sub hl [1, 2, 3, 0] rfl)
      · exact absurd (n_eq (b := 200) (by omega) (by decide) c24) (by omega)

set_option maxHeartbeats 4000000 in
set_option maxRecDepth 100000 in
theorem c_mCount {l : Launch} {G : va_G} {cy : Nat → ClassId} {N : Nat} {ad : Nat → Nat} {g : Nat → va_E} {M : M4} {lg : List Nat} {lr lt : Nat → Int32} {st T : Nat} {y : Nat → TT} {what : Int32} (hMA : MAt cy N ad g M lg lr lt st T y) : MI l G cy (N, ad, g) yX9_count cX9_count 4 (some .int) (rmN 2) [.ref (ad 63), .int what] (nA N ad (fun v g1 => v = cntX M lg lr T y what ∧ MAt cy N ad g1 M lg lr lt st T y ∧ ∀ k, ¬ (63 ≤ k ∧ k < 83) → g1 k = g k)) := by
  refine NI.mk (by decide) (by intros; first | rfl | (simp_all; done)) (Nat.le_of_ble_eq_true rfl) ?_
  intro jp je js jm below meth jc A Q X hW ret ls hl
  have jx := X.hx
  have jb := X.hb
  have hl : lv_has ls 4 [(0, .ref (ad 63)), (1, .int what)] := hl
  have X : Cx G cy jp js jm _ jc cX9_count 4 RX9 A js.heap := X
  obtain ⟨q, to, hR, hok, hQ, hL, hst, hS4, hT12, hQT⟩ := id hMA
  have h83 : 83 ≤ N := hR.1
  have hl200 := hL.1
  refine lv_iconst (v := 0) jx jb dX9_count_0 (by decide) ?_
  refine lv_istore_n (lv' := [(2, .int 0), (0, .ref (ad 63)), (1, .int what)]) jx jb dX9_count_1 rfl hl (by decide) rfl (fun ls hl => ?_)
  refine lv_iload_n jx jb dX9_count_2 rfl (lv_at hl 2 rfl) ?_
  rcases sw_cases what 6 (by decide) with ⟨kS, hkS, eS⟩ | eS
  · rcases (show kS = 0 ∨ kS = 1 ∨ kS = 2 ∨ kS = 3 ∨ kS = 4 ∨ kS = 5 by omega) with rfl | rfl | rfl | rfl | rfl | rfl
    · refine lv_tableIn (tgt := 40) (off := 37) jx jb dX9_count_3 (by rw [eS]; decide) (by rw [eS]; decide) (by rw [eS]; rfl) (by decide) ?_
      refine lv_aload_n jx jb dX9_count_40 rfl (lv_at hl 1 rfl) ?_
      have m1 : g 63 = .inr (9, [.ref (ad 64), .ref (ad 65), .ref (ad 66), .ref (ad 67), .int (nI lg.length), .ref (ad 68), .ref (ad 69), .ref (ad 70), .ref (ad 71), .ref (ad 72), .int (nI T), .ref (ad 73), .ref (ad 74), .ref (ad 75), .ref (ad 76), .ref (ad 77), .ref (ad 78), .ref (ad 79), .ref (ad 80), .int to, .ref (ad 81), .ref (ad 82)]) := hR.2.1
      refine w_get X hW K9 (by omega) m1 4 (by decide) fl_X9_96 rfl dX9_count_41 ?_
      exact ret _ _ _ _ _ _ dX9_count_44 hW ⟨(by unfold cntX; rw [eS]; rfl), hMA, fun k hk => rfl⟩
    · refine lv_tableIn (tgt := 45) (off := 42) jx jb dX9_count_3 (by rw [eS]; decide) (by rw [eS]; decide) (by rw [eS]; rfl) (by decide) ?_
      refine lv_aload_n jx jb dX9_count_45 rfl (lv_at hl 1 rfl) ?_
      have m2 : g 63 = .inr (9, [.ref (ad 64), .ref (ad 65), .ref (ad 66), .ref (ad 67), .int (nI lg.length), .ref (ad 68), .ref (ad 69), .ref (ad 70), .ref (ad 71), .ref (ad 72), .int (nI T), .ref (ad 73), .ref (ad 74), .ref (ad 75), .ref (ad 76), .ref (ad 77), .ref (ad 78), .ref (ad 79), .ref (ad 80), .int to, .ref (ad 81), .ref (ad 82)]) := hR.2.1
      refine w_get X hW K9 (by omega) m2 10 (by decide) fl_X9_83 rfl dX9_count_46 ?_
      exact ret _ _ _ _ _ _ dX9_count_49 hW ⟨(by unfold cntX; rw [eS]; rfl), hMA, fun k hk => rfl⟩
    · refine lv_tableIn (tgt := 50) (off := 47) jx jb dX9_count_3 (by rw [eS]; decide) (by rw [eS]; decide) (by rw [eS]; rfl) (by decide) ?_
      refine lv_iconst (v := 0) jx jb dX9_count_50 (by decide) ?_
      refine lv_istore_n (lv' := [(3, .int 0), (2, .int 0), (0, .ref (ad 63)), (1, .int what)]) jx jb dX9_count_51 rfl hl (by decide) rfl (fun ls hl => ?_)
      have loop52 : ∀ (fuel52 : Nat) (k : Nat) (H : Heap) (locs : List Loc) (ls : Array Slot), (k ≤ 6) → 6 - k < fuel52 → Wd G A js.heap (N, ad, g) H locs → lv_has ls 4 [(0, .ref (ad 63)), (1, .int what), (2, .int (nI (sumK M.1 k))), (3, .int (nI k))] → W jp l je (rmN 2) js jm [.ref (ad 63), .int what].toArray below meth jc H locs 0 0 Q (F0 jm 52 ls []) := by
        intro fuel52
        induction fuel52 with
        | zero => intro k H locs ls hk  hm52; exact absurd hm52 (Nat.not_lt_zero _)
        | succ fuel52 ih52 =>
          intro k H locs ls hk  hm52 hW hl
          refine lv_iload_n jx jb dX9_count_52 rfl (lv_at hl 3 rfl) ?_
          refine lv_bipush (v := 6) jx jb dX9_count_53 (by decide) ?_
          refine lv_icmp_ge (tgt := 73) jx jb dX9_count_55 (by decide) (fun c55 => ?_) (fun c55 => ?_)
          · refine lv_iload_n jx jb dX9_count_73 rfl (lv_at hl 2 rfl) ?_
            exact ret _ _ _ _ _ _ dX9_count_74 hW ⟨(by unfold cntX; rw [eS]; have := n_le (a := 6) (by decide) (by omega) c55; rw [show k = 6 by omega, ← bc_all hok]; rfl), hMA, fun k hk => rfl⟩
          · have hlt : k < 6 := n_nle (a := 6) (by decide) (by omega) c55
            refine lv_iload_n jx jb dX9_count_58 rfl (lv_at hl 2 rfl) ?_
            refine lv_aload_n jx jb dX9_count_59 rfl (lv_at hl 0 rfl) ?_
            have m3 : g 63 = .inr (9, [.ref (ad 64), .ref (ad 65), .ref (ad 66), .ref (ad 67), .int (nI lg.length), .ref (ad 68), .ref (ad 69), .ref (ad 70), .ref (ad 71), .ref (ad 72), .int (nI T), .ref (ad 73), .ref (ad 74), .ref (ad 75), .ref (ad 76), .ref (ad 77), .ref (ad 78), .ref (ad 79), .ref (ad 80), .int to, .ref (ad 81), .ref (ad 82)]) := hR.2.1
            refine w_get X hW K9 (by omega) m3 0 (by decide) fl_X9_9 rfl dX9_count_60 ?_
            refine lv_iload_n jx jb dX9_count_63 rfl (lv_at hl 3 rfl) ?_
            have m4 : g 64 = .inl (cy 0, 6, .inl (q 64)) := hR.2.2 64 (by decide) (by decide)
            refine w_ild X hW (by omega) m4 k rfl hlt (by decide) dX9_count_64 ?_
            refine top_eq (y := nI (M.1 k)) (hQ.1 k hlt) ?_
            refine lv_iadd jx jb dX9_count_65 ?_
            refine top_eq (y := nI (sumK M.1 (k + 1))) (nI_add _ _) ?_
            refine lv_istore_n (lv' := [(2, .int (nI (sumK M.1 (k + 1)))), (0, .ref (ad 63)), (1, .int what), (3, .int (nI k))]) jx jb dX9_count_66 rfl hl (by decide) rfl (fun ls hl => ?_)
            refine lv_iinc (v := nI (k + 1)) (lv' := [(3, .int (nI (k + 1))), (2, .int (nI (sumK M.1 (k + 1)))), (0, .ref (ad 63)), (1, .int what)]) jx jb dX9_count_67 hl (k := 3) rfl (show nI k + 1 = nI (k + 1) from nI_1 _) (by decide) rfl (fun ls hl => ?_)
            refine lv_goto (tgt := 52) jx jb dX9_count_70 (by decide) ?_
            exact ih52 (k + 1)  _ _ _ (by omega)  (by omega) hW (lv_sub hl [2, 3, 1, 0] rfl)
      exact loop52 _ 0  _ _ _ (by omega)  (Nat.lt_succ_self _) hW (lv_sub hl [2, 3, 1, 0] rfl)
    · refine lv_tableIn (tgt := 75) (off := 72) jx jb dX9_count_3 (by rw [eS]; decide) (by rw [eS]; decide) (by rw [eS]; rfl) (by decide) ?_
      refine lv_iconst (v := 0) jx jb dX9_count_75 (by decide) ?_
      refine lv_istore_n (lv' := [(3, .int 0), (2, .int 0), (0, .ref (ad 63)), (1, .int what)]) jx jb dX9_count_76 rfl hl (by decide) rfl (fun ls hl => ?_)
      have loop77 : ∀ (fuel77 : Nat) (k : Nat) (H : Heap) (locs : List Loc) (ls : Array Slot), (k ≤ T) → T - k < fuel77 → Wd G A js.heap (N, ad, g) H locs → lv_has ls 4 [(0, .ref (ad 63)), (1, .int what), (2, .int (nI (cntB (fun i => (y i).2.2.2.1) k))), (3, .int (nI k))] → W jp l je (rmN 2) js jm [.ref (ad 63), .int what].toArray below meth jc H locs 0 0 Q (F0 jm 77 ls []) := by
        intro fuel77
        induction fuel77 with
        | zero => intro k H locs ls hk  hm77; exact absurd hm77 (Nat.not_lt_zero _)
        | succ fuel77 ih77 =>
          intro k H locs ls hk  hm77 hW hl
          refine lv_iload_n jx jb dX9_count_77 rfl (lv_at hl 3 rfl) ?_
          refine lv_aload_n jx jb dX9_count_78 rfl (lv_at hl 0 rfl) ?_
          have m5 : g 63 = .inr (9, [.ref (ad 64), .ref (ad 65), .ref (ad 66), .ref (ad 67), .int (nI lg.length), .ref (ad 68), .ref (ad 69), .ref (ad 70), .ref (ad 71), .ref (ad 72), .int (nI T), .ref (ad 73), .ref (ad 74), .ref (ad 75), .ref (ad 76), .ref (ad 77), .ref (ad 78), .ref (ad 79), .ref (ad 80), .int to, .ref (ad 81), .ref (ad 82)]) := hR.2.1
          refine w_get X hW K9 (by omega) m5 10 (by decide) fl_X9_83 rfl dX9_count_79 ?_
          refine lv_icmp_ge (tgt := 108) jx jb dX9_count_82 (by decide) (fun c82 => ?_) (fun c82 => ?_)
          · refine lv_iload_n jx jb dX9_count_108 rfl (lv_at hl 2 rfl) ?_
            exact ret _ _ _ _ _ _ dX9_count_109 hW ⟨(by unfold cntX; rw [eS]; have := n_le (by omega) (by omega) c82; rw [show k = T by omega]; rfl), hMA, fun k hk => rfl⟩
          · have hlt : k < T := n_nle (by omega) (by omega) c82
            refine lv_iload_n jx jb dX9_count_85 rfl (lv_at hl 2 rfl) ?_
            refine lv_aload_n jx jb dX9_count_86 rfl (lv_at hl 0 rfl) ?_
            refine w_get X hW K9 (by omega) m5 16 (by decide) fl_X9_52 rfl dX9_count_87 ?_
            refine lv_iload_n jx jb dX9_count_90 rfl (lv_at hl 3 rfl) ?_
            have m6 : g 78 = .inl (cy 1, 12, .inl (q 78)) := hR.2.2 78 (by decide) (by decide)
            refine w_zld X hW (by omega) m6 k rfl (by omega) (by decide) dX9_count_91 ?_
            refine top_eq (y := bI ((y k).2.2.2.1 = true)) ((hQT k hlt).2.2.2.2.1) ?_
            refine lv_if_eq (tgt := 99) jx jb dX9_count_92 (by decide) (fun c92 => ?_) (fun c92 => ?_)
            · refine lv_iconst (v := 0) jx jb dX9_count_99 (by decide) ?_
              refine lv_iadd jx jb dX9_count_100 ?_
              refine top_eq (y := nI (cntB (fun i => (y i).2.2.2.1) (k + 1))) (by rw [show cntB (fun i => (y i).2.2.2.1) (k + 1) = cntB (fun i => (y i).2.2.2.1) k + (if (y k).2.2.2.1 = true then 1 else 0) from rfl, if_neg (bI_0.mp c92), ← nI_add]; rfl) ?_
              refine lv_istore_n (lv' := [(2, .int (nI (cntB (fun i => (y i).2.2.2.1) (k + 1)))), (0, .ref (ad 63)), (1, .int what), (3, .int (nI k))]) jx jb dX9_count_101 rfl hl (by decide) rfl (fun ls hl => ?_)
              refine lv_iinc (v := nI (k + 1)) (lv' := [(3, .int (nI (k + 1))), (2, .int (nI (cntB (fun i => (y i).2.2.2.1) (k + 1)))), (0, .ref (ad 63)), (1, .int what)]) jx jb dX9_count_102 hl (k := 3) rfl (show nI k + 1 = nI (k + 1) from nI_1 _) (by decide) rfl (fun ls hl => ?_)
              refine lv_goto (tgt := 77) jx jb dX9_count_105 (by decide) ?_
              exact ih77 (k + 1)  _ _ _ (by omega)  (by omega) hW (lv_sub hl [2, 3, 1, 0] rfl)
            · refine lv_iconst (v := 1) jx jb dX9_count_95 (by decide) ?_
              refine lv_goto (tgt := 100) jx jb dX9_count_96 (by decide) ?_
              refine lv_iadd jx jb dX9_count_100 ?_
              refine top_eq (y := nI (cntB (fun i => (y i).2.2.2.1) (k + 1))) (by rw [show cntB (fun i => (y i).2.2.2.1) (k + 1) = cntB (fun i => (y i).2.2.2.1) k + (if (y k).2.2.2.1 = true then 1 else 0) from rfl, if_pos (bI_n0.mp c92), ← nI_add]; rfl) ?_
              refine lv_istore_n (lv' := [(2, .int (nI (cntB (fun i => (y i).2.2.2.1) (k + 1)))), (0, .ref (ad 63)), (1, .int what), (3, .int (nI k))]) jx jb dX9_count_101 rfl hl (by decide) rfl (fun ls hl => ?_)
              refine lv_iinc (v := nI (k + 1)) (lv' := [(3, .int (nI (k + 1))), (2, .int (nI (cntB (fun i => (y i).2.2.2.1) (k + 1)))), (0, .ref (ad 63)), (1, .int what)]) jx jb dX9_count_102 hl (k := 3) rfl (show nI k + 1 = nI (k + 1) from nI_1 _) (by decide) rfl (fun ls hl => ?_)
              refine lv_goto (tgt := 77) jx jb dX9_count_105 (by decide) ?_
              exact ih77 (k + 1)  _ _ _ (by omega)  (by omega) hW (lv_sub hl [2, 3, 1, 0] rfl)
      exact loop77 _ 0  _ _ _ (by omega)  (Nat.lt_succ_self _) hW (lv_sub hl [2, 3, 1, 0] rfl)
    · refine lv_tableIn (tgt := 110) (off := 107) jx jb dX9_count_3 (by rw [eS]; decide) (by rw [eS]; decide) (by rw [eS]; rfl) (by decide) ?_
      refine lv_iconst (v := 0) jx jb dX9_count_110 (by decide) ?_
      refine lv_istore_n (lv' := [(3, .int 0), (2, .int 0), (0, .ref (ad 63)), (1, .int what)]) jx jb dX9_count_111 rfl hl (by decide) rfl (fun ls hl => ?_)
      have loop112 : ∀ (fuel112 : Nat) (k : Nat) (H : Heap) (locs : List Loc) (ls : Array Slot), (k ≤ T) → T - k < fuel112 → Wd G A js.heap (N, ad, g) H locs → lv_has ls 4 [(0, .ref (ad 63)), (1, .int what), (2, .int (nI (cntB (fun i => (y i).2.2.2.2) k))), (3, .int (nI k))] → W jp l je (rmN 2) js jm [.ref (ad 63), .int what].toArray below meth jc H locs 0 0 Q (F0 jm 112 ls []) := by
        intro fuel112
        induction fuel112 with
        | zero => intro k H locs ls hk  hm112; exact absurd hm112 (Nat.not_lt_zero _)
        | succ fuel112 ih112 =>
          intro k H locs ls hk  hm112 hW hl
          refine lv_iload_n jx jb dX9_count_112 rfl (lv_at hl 3 rfl) ?_
          refine lv_aload_n jx jb dX9_count_113 rfl (lv_at hl 0 rfl) ?_
          have m7 : g 63 = .inr (9, [.ref (ad 64), .ref (ad 65), .ref (ad 66), .ref (ad 67), .int (nI lg.length), .ref (ad 68), .ref (ad 69), .ref (ad 70), .ref (ad 71), .ref (ad 72), .int (nI T), .ref (ad 73), .ref (ad 74), .ref (ad 75), .ref (ad 76), .ref (ad 77), .ref (ad 78), .ref (ad 79), .ref (ad 80), .int to, .ref (ad 81), .ref (ad 82)]) := hR.2.1
          refine w_get X hW K9 (by omega) m7 10 (by decide) fl_X9_83 rfl dX9_count_114 ?_
          refine lv_icmp_ge (tgt := 143) jx jb dX9_count_117 (by decide) (fun c117 => ?_) (fun c117 => ?_)
          · refine lv_iload_n jx jb dX9_count_143 rfl (lv_at hl 2 rfl) ?_
            exact ret _ _ _ _ _ _ dX9_count_144 hW ⟨(by unfold cntX; rw [eS]; have := n_le (by omega) (by omega) c117; rw [show k = T by omega]; rfl), hMA, fun k hk => rfl⟩
          · have hlt : k < T := n_nle (by omega) (by omega) c117
            refine lv_iload_n jx jb dX9_count_120 rfl (lv_at hl 2 rfl) ?_
            refine lv_aload_n jx jb dX9_count_121 rfl (lv_at hl 0 rfl) ?_
            refine w_get X hW K9 (by omega) m7 17 (by decide) fl_X9_56 rfl dX9_count_122 ?_
            refine lv_iload_n jx jb dX9_count_125 rfl (lv_at hl 3 rfl) ?_
            have m8 : g 79 = .inl (cy 1, 12, .inl (q 79)) := hR.2.2 79 (by decide) (by decide)
            refine w_zld X hW (by omega) m8 k rfl (by omega) (by decide) dX9_count_126 ?_
            refine top_eq (y := bI ((y k).2.2.2.2 = true)) ((hQT k hlt).2.2.2.2.2.1) ?_
            refine lv_if_eq (tgt := 134) jx jb dX9_count_127 (by decide) (fun c127 => ?_) (fun c127 => ?_)
            · refine lv_iconst (v := 0) jx jb dX9_count_134 (by decide) ?_
              refine lv_iadd jx jb dX9_count_135 ?_
              refine top_eq (y := nI (cntB (fun i => (y i).2.2.2.2) (k + 1))) (by rw [show cntB (fun i => (y i).2.2.2.2) (k + 1) = cntB (fun i => (y i).2.2.2.2) k + (if (y k).2.2.2.2 = true then 1 else 0) from rfl, if_neg (bI_0.mp c127), ← nI_add]; rfl) ?_
              refine lv_istore_n (lv' := [(2, .int (nI (cntB (fun i => (y i).2.2.2.2) (k + 1)))), (0, .ref (ad 63)), (1, .int what), (3, .int (nI k))]) jx jb dX9_count_136 rfl hl (by decide) rfl (fun ls hl => ?_)
              refine lv_iinc (v := nI (k + 1)) (lv' := [(3, .int (nI (k + 1))), (2, .int (nI (cntB (fun i => (y i).2.2.2.2) (k + 1)))), (0, .ref (ad 63)), (1, .int what)]) jx jb dX9_count_137 hl (k := 3) rfl (show nI k + 1 = nI (k + 1) from nI_1 _) (by decide) rfl (fun ls hl => ?_)
              refine lv_goto (tgt := 112) jx jb dX9_count_140 (by decide) ?_
              exact ih112 (k + 1)  _ _ _ (by omega)  (by omega) hW (lv_sub hl [2, 3, 1, 0] rfl)
            · refine lv_iconst (v := 1) jx jb dX9_count_130 (by decide) ?_
              refine lv_goto (tgt := 135) jx jb dX9_count_131 (by decide) ?_
              refine lv_iadd jx jb dX9_count_135 ?_
              refine top_eq (y := nI (cntB (fun i => (y i).2.2.2.2) (k + 1))) (by rw [show cntB (fun i => (y i).2.2.2.2) (k + 1) = cntB (fun i => (y i).2.2.2.2) k + (if (y k).2.2.2.2 = true then 1 else 0) from rfl, if_pos (bI_n0.mp c127), ← nI_add]; rfl) ?_
              refine lv_istore_n (lv' := [(2, .int (nI (cntB (fun i => (y i).2.2.2.2) (k + 1)))), (0, .ref (ad 63)), (1, .int what), (3, .int (nI k))]) jx jb dX9_count_136 rfl hl (by decide) rfl (fun ls hl => ?_)
              refine lv_iinc (v := nI (k + 1)) (lv' := [(3, .int (nI (k + 1))), (2, .int (nI (cntB (fun i => (y i).2.2.2.2) (k + 1)))), (0, .ref (ad 63)), (1, .int what)]) jx jb dX9_count_137 hl (k := 3) rfl (show nI k + 1 = nI (k + 1) from nI_1 _) (by decide) rfl (fun ls hl => ?_)
              refine lv_goto (tgt := 112) jx jb dX9_count_140 (by decide) ?_
              exact ih112 (k + 1)  _ _ _ (by omega)  (by omega) hW (lv_sub hl [2, 3, 1, 0] rfl)
      exact loop112 _ 0  _ _ _ (by omega)  (Nat.lt_succ_self _) hW (lv_sub hl [2, 3, 1, 0] rfl)
    · refine lv_tableIn (tgt := 145) (off := 142) jx jb dX9_count_3 (by rw [eS]; decide) (by rw [eS]; decide) (by rw [eS]; rfl) (by decide) ?_
      refine lv_aload_n jx jb dX9_count_145 rfl (lv_at hl 1 rfl) ?_
      have m10 : g 63 = .inr (9, [.ref (ad 64), .ref (ad 65), .ref (ad 66), .ref (ad 67), .int (nI lg.length), .ref (ad 68), .ref (ad 69), .ref (ad 70), .ref (ad 71), .ref (ad 72), .int (nI T), .ref (ad 73), .ref (ad 74), .ref (ad 75), .ref (ad 76), .ref (ad 77), .ref (ad 78), .ref (ad 79), .ref (ad 80), .int to, .ref (ad 81), .ref (ad 82)]) := hR.2.1
      refine w_nVv (As := []) X hW (c_begins hR) (by omega) m10 rfl rfl ml_X9_103 mf_X9_begins ⟨Nat.le_of_ble_eq_true rfl, Nat.le_of_ble_eq_true rfl⟩ hl.1 rfl (Nat.le_of_ble_eq_true rfl) ⟨Nat.le_of_ble_eq_true rfl, Nat.le_of_ble_eq_true rfl⟩ dX9_count_146 (fun gBb9 H locs hp hW => ?_)
      obtain ⟨qBb9, hRBb9, hNBb9, hsBb9, frBb9⟩ := hp
      refine lv_iconst (v := 0) jx jb dX9_count_149 (by decide) ?_
      refine lv_istore_n (lv' := [(3, .int 0), (2, .int 0), (0, .ref (ad 63)), (1, .int what)]) jx jb dX9_count_150 rfl hl (by decide) rfl (fun ls hl => ?_)
      have loop151 : ∀ (fuel151 : Nat) (k : Nat) (tv : Int32) (qL151 : Nat → Nat → Int32) (gL151 : Nat → va_E) (H : Heap) (locs : List Loc) (ls : Array Slot), (MRaw cy N ad gL151 qL151 (nI lg.length) (nI T) tv) → (∀ k, ¬ (63 ≤ k ∧ k < 83) → gL151 k = g k) → (k ≤ lg.length) → (∀ a, a ≠ 80 → qL151 a = q a) → (QN qL151 (stq M (gl lg) 0 k)) → lg.length - k < fuel151 → Wd G A js.heap (N, ad, gL151) H locs → lv_has ls 4 [(0, .ref (ad 63)), (1, .int what), (2, .int (nI (dfq (rsq M (gl lg) 0) lr k))), (3, .int (nI k))] → W jp l je (rmN 2) js jm [.ref (ad 63), .int what].toArray below meth jc H locs 0 0 Q (F0 jm 151 ls []) := by
        intro fuel151
        induction fuel151 with
        | zero => intro k tv qL151 gL151 H locs ls hR151 hfr151 hk hsm hN  hm151; exact absurd hm151 (Nat.not_lt_zero _)
        | succ fuel151 ih151 =>
          intro k tv qL151 gL151 H locs ls hR151 hfr151 hk hsm hN  hm151 hW hl
          refine lv_iload_n jx jb dX9_count_151 rfl (lv_at hl 3 rfl) ?_
          refine lv_aload_n jx jb dX9_count_152 rfl (lv_at hl 0 rfl) ?_
          have m11 : gL151 63 = .inr (9, [.ref (ad 64), .ref (ad 65), .ref (ad 66), .ref (ad 67), .int (nI lg.length), .ref (ad 68), .ref (ad 69), .ref (ad 70), .ref (ad 71), .ref (ad 72), .int (nI T), .ref (ad 73), .ref (ad 74), .ref (ad 75), .ref (ad 76), .ref (ad 77), .ref (ad 78), .ref (ad 79), .ref (ad 80), .int tv, .ref (ad 81), .ref (ad 82)]) := hR151.2.1
          refine w_get X hW K9 (by omega) m11 4 (by decide) fl_X9_96 rfl dX9_count_153 ?_
          refine lv_icmp_ge (tgt := 198) jx jb dX9_count_156 (by decide) (fun c156 => ?_) (fun c156 => ?_)
          · refine lv_iload_n jx jb dX9_count_198 rfl (lv_at hl 2 rfl) ?_
            exact ret _ _ _ _ _ _ dX9_count_199 hW ⟨(by unfold cntX; rw [eS]; have := n_le (by omega) (by omega) c156; rw [show k = lg.length by omega]; rfl), MAt.run hR151 hok hQ hL hst hS4 hT12 hQT hsm, (fun k hk => by show gL151 k = _; rw [hfr151 k hk])⟩
          · have hlt : k < lg.length := n_nle (by omega) (by omega) c156
            have h96 := hL.2.1 _ (gl_mem hlt)
            refine lv_iload_n jx jb dX9_count_159 rfl (lv_at hl 2 rfl) ?_
            refine lv_aload_n jx jb dX9_count_160 rfl (lv_at hl 0 rfl) ?_
            refine lv_aload_n jx jb dX9_count_161 rfl (lv_at hl 0 rfl) ?_
            refine w_get X hW K9 (by omega) m11 5 (by decide) fl_X9_22 rfl dX9_count_162 ?_
            refine lv_iload_n jx jb dX9_count_165 rfl (lv_at hl 3 rfl) ?_
            have m12 : gL151 68 = .inl (cy 0, 200, .inl (qL151 68)) := hR151.2.2 68 (by decide) (by decide)
            refine w_ild X hW (by omega) m12 k rfl (by omega) (by decide) dX9_count_166 ?_
            refine top_eq (y := nI (gl lg k / 16)) (by rw [hsm 68 (by decide)]; exact (hL.2.2 k hlt).1) ?_
            refine lv_aload_n jx jb dX9_count_167 rfl (lv_at hl 0 rfl) ?_
            refine w_get X hW K9 (by omega) m11 6 (by decide) fl_X9_25 rfl dX9_count_168 ?_
            refine lv_iload_n jx jb dX9_count_171 rfl (lv_at hl 3 rfl) ?_
            have m13 : gL151 69 = .inl (cy 0, 200, .inl (qL151 69)) := hR151.2.2 69 (by decide) (by decide)
            refine w_ild X hW (by omega) m13 k rfl (by omega) (by decide) dX9_count_172 ?_
            refine top_eq (y := nI (gl lg k % 16)) (by rw [hsm 69 (by decide)]; exact (hL.2.2 k hlt).2.1) ?_
            refine w_nV (As := [.int (nI (gl lg k / 16)), .int (nI (gl lg k % 16))]) X hW (c_goes hR151 hok (hQ.of (fun a h1 h2 => hsm a (by omega))) hN (by omega) (Nat.mod_lt _ (by decide))) (by omega) m11 rfl rfl ml_X9_99 mf_X9_goes ⟨Nat.le_of_ble_eq_true rfl, Nat.le_of_ble_eq_true rfl⟩ hl.1 rfl (Nat.le_of_ble_eq_true rfl) ⟨Nat.le_of_ble_eq_true rfl, Nat.le_of_ble_eq_true rfl⟩ dX9_count_173 (fun rx14 gGx14 H locs hp hW => ?_)
            obtain ⟨erx14, qGx14, hRGx14, hNGx14, hsGx14, frGx14⟩ := hp
            refine top_eq (y := rsq M (gl lg) 0 k) (erx14) ?_
            refine lv_aload_n jx jb dX9_count_176 rfl (lv_at hl 0 rfl) ?_
            have m15 : gGx14 63 = .inr (9, [.ref (ad 64), .ref (ad 65), .ref (ad 66), .ref (ad 67), .int (nI lg.length), .ref (ad 68), .ref (ad 69), .ref (ad 70), .ref (ad 71), .ref (ad 72), .int (nI T), .ref (ad 73), .ref (ad 74), .ref (ad 75), .ref (ad 76), .ref (ad 77), .ref (ad 78), .ref (ad 79), .ref (ad 80), .int (tI (tk M (gl lg k / 16) (stq M (gl lg) 0 k))), .ref (ad 81), .ref (ad 82)]) := hRGx14.2.1
            refine w_get X hW K9 (by omega) m15 7 (by decide) fl_X9_28 rfl dX9_count_177 ?_
            refine lv_iload_n jx jb dX9_count_180 rfl (lv_at hl 3 rfl) ?_
            have m16 : gGx14 70 = .inl (cy 0, 200, .inl (qGx14 70)) := hRGx14.2.2 70 (by decide) (by decide)
            refine w_ild X hW (by omega) m16 k rfl (by omega) (by decide) dX9_count_181 ?_
            refine top_eq (y := lr k) (by rw [hsGx14 70 (by decide), hsm 70 (by decide)]; exact (hL.2.2 k hlt).2.2.1) ?_
            refine lv_icmp_eq (tgt := 189) jx jb dX9_count_182 (by decide) (fun c182 => ?_) (fun c182 => ?_)
            · refine lv_iconst (v := 0) jx jb dX9_count_189 (by decide) ?_
              refine lv_iadd jx jb dX9_count_190 ?_
              refine top_eq (y := nI (dfq (rsq M (gl lg) 0) lr (k + 1))) (by rw [show dfq (rsq M (gl lg) 0) lr (k + 1) = dfq (rsq M (gl lg) 0) lr k + (if rsq M (gl lg) 0 k = lr k then 0 else 1) from rfl, if_pos c182, ← nI_add]; rfl) ?_
              refine lv_istore_n (lv' := [(2, .int (nI (dfq (rsq M (gl lg) 0) lr (k + 1)))), (0, .ref (ad 63)), (1, .int what), (3, .int (nI k))]) jx jb dX9_count_191 rfl hl (by decide) rfl (fun ls hl => ?_)
              refine lv_iinc (v := nI (k + 1)) (lv' := [(3, .int (nI (k + 1))), (2, .int (nI (dfq (rsq M (gl lg) 0) lr (k + 1)))), (0, .ref (ad 63)), (1, .int what)]) jx jb dX9_count_192 hl (k := 3) rfl (show nI k + 1 = nI (k + 1) from nI_1 _) (by decide) rfl (fun ls hl => ?_)
              refine lv_goto (tgt := 151) jx jb dX9_count_195 (by decide) ?_
              exact ih151 (k + 1) _ qGx14 gGx14 _ _ _ hRGx14 (fun k hk => by show gGx14 k = _; rw [frGx14 k hk, hfr151 k hk]) (by omega) (fun a ha => (hsGx14 a ha).trans (hsm a ha)) hNGx14  (by omega) hW (lv_sub hl [2, 3, 1, 0] rfl)
            · refine lv_iconst (v := 1) jx jb dX9_count_185 (by decide) ?_
              refine lv_goto (tgt := 190) jx jb dX9_count_186 (by decide) ?_
              refine lv_iadd jx jb dX9_count_190 ?_
              refine top_eq (y := nI (dfq (rsq M (gl lg) 0) lr (k + 1))) (by rw [show dfq (rsq M (gl lg) 0) lr (k + 1) = dfq (rsq M (gl lg) 0) lr k + (if rsq M (gl lg) 0 k = lr k then 0 else 1) from rfl, if_neg c182, ← nI_add]; rfl) ?_
              refine lv_istore_n (lv' := [(2, .int (nI (dfq (rsq M (gl lg) 0) lr (k + 1)))), (0, .ref (ad 63)), (1, .int what), (3, .int (nI k))]) jx jb dX9_count_191 rfl hl (by decide) rfl (fun ls hl => ?_)
              refine lv_iinc (v := nI (k + 1)) (lv' := [(3, .int (nI (k + 1))), (2, .int (nI (dfq (rsq M (gl lg) 0) lr (k + 1)))), (0, .ref (ad 63)), (1, .int what)]) jx jb dX9_count_192 hl (k := 3) rfl (show nI k + 1 = nI (k + 1) from nI_1 _) (by decide) rfl (fun ls hl => ?_)
              refine lv_goto (tgt := 151) jx jb dX9_count_195 (by decide) ?_
              exact ih151 (k + 1) _ qGx14 gGx14 _ _ _ hRGx14 (fun k hk => by show gGx14 k = _; rw [frGx14 k hk, hfr151 k hk]) (by omega) (fun a ha => (hsGx14 a ha).trans (hsm a ha)) hNGx14  (by omega) hW (lv_sub hl [2, 3, 1, 0] rfl)
      exact loop151 _ 0 _ qBb9 gBb9 _ _ _ hRBb9 (fun k hk => by show gBb9 k = _; rw [frBb9 k hk]) (by omega) hsBb9 hNBb9  (Nat.lt_succ_self _) hW (lv_sub hl [2, 3, 1, 0] rfl)
  · refine lv_tableOut (tgt := 200) jx jb dX9_count_3 eS (by decide) ?_
    refine lv_iconst (v := -1) jx jb dX9_count_200 (by decide) ?_
    exact ret _ _ _ _ _ _ dX9_count_201 hW ⟨by unfold cntX; rw [if_neg (show ¬ what = 0 from sw_out (k := 0) (by decide) eS (by decide)), if_neg (show ¬ what = 1 from sw_out (k := 1) (by decide) eS (by decide)), if_neg (show ¬ what = 2 from sw_out (k := 2) (by decide) eS (by decide)), if_neg (show ¬ what = 3 from sw_out (k := 3) (by decide) eS (by decide)), if_neg (show ¬ what = 4 from sw_out (k := 4) (by decide) eS (by decide)), if_neg (show ¬ what = 5 from sw_out (k := 5) (by decide) eS (by decide))], hMA, fun k hk => rfl⟩
