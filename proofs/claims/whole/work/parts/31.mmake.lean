theorem filL_len {o : Nat → Bool} {lg : List Nat} : ∀ {k : Nat}, (filL o lg k).length ≤ k
  | 0 => Nat.le_refl _
  | k + 1 => by
    have := filL_len (o := o) (lg := lg) (k := k)
    unfold filL
    split
    · omega
    · rw [List.length_append]; simp; omega
theorem filL_96 {o : Nat → Bool} {lg : List Nat} (h : ∀ x, x ∈ lg → x < 96) : ∀ {k : Nat}, k ≤ lg.length → ∀ x, x ∈ filL o lg k → x < 96
  | 0, _, x, hx => absurd hx (by simp [filL])
  | k + 1, hk, x, hx => by
    unfold filL at hx
    split at hx
    · exact filL_96 h (by omega) x hx
    · rcases List.mem_append.mp hx with z | z
      · exact filL_96 h (by omega) x z
      · rw [List.mem_singleton.mp z]; exact h _ (gl_mem (by omega))
theorem QT.old {q q1 : Nat → Nat → Int32} {i T : Nat} {t : TT} (h : QT q i t) (hi : i < T) (h73 : q1 73 i = q 73 i) (h74 : ∀ m, m < 200 * T → q1 74 m = q 74 m ∧ q1 75 m = q 75 m) (h76 : ∀ m, m < 200 * T → q1 76 m = q 76 m) (h77 : q1 77 i = q 77 i) (h78 : q1 78 i = q 78 i) (h79 : q1 79 i = q 79 i) : QT q1 i t := by
  obtain ⟨⟨a1, a2, a3⟩, b, c, d, e, f, m⟩ := h
  refine ⟨⟨a1, a2, fun k hk => ?_⟩, h73.trans b, fun k hk => ?_, h77.trans d, h78.trans e, h79.trans f, m⟩
  · rw [(h74 _ (by omega)).1, (h74 _ (by omega)).2]; exact a3 k hk
  · rw [h76 _ (by omega)]; exact c k hk

set_option maxHeartbeats 4000000 in
set_option maxRecDepth 100000 in
theorem c_mMakeNo {l : Launch} {G : va_G} {cy : Nat → ClassId} {N : Nat} {ad : Nat → Nat} {g : Nat → va_E} {M : M4} {lg : List Nat} {lr lt : Nat → Int32} {st T : Nat} {y : Nat → TT} {v : Int32} (hMA : MAt cy N ad g M lg lr lt st T y) (hno : ¬ (T < 12 ∧ 0 ≤ v ∧ v < nI lg.length)) : RI l G cy (N, ad, g) yX9_make cX9_make 4 (some .int) (rmN 4) [.ref (ad 63), .int v] (-1) := by
  refine RI.mk (by decide) (by first | rfl | exact bI_nar) (Nat.le_of_ble_eq_true rfl) ?_
  intro jp je js jm below meth jc A Q X hW ret ls hl
  have jx := X.hx
  have jb := X.hb
  have hl : lv_has ls 4 [(0, .ref (ad 63)), (1, .int v)] := hl
  have X : Cx G cy jp js jm _ jc cX9_make 4 RX9 A js.heap := X
  obtain ⟨q, to, hR, hok, hQ, hL, hst, hS4, hT12, hQT⟩ := id hMA
  have h83 : 83 ≤ N := hR.1
  have hl200 := hL.1
  refine lv_iload_n jx jb dX9_make_0 rfl (lv_at hl 1 rfl) ?_
  refine lv_iconst (v := 0) jx jb dX9_make_1 (by decide) ?_
  refine lv_aload_n jx jb dX9_make_2 rfl (lv_at hl 0 rfl) ?_
  have m1 : g 63 = .inr (9, [.ref (ad 64), .ref (ad 65), .ref (ad 66), .ref (ad 67), .int (nI lg.length), .ref (ad 68), .ref (ad 69), .ref (ad 70), .ref (ad 71), .ref (ad 72), .int (nI T), .ref (ad 73), .ref (ad 74), .ref (ad 75), .ref (ad 76), .ref (ad 77), .ref (ad 78), .ref (ad 79), .ref (ad 80), .int to, .ref (ad 81), .ref (ad 82)]) := hR.2.1
  refine w_get X hW K9 (by omega) m1 4 (by decide) fl_X9_96 rfl dX9_make_3 ?_
  refine lv_iconst (v := 1) jx jb dX9_make_6 (by decide) ?_
  refine lv_isub jx jb dX9_make_7 ?_
  refine w_rS (As := [.int v, .int 0, .int ((nI lg.length) - 1)]) X hW (c_in) ml_X9_68 mf_X9_in ⟨Nat.le_of_ble_eq_true rfl, Nat.le_of_ble_eq_true rfl⟩ hl.1 rfl (Nat.le_of_ble_eq_true rfl) ⟨Nat.le_of_ble_eq_true rfl, Nat.le_of_ble_eq_true rfl⟩ dX9_make_8 (fun H locs hW => ?_)
  refine top_eq (y := bI (0 ≤ v ∧ v < nI lg.length)) (bI_iff (in_below (by omega))) ?_
  refine lv_if_eq (tgt := 23) jx jb dX9_make_11 (by decide) (fun c11 => ?_) (fun c11 => ?_)
  · refine lv_iconst (v := -1) jx jb dX9_make_23 (by decide) ?_
    exact ret _ _ _ _ _ dX9_make_24 hW rfl
  · refine lv_aload_n jx jb dX9_make_14 rfl (lv_at hl 0 rfl) ?_
    refine w_get X hW K9 (by omega) m1 10 (by decide) fl_X9_83 rfl dX9_make_15 ?_
    refine lv_bipush (v := 12) jx jb dX9_make_18 (by decide) ?_
    refine lv_icmp_ne (tgt := 25) jx jb dX9_make_20 (by decide) (fun c20 => ?_) (fun c20 => ?_)
    · exact absurd ⟨by have := n_ne (b := 12) (by omega) (by decide) c20; omega, (bI_n0.mp c11)⟩ hno
    · refine lv_iconst (v := -1) jx jb dX9_make_23 (by decide) ?_
      exact ret _ _ _ _ _ dX9_make_24 hW rfl

set_option maxHeartbeats 4000000 in
set_option maxRecDepth 100000 in
theorem c_mMake {l : Launch} {G : va_G} {cy : Nat → ClassId} {N : Nat} {ad : Nat → Nat} {g : Nat → va_E} {M : M4} {lg : List Nat} {lr lt : Nat → Int32} {st T : Nat} {y : Nat → TT} {j : Nat} (hMA : MAt cy N ad g M lg lr lt st T y) (hTT : T < 12) (hj : j < lg.length) : MI l G cy (N, ad, g) yX9_make cX9_make 4 (some .int) (rmN 4) [.ref (ad 63), .int (nI j)] (nA N ad (fun v g1 => if likeK y (mkRow M lg j) T = true then v = -1 ∧ MAt cy N ad g1 M lg lr lt st T y ∧ ∀ k, ¬ (63 ≤ k ∧ k < 83) → g1 k = g k else v = nI T ∧ MAt cy N ad g1 M lg lr lt st (T + 1) (va_up y T (nwT M (mkRow M lg j))) ∧ ∀ k, ¬ (63 ≤ k ∧ k < 83) → g1 k = g k)) := by
  refine NI.mk (by decide) (by intro v g1 _; rfl) (Nat.le_of_ble_eq_true rfl) ?_
  intro jp je js jm below meth jc A Q X hW ret ls hl
  have jx := X.hx
  have jb := X.hb
  have hl : lv_has ls 4 [(0, .ref (ad 63)), (1, .int (nI j))] := hl
  have X : Cx G cy jp js jm _ jc cX9_make 4 RX9 A js.heap := X
  obtain ⟨q, to, hR, hok, hQ, hL, hst, hS4, hT12, hQT⟩ := id hMA
  have h83 : 83 ≤ N := hR.1
  have hl200 := hL.1
  refine lv_iload_n jx jb dX9_make_0 rfl (lv_at hl 1 rfl) ?_
  refine lv_iconst (v := 0) jx jb dX9_make_1 (by decide) ?_
  refine lv_aload_n jx jb dX9_make_2 rfl (lv_at hl 0 rfl) ?_
  have m1 : g 63 = .inr (9, [.ref (ad 64), .ref (ad 65), .ref (ad 66), .ref (ad 67), .int (nI lg.length), .ref (ad 68), .ref (ad 69), .ref (ad 70), .ref (ad 71), .ref (ad 72), .int (nI T), .ref (ad 73), .ref (ad 74), .ref (ad 75), .ref (ad 76), .ref (ad 77), .ref (ad 78), .ref (ad 79), .ref (ad 80), .int to, .ref (ad 81), .ref (ad 82)]) := hR.2.1
  refine w_get X hW K9 (by omega) m1 4 (by decide) fl_X9_96 rfl dX9_make_3 ?_
  refine lv_iconst (v := 1) jx jb dX9_make_6 (by decide) ?_
  refine lv_isub jx jb dX9_make_7 ?_
  refine w_rS (As := [.int (nI j), .int 0, .int ((nI lg.length) - 1)]) X hW (c_in) ml_X9_68 mf_X9_in ⟨Nat.le_of_ble_eq_true rfl, Nat.le_of_ble_eq_true rfl⟩ hl.1 rfl (Nat.le_of_ble_eq_true rfl) ⟨Nat.le_of_ble_eq_true rfl, Nat.le_of_ble_eq_true rfl⟩ dX9_make_8 (fun H locs hW => ?_)
  refine top_eq (y := bI (0 ≤ nI j ∧ nI j < nI lg.length)) (bI_iff (in_below (by omega))) ?_
  refine lv_if_eq (tgt := 23) jx jb dX9_make_11 (by decide) (fun c11 => ?_) (fun c11 => ?_)
  · exact absurd (c11.symm.trans (bel_t hj (by omega))) (by decide)
  · refine lv_aload_n jx jb dX9_make_14 rfl (lv_at hl 0 rfl) ?_
    refine w_get X hW K9 (by omega) m1 10 (by decide) fl_X9_83 rfl dX9_make_15 ?_
    refine lv_bipush (v := 12) jx jb dX9_make_18 (by decide) ?_
    refine lv_icmp_ne (tgt := 25) jx jb dX9_make_20 (by decide) (fun c20 => ?_) (fun c20 => ?_)
    · refine lv_aload_n jx jb dX9_make_25 rfl (lv_at hl 0 rfl) ?_
      refine lv_iload_n jx jb dX9_make_26 rfl (lv_at hl 1 rfl) ?_
      refine w_nVv (As := [.int (nI j)]) X hW (c_shrinks hR hok hQ hL hj) (by omega) m1 rfl rfl ml_X9_110 mf_X9_shrinks ⟨Nat.le_of_ble_eq_true rfl, Nat.le_of_ble_eq_true rfl⟩ hl.1 rfl (Nat.le_of_ble_eq_true rfl) ⟨Nat.le_of_ble_eq_true rfl, Nat.le_of_ble_eq_true rfl⟩ dX9_make_27 (fun gS H locs hp hW => ?_)
      obtain ⟨o, qS, tS, hRS, hflS, hojS, hfil, hsS, frS⟩ := hp
      refine lv_iconst (v := 0) jx jb dX9_make_30 (by decide) ?_
      refine lv_istore_n (lv' := [(2, .int 0), (0, .ref (ad 63)), (1, .int (nI j))]) jx jb dX9_make_31 rfl hl (by decide) rfl (fun ls hl => ?_)
      refine lv_iconst (v := 0) jx jb dX9_make_32 (by decide) ?_
      refine lv_istore_n (lv' := [(3, .int 0), (2, .int 0), (0, .ref (ad 63)), (1, .int (nI j))]) jx jb dX9_make_33 rfl hl (by decide) rfl (fun ls hl => ?_)
      have loop34 : ∀ (fuel34 : Nat) (k : Nat) (qL34 : Nat → Nat → Int32) (gL34 : Nat → va_E) (H : Heap) (locs : List Loc) (ls : Array Slot), (MRaw cy N ad gL34 qL34 (nI lg.length) (nI T) tS) → (∀ k, ¬ (63 ≤ k ∧ k < 83) → gL34 k = g k) → (k ≤ j + 1) → (∀ a, a ≠ 74 → a ≠ 75 → qL34 a = qS a) → (∀ m, m < (filL o lg k).length → qL34 74 (200 * T + m) = nI (gl (filL o lg k) m / 16) ∧ qL34 75 (200 * T + m) = nI (gl (filL o lg k) m % 16)) → (∀ m, m < 200 * T → qL34 74 m = qS 74 m ∧ qL34 75 m = qS 75 m) → j + 1 - k < fuel34 → Wd G A js.heap (N, ad, gL34) H locs → lv_has ls 4 [(0, .ref (ad 63)), (1, .int (nI j)), (2, .int (nI (filL o lg k).length)), (3, .int (nI k))] → W jp l je (rmN 4) js jm [.ref (ad 63), .int (nI j)].toArray below meth jc H locs 0 0 Q (F0 jm 34 ls []) := by
        intro fuel34
        induction fuel34 with
        | zero => intro k qL34 gL34 H locs ls hR34 hfr34 hk hsm hrow hold  hm34; exact absurd hm34 (Nat.not_lt_zero _)
        | succ fuel34 ih34 =>
          intro k qL34 gL34 H locs ls hR34 hfr34 hk hsm hrow hold  hm34 hW hl
          refine lv_iload_n jx jb dX9_make_34 rfl (lv_at hl 3 rfl) ?_
          refine lv_iload_n jx jb dX9_make_35 rfl (lv_at hl 1 rfl) ?_
          refine lv_icmp_gt (tgt := 102) jx jb dX9_make_36 (by decide) (fun c36 => ?_) (fun c36 => ?_)
          · have hk1 : k = j + 1 := by have := n_lt (by omega) (by omega) c36; omega
            have hfl := filL_len (o := o) (lg := lg) (k := j + 1)
            have h96 := filL_96 (o := o) hL.2.1 (k := j + 1) (by omega)
            subst hk1
            rw [hfil] at hrow hfl h96
            have hQR : QR qL34 T (mkRow M lg j) := ⟨by omega, h96, hrow⟩
            have hl : lv_has ls 4 [(0, .ref (ad 63)), (1, .int (nI j)), (2, .int (nI (mkRow M lg j).length)), (3, .int (nI (j + 1)))] := by rw [show nI (mkRow M lg j).length = nI (filL o lg (j + 1)).length from by rw [hfil]]; exact hl
            refine lv_iconst (v := 0) jx jb dX9_make_102 (by decide) ?_
            refine lv_istore_n (lv' := [(3, .int 0), (0, .ref (ad 63)), (1, .int (nI j)), (2, .int (nI (mkRow M lg j).length))]) jx jb dX9_make_103 rfl hl (by decide) rfl (fun ls hl => ?_)
            have loop104 : ∀ (fuel104 : Nat) (t : Nat) (H : Heap) (locs : List Loc) (ls : Array Slot), (t ≤ T) → (likeK y (mkRow M lg j) t = false) → T - t < fuel104 → Wd G A js.heap (N, ad, gL34) H locs → lv_has ls 4 [(0, .ref (ad 63)), (1, .int (nI j)), (2, .int (nI (mkRow M lg j).length)), (3, .int (nI t))] → W jp l je (rmN 4) js jm [.ref (ad 63), .int (nI j)].toArray below meth jc H locs 0 0 Q (F0 jm 104 ls []) := by
              intro fuel104
              induction fuel104 with
              | zero => intro t H locs ls ht hlk  hm104; exact absurd hm104 (Nat.not_lt_zero _)
              | succ fuel104 ih104 =>
                intro t H locs ls ht hlk  hm104 hW hl
                refine lv_iload_n jx jb dX9_make_104 rfl (lv_at hl 3 rfl) ?_
                refine lv_aload_n jx jb dX9_make_105 rfl (lv_at hl 0 rfl) ?_
                have m2 : gL34 63 = .inr (9, [.ref (ad 64), .ref (ad 65), .ref (ad 66), .ref (ad 67), .int (nI lg.length), .ref (ad 68), .ref (ad 69), .ref (ad 70), .ref (ad 71), .ref (ad 72), .int (nI T), .ref (ad 73), .ref (ad 74), .ref (ad 75), .ref (ad 76), .ref (ad 77), .ref (ad 78), .ref (ad 79), .ref (ad 80), .int tS, .ref (ad 81), .ref (ad 82)]) := hR34.2.1
                refine w_get X hW K9 (by omega) m2 10 (by decide) fl_X9_83 rfl dX9_make_106 ?_
                refine lv_icmp_ge (tgt := 129) jx jb dX9_make_109 (by decide) (fun c109 => ?_) (fun c109 => ?_)
                · have htT : t = T := by have := n_le (by omega) (by omega) c109; omega
                  rw [htT] at hlk
                  refine lv_aload_n jx jb dX9_make_129 rfl (lv_at hl 0 rfl) ?_
                  refine w_get X hW K9 (by omega) m2 11 (by decide) fl_X9_37 rfl dX9_make_130 ?_
                  refine lv_aload_n jx jb dX9_make_133 rfl (lv_at hl 0 rfl) ?_
                  refine w_get X hW K9 (by omega) m2 10 (by decide) fl_X9_83 rfl dX9_make_134 ?_
                  refine lv_iload_n jx jb dX9_make_137 rfl (lv_at hl 2 rfl) ?_
                  have m3 : gL34 73 = .inl (cy 0, 12, .inl (qL34 73)) := hR34.2.2 73 (by decide) (by decide)
                  refine w_ist X hW (by omega) m3 T rfl (by omega) (by decide) dX9_make_138 (fun H locs hW => ?_)
                  obtain ⟨g_4, eg_4⟩ : ∃ zz, zz = va_up gL34 73 (.inl (cy 0, 12, .inl (upd (qL34 73) T (nI (mkRow M lg j).length)))) := ⟨_, rfl⟩
                  have hW : Wd G A js.heap (N, ad, g_4) H locs := by rw [eg_4]; exact hW
                  obtain ⟨q_6, eq_6⟩ : ∃ zz, zz = va_up qL34 73 (upd (qL34 73) T (nI (mkRow M lg j).length)) := ⟨_, rfl⟩
                  have hR5 : MRaw cy N ad g_4 q_6 (nI lg.length) (nI T) tS := by rw [eq_6]; exact hR34.put (by decide) (by decide) (fun k hk => by rw [eg_4, va_up_n hk]) (by rw [eg_4]; exact va_up_s)
                  refine lv_aload_n jx jb dX9_make_139 rfl (lv_at hl 0 rfl) ?_
                  refine lv_dup jx jb dX9_make_140 rfl ?_
                  have m7 : g_4 63 = .inr (9, [.ref (ad 64), .ref (ad 65), .ref (ad 66), .ref (ad 67), .int (nI lg.length), .ref (ad 68), .ref (ad 69), .ref (ad 70), .ref (ad 71), .ref (ad 72), .int (nI T), .ref (ad 73), .ref (ad 74), .ref (ad 75), .ref (ad 76), .ref (ad 77), .ref (ad 78), .ref (ad 79), .ref (ad 80), .int tS, .ref (ad 81), .ref (ad 82)]) := hR5.2.1
                  refine w_get X hW K9 (by omega) m7 10 (by decide) fl_X9_83 rfl dX9_make_141 ?_
                  refine lv_iconst (v := 1) jx jb dX9_make_144 (by decide) ?_
                  refine lv_iadd jx jb dX9_make_145 ?_
                  refine top_eq (y := nI (T + 1)) (nI_1 _) ?_
                  refine w_put X hW K9 (by omega) m7 10 (by decide) fl_X9_83 rfl rfl rfl (Nat.le_of_ble_eq_true rfl) dX9_make_146 (fun H locs hW => ?_)
                  obtain ⟨g_8, eg_8⟩ : ∃ zz, zz = va_up g_4 63 (.inr (9, [.ref (ad 64), .ref (ad 65), .ref (ad 66), .ref (ad 67), .int (nI lg.length), .ref (ad 68), .ref (ad 69), .ref (ad 70), .ref (ad 71), .ref (ad 72), .int (nI (T + 1)), .ref (ad 73), .ref (ad 74), .ref (ad 75), .ref (ad 76), .ref (ad 77), .ref (ad 78), .ref (ad 79), .ref (ad 80), .int tS, .ref (ad 81), .ref (ad 82)])) := ⟨_, rfl⟩
                  have hW : Wd G A js.heap (N, ad, g_8) H locs := by rw [eg_8]; exact hW
                  have hR9 : MRaw cy N ad g_8 q_6 (nI lg.length) (nI (T + 1)) tS := hR5.put63 (fun k hk => by rw [eg_8, va_up_n hk]) (by rw [eg_8]; exact va_up_s)
                  refine lv_aload_n jx jb dX9_make_149 rfl (lv_at hl 0 rfl) ?_
                  refine lv_aload_n jx jb dX9_make_150 rfl (lv_at hl 0 rfl) ?_
                  have m10 : g_8 63 = .inr (9, [.ref (ad 64), .ref (ad 65), .ref (ad 66), .ref (ad 67), .int (nI lg.length), .ref (ad 68), .ref (ad 69), .ref (ad 70), .ref (ad 71), .ref (ad 72), .int (nI (T + 1)), .ref (ad 73), .ref (ad 74), .ref (ad 75), .ref (ad 76), .ref (ad 77), .ref (ad 78), .ref (ad 79), .ref (ad 80), .int tS, .ref (ad 81), .ref (ad 82)]) := hR9.2.1
                  refine w_get X hW K9 (by omega) m10 10 (by decide) fl_X9_83 rfl dX9_make_151 ?_
                  refine lv_iconst (v := 1) jx jb dX9_make_154 (by decide) ?_
                  refine lv_isub jx jb dX9_make_155 ?_
                  refine top_eq (y := nI T) (nI_pred T) ?_
                  refine w_nV (As := [.int (nI T)]) X hW (c_mAccept (T := T + 1) (row := (mkRow M lg j)) hR9 (by omega) hok (hQ.of (fun a h1 h2 => by rw [eq_6, va_up_n (by omega)]; exact (hsm a (by omega) (by omega)).trans (hsS a (by omega) (by omega)))) ⟨hQR.1, hQR.2.1, fun m hm => by rw [eq_6, va_up_n (by decide), va_up_n (by decide)]; exact hQR.2.2 m hm⟩ (by rw [eq_6, va_up_s, pk_us]) (by omega)) (by omega) m10 rfl rfl ml_X9_118 mf_X9_accept ⟨Nat.le_of_ble_eq_true rfl, Nat.le_of_ble_eq_true rfl⟩ hl.1 rfl (Nat.le_of_ble_eq_true rfl) ⟨Nat.le_of_ble_eq_true rfl, Nat.le_of_ble_eq_true rfl⟩ dX9_make_156 (fun rA gA H locs hp hW => ?_)
                  obtain ⟨erA, qA, tA, hRA, a1, a2, a3, a4, a5, a6, a7, a8, a9, frA⟩ := hp
                  refine lv_pop jx jb dX9_make_159 rfl ?_
                  refine lv_aload_n jx jb dX9_make_160 rfl (lv_at hl 0 rfl) ?_
                  have m11 : gA 63 = .inr (9, [.ref (ad 64), .ref (ad 65), .ref (ad 66), .ref (ad 67), .int (nI lg.length), .ref (ad 68), .ref (ad 69), .ref (ad 70), .ref (ad 71), .ref (ad 72), .int (nI (T + 1)), .ref (ad 73), .ref (ad 74), .ref (ad 75), .ref (ad 76), .ref (ad 77), .ref (ad 78), .ref (ad 79), .ref (ad 80), .int tA, .ref (ad 81), .ref (ad 82)]) := hRA.2.1
                  refine w_get X hW K9 (by omega) m11 10 (by decide) fl_X9_83 rfl dX9_make_161 ?_
                  refine lv_iconst (v := 1) jx jb dX9_make_164 (by decide) ?_
                  refine lv_isub jx jb dX9_make_165 ?_
                  exact ret _ _ _ _ _ _ dX9_make_166 hW (by rw [if_neg (by rw [hlk]; decide)]; exact ⟨nI_pred T, ⟨_, _, hRA, hok, hQ.of (fun a h1 h2 => by rw [a1 a (by omega) (by omega) (by omega) (by omega) (by omega), eq_6, va_up_n (by omega)]; exact (hsm a (by omega) (by omega)).trans (hsS a (by omega) (by omega))), hL.of (fun a h1 h2 => by rw [a1 a (by omega) (by omega) (by omega) (by omega) (by omega), eq_6, va_up_n (by omega)]; exact (hsm a (by omega) (by omega)).trans (hsS a (by omega) (by omega))), hst, (fun j hj => by rw [a1 72 (by decide) (by decide) (by decide) (by decide) (by decide)]; rw [eq_6, va_up_n (by decide), hsm 72 (by decide) (by decide), hsS 72 (by decide) (by decide)]; exact hS4 j hj), (by omega), fun i hi => by by_cases ne : i = T; (rw [ne, va_up_s]; exact ⟨⟨hQR.1, hQR.2.1, fun m hm => by rw [a1 74 (by decide) (by decide) (by decide) (by decide) (by decide), a1 75 (by decide) (by decide) (by decide) (by decide) (by decide), eq_6, va_up_n (by decide), va_up_n (by decide)]; exact hQR.2.2 m hm⟩, (by rw [a1 73 (by decide) (by decide) (by decide) (by decide) (by decide), eq_6, va_up_s, pk_us]; rfl), a2, a4, a6, a8, mOK_mt hok hQR.2.1⟩); (have hi2 : i < T := (by omega); rw [va_up_n ne]; exact (hQT i hi2).old hi2 (by rw [a1 73 (by decide) (by decide) (by decide) (by decide) (by decide), eq_6, va_up_s, pk_un ne, hsm 73 (by decide) (by decide), hsS 73 (by decide) (by decide)]) (fun m hm => by rw [a1 74 (by decide) (by decide) (by decide) (by decide) (by decide), a1 75 (by decide) (by decide) (by decide) (by decide) (by decide), eq_6, va_up_n (by decide), va_up_n (by decide), (hold m hm).1, (hold m hm).2, hsS 74 (by decide) (by decide), hsS 75 (by decide) (by decide)]; exact ⟨rfl, rfl⟩) (fun m hm => by rw [a3 m (by omega)]; rw [eq_6, va_up_n (by decide), hsm 76 (by decide) (by decide), hsS 76 (by decide) (by decide)]) (by rw [a5 i ne]; rw [eq_6, va_up_n (by decide), hsm 77 (by decide) (by decide), hsS 77 (by decide) (by decide)]) (by rw [a7 i ne]; rw [eq_6, va_up_n (by decide), hsm 78 (by decide) (by decide), hsS 78 (by decide) (by decide)]) (by rw [a9 i ne]; rw [eq_6, va_up_n (by decide), hsm 79 (by decide) (by decide), hsS 79 (by decide) (by decide)]))⟩, (fun k hk => by show gA k = _; rw [frA k hk, eg_8, va_up_n (by omega), eg_4, va_up_n (by omega), hfr34 k hk])⟩)
                · have hlt : t < T := n_nle (by omega) (by omega) c109
                  have hto : QT qL34 t (y t) := (hQT t hlt).old hlt (by rw [hsm 73 (by decide) (by decide), hsS 73 (by decide) (by decide)]) (fun m hm => by rw [(hold m hm).1, (hold m hm).2, hsS 74 (by decide) (by decide), hsS 75 (by decide) (by decide)]; exact ⟨rfl, rfl⟩) (fun m hm => by rw [hsm 76 (by decide) (by decide), hsS 76 (by decide) (by decide)]) (by rw [hsm 77 (by decide) (by decide), hsS 77 (by decide) (by decide)]) (by rw [hsm 78 (by decide) (by decide), hsS 78 (by decide) (by decide)]) (by rw [hsm 79 (by decide) (by decide), hsS 79 (by decide) (by decide)])
                  refine lv_aload_n jx jb dX9_make_112 rfl (lv_at hl 0 rfl) ?_
                  refine lv_iload_n jx jb dX9_make_113 rfl (lv_at hl 3 rfl) ?_
                  refine lv_iload_n jx jb dX9_make_114 rfl (lv_at hl 2 rfl) ?_
                  refine w_rV (As := [.int (nI t), .int (nI (mkRow M lg j).length)]) X hW (c_isLike hR34 hTT hlt hto.1 hto.2.1 hQR) (by omega) m2 rfl rfl ml_X9_114 mf_X9_isLike ⟨Nat.le_of_ble_eq_true rfl, Nat.le_of_ble_eq_true rfl⟩ hl.1 rfl (Nat.le_of_ble_eq_true rfl) ⟨Nat.le_of_ble_eq_true rfl, Nat.le_of_ble_eq_true rfl⟩ dX9_make_115 (fun H locs hW => ?_)
                  refine lv_if_eq (tgt := 123) jx jb dX9_make_118 (by decide) (fun c118 => ?_) (fun c118 => ?_)
                  · refine lv_iinc (v := nI (t + 1)) (lv' := [(3, .int (nI (t + 1))), (0, .ref (ad 63)), (1, .int (nI j)), (2, .int (nI (mkRow M lg j).length))]) jx jb dX9_make_123 hl (k := 3) rfl (show nI t + 1 = nI (t + 1) from nI_1 _) (by decide) rfl (fun ls hl => ?_)
                    refine lv_goto (tgt := 104) jx jb dX9_make_126 (by decide) ?_
                    exact ih104 (t + 1)  _ _ _ (by omega) (by show (likeK y (mkRow M lg j) t || decide ((y t).1 = (mkRow M lg j))) = false; rw [hlk, decide_eq_false (bI_0.mp c118)]; rfl)  (by omega) hW (lv_sub hl [1, 2, 3, 0] rfl)
                  · refine lv_iconst (v := -1) jx jb dX9_make_121 (by decide) ?_
                    exact ret _ _ _ _ _ _ dX9_make_122 hW (by rw [if_pos (likeK_mono (a := t + 1) (by show (likeK y (mkRow M lg j) t || decide ((y t).1 = (mkRow M lg j))) = true; rw [Bool.or_eq_true, decide_eq_true_eq]; exact Or.inr (bI_n0.mp c118)) (by omega))]; exact ⟨rfl, ⟨_, _, hR34, hok, hQ.of (fun a h1 h2 => (hsm a (by omega) (by omega)).trans (hsS a (by omega) (by omega))), hL.of (fun a h1 h2 => (hsm a (by omega) (by omega)).trans (hsS a (by omega) (by omega))), hst, (fun j hj => by rw [hsm 72 (by decide) (by decide), hsS 72 (by decide) (by decide)]; exact hS4 j hj), hT12, fun i hi => (hQT i hi).old hi (by rw [hsm 73 (by decide) (by decide), hsS 73 (by decide) (by decide)]) (fun m hm => by rw [(hold m hm).1, (hold m hm).2, hsS 74 (by decide) (by decide), hsS 75 (by decide) (by decide)]; exact ⟨rfl, rfl⟩) (fun m hm => by rw [hsm 76 (by decide) (by decide), hsS 76 (by decide) (by decide)]) (by rw [hsm 77 (by decide) (by decide), hsS 77 (by decide) (by decide)]) (by rw [hsm 78 (by decide) (by decide), hsS 78 (by decide) (by decide)]) (by rw [hsm 79 (by decide) (by decide), hsS 79 (by decide) (by decide)])⟩, (fun k hk => by show gL34 k = _; rw [hfr34 k hk])⟩)
            exact loop104 _ 0  _ _ _ (by omega) rfl  (Nat.lt_succ_self _) hW (lv_sub hl [1, 2, 3, 0] rfl)
          · have hkj : k ≤ j := n_nlt (by omega) (by omega) c36
            have hlt : k < lg.length := by omega
            have hfl := filL_len (o := o) (lg := lg) (k := k)
            refine lv_aload_n jx jb dX9_make_39 rfl (lv_at hl 0 rfl) ?_
            have m12 : gL34 63 = .inr (9, [.ref (ad 64), .ref (ad 65), .ref (ad 66), .ref (ad 67), .int (nI lg.length), .ref (ad 68), .ref (ad 69), .ref (ad 70), .ref (ad 71), .ref (ad 72), .int (nI T), .ref (ad 73), .ref (ad 74), .ref (ad 75), .ref (ad 76), .ref (ad 77), .ref (ad 78), .ref (ad 79), .ref (ad 80), .int tS, .ref (ad 81), .ref (ad 82)]) := hR34.2.1
            refine w_get X hW K9 (by omega) m12 20 (by decide) fl_X9_62 rfl dX9_make_40 ?_
            refine lv_iload_n jx jb dX9_make_43 rfl (lv_at hl 3 rfl) ?_
            have m13 : gL34 81 = .inl (cy 1, 200, .inl (qL34 81)) := hR34.2.2 81 (by decide) (by decide)
            refine w_zld X hW (by omega) m13 k rfl (by omega) (by decide) dX9_make_44 ?_
            refine top_eq (y := bI (o k = true)) (by rw [hsm 81 (by decide) (by decide)]; exact hflS k hkj) ?_
            refine lv_if_eq (tgt := 51) jx jb dX9_make_45 (by decide) (fun c45 => ?_) (fun c45 => ?_)
            · have hfk : filL o lg (k + 1) = filL o lg k ++ [gl lg k] := if_neg (bI_0.mp c45)
              refine lv_aload_n jx jb dX9_make_51 rfl (lv_at hl 0 rfl) ?_
              refine w_get X hW K9 (by omega) m12 12 (by decide) fl_X9_40 rfl dX9_make_52 ?_
              refine lv_sipush (v := 200) jx jb dX9_make_55 (by decide) ?_
              refine lv_aload_n jx jb dX9_make_58 rfl (lv_at hl 0 rfl) ?_
              refine w_get X hW K9 (by omega) m12 10 (by decide) fl_X9_83 rfl dX9_make_59 ?_
              refine lv_imul jx jb dX9_make_62 ?_
              refine top_eq (y := nI (200 * T)) (by rw [show (200 : Int32) = nI 200 from rfl, pk_mul]) ?_
              refine lv_iload_n jx jb dX9_make_63 rfl (lv_at hl 2 rfl) ?_
              refine lv_iadd jx jb dX9_make_64 ?_
              refine top_eq (y := nI (200 * T + (filL o lg k).length)) (nI_add _ _) ?_
              refine lv_aload_n jx jb dX9_make_65 rfl (lv_at hl 0 rfl) ?_
              refine w_get X hW K9 (by omega) m12 5 (by decide) fl_X9_22 rfl dX9_make_66 ?_
              refine lv_iload_n jx jb dX9_make_69 rfl (lv_at hl 3 rfl) ?_
              have m14 : gL34 68 = .inl (cy 0, 200, .inl (qL34 68)) := hR34.2.2 68 (by decide) (by decide)
              refine w_ild X hW (by omega) m14 k rfl (by omega) (by decide) dX9_make_70 ?_
              refine top_eq (y := nI (gl lg k / 16)) (by rw [hsm 68 (by decide) (by decide), hsS 68 (by decide) (by decide)]; exact (hL.2.2 k hlt).1) ?_
              have m15 : gL34 74 = .inl (cy 0, 2400, .inl (qL34 74)) := hR34.2.2 74 (by decide) (by decide)
              refine w_ist X hW (by omega) m15 (200 * T + (filL o lg k).length) rfl (by omega) (by decide) dX9_make_71 (fun H locs hW => ?_)
              obtain ⟨g_16, eg_16⟩ : ∃ zz, zz = va_up gL34 74 (.inl (cy 0, 2400, .inl (upd (qL34 74) (200 * T + (filL o lg k).length) (nI (gl lg k / 16))))) := ⟨_, rfl⟩
              have hW : Wd G A js.heap (N, ad, g_16) H locs := by rw [eg_16]; exact hW
              obtain ⟨q_18, eq_18⟩ : ∃ zz, zz = va_up qL34 74 (upd (qL34 74) (200 * T + (filL o lg k).length) (nI (gl lg k / 16))) := ⟨_, rfl⟩
              have hR17 : MRaw cy N ad g_16 q_18 (nI lg.length) (nI T) tS := by rw [eq_18]; exact hR34.put (by decide) (by decide) (fun k hk => by rw [eg_16, va_up_n hk]) (by rw [eg_16]; exact va_up_s)
              refine lv_aload_n jx jb dX9_make_72 rfl (lv_at hl 0 rfl) ?_
              have m19 : g_16 63 = .inr (9, [.ref (ad 64), .ref (ad 65), .ref (ad 66), .ref (ad 67), .int (nI lg.length), .ref (ad 68), .ref (ad 69), .ref (ad 70), .ref (ad 71), .ref (ad 72), .int (nI T), .ref (ad 73), .ref (ad 74), .ref (ad 75), .ref (ad 76), .ref (ad 77), .ref (ad 78), .ref (ad 79), .ref (ad 80), .int tS, .ref (ad 81), .ref (ad 82)]) := hR17.2.1
              refine w_get X hW K9 (by omega) m19 13 (by decide) fl_X9_43 rfl dX9_make_73 ?_
              refine lv_sipush (v := 200) jx jb dX9_make_76 (by decide) ?_
              refine lv_aload_n jx jb dX9_make_79 rfl (lv_at hl 0 rfl) ?_
              refine w_get X hW K9 (by omega) m19 10 (by decide) fl_X9_83 rfl dX9_make_80 ?_
              refine lv_imul jx jb dX9_make_83 ?_
              refine top_eq (y := nI (200 * T)) (by rw [show (200 : Int32) = nI 200 from rfl, pk_mul]) ?_
              refine lv_iload_n jx jb dX9_make_84 rfl (lv_at hl 2 rfl) ?_
              refine lv_iadd jx jb dX9_make_85 ?_
              refine top_eq (y := nI (200 * T + (filL o lg k).length)) (nI_add _ _) ?_
              refine lv_aload_n jx jb dX9_make_86 rfl (lv_at hl 0 rfl) ?_
              refine w_get X hW K9 (by omega) m19 6 (by decide) fl_X9_25 rfl dX9_make_87 ?_
              refine lv_iload_n jx jb dX9_make_90 rfl (lv_at hl 3 rfl) ?_
              have m20 : g_16 69 = .inl (cy 0, 200, .inl (q_18 69)) := hR17.2.2 69 (by decide) (by decide)
              refine w_ild X hW (by omega) m20 k rfl (by omega) (by decide) dX9_make_91 ?_
              refine top_eq (y := nI (gl lg k % 16)) (by rw [eq_18, va_up_n (by decide), hsm 69 (by decide) (by decide), hsS 69 (by decide) (by decide)]; exact (hL.2.2 k hlt).2.1) ?_
              have m21 : g_16 75 = .inl (cy 0, 2400, .inl (q_18 75)) := hR17.2.2 75 (by decide) (by decide)
              refine w_ist X hW (by omega) m21 (200 * T + (filL o lg k).length) rfl (by omega) (by decide) dX9_make_92 (fun H locs hW => ?_)
              obtain ⟨g_22, eg_22⟩ : ∃ zz, zz = va_up g_16 75 (.inl (cy 0, 2400, .inl (upd (q_18 75) (200 * T + (filL o lg k).length) (nI (gl lg k % 16))))) := ⟨_, rfl⟩
              have hW : Wd G A js.heap (N, ad, g_22) H locs := by rw [eg_22]; exact hW
              obtain ⟨q_24, eq_24⟩ : ∃ zz, zz = va_up q_18 75 (upd (q_18 75) (200 * T + (filL o lg k).length) (nI (gl lg k % 16))) := ⟨_, rfl⟩
              have hR23 : MRaw cy N ad g_22 q_24 (nI lg.length) (nI T) tS := by rw [eq_24]; exact hR17.put (by decide) (by decide) (fun k hk => by rw [eg_22, va_up_n hk]) (by rw [eg_22]; exact va_up_s)
              refine lv_iinc (v := nI ((filL o lg k).length + 1)) (lv' := [(2, .int (nI ((filL o lg k).length + 1))), (0, .ref (ad 63)), (1, .int (nI j)), (3, .int (nI k))]) jx jb dX9_make_93 hl (k := 2) rfl (show nI (filL o lg k).length + 1 = nI ((filL o lg k).length + 1) from nI_1 _) (by decide) rfl (fun ls hl => ?_)
              refine lv_iinc (v := nI (k + 1)) (lv' := [(3, .int (nI (k + 1))), (2, .int (nI ((filL o lg k).length + 1))), (0, .ref (ad 63)), (1, .int (nI j))]) jx jb dX9_make_96 hl (k := 3) rfl (show nI k + 1 = nI (k + 1) from nI_1 _) (by decide) rfl (fun ls hl => ?_)
              refine lv_goto (tgt := 34) jx jb dX9_make_99 (by decide) ?_
              have hl : lv_has ls 4 [(3, .int (nI (k + 1))), (2, .int (nI (filL o lg (k + 1)).length)), (0, .ref (ad 63)), (1, .int (nI j))] := by rw [show nI (filL o lg (k + 1)).length = nI ((filL o lg k).length + 1) from by rw [hfk, List.length_append]; rfl]; exact hl
              exact ih34 (k + 1) q_24 g_22 _ _ _ hR23 (fun k hk => by show g_22 k = _; rw [eg_22, va_up_n (by omega), eg_16, va_up_n (by omega), hfr34 k hk]) (by omega) (fun a h1 h2 => by rw [eq_24, va_up_n h2, eq_18, va_up_n h1]; exact hsm a h1 h2) (fun m hm => by rw [hfk, List.length_append, List.length_singleton] at hm; rw [eq_24, va_up_s, va_up_n (by decide), eq_18, va_up_s, va_up_n (by decide), hfk]; by_cases z : m = (filL o lg k).length; (rw [z, pk_us, pk_us, show gl ((filL o lg k) ++ [gl lg k]) (filL o lg k).length = gl lg k from gl_app_r (i := 0)]; exact ⟨rfl, rfl⟩); (rw [pk_un (by omega), pk_un (by omega), gl_app_l (by omega)]; exact hrow m (by omega))) (fun m hm => by rw [eq_24, va_up_s, va_up_n (by decide), eq_18, va_up_s, va_up_n (by decide), pk_un (by omega), pk_un (by omega)]; exact hold m hm)  (by omega) hW (lv_sub hl [2, 3, 1, 0] rfl)
            · refine lv_goto (tgt := 96) jx jb dX9_make_48 (by decide) ?_
              refine lv_iinc (v := nI (k + 1)) (lv' := [(3, .int (nI (k + 1))), (0, .ref (ad 63)), (1, .int (nI j)), (2, .int (nI (filL o lg k).length))]) jx jb dX9_make_96 hl (k := 3) rfl (show nI k + 1 = nI (k + 1) from nI_1 _) (by decide) rfl (fun ls hl => ?_)
              refine lv_goto (tgt := 34) jx jb dX9_make_99 (by decide) ?_
              have hfk : filL o lg (k + 1) = filL o lg k := if_pos (bI_n0.mp c45)
              have hl : lv_has ls 4 [(3, .int (nI (k + 1))), (0, .ref (ad 63)), (1, .int (nI j)), (2, .int (nI (filL o lg (k + 1)).length))] := by rw [show nI (filL o lg (k + 1)).length = nI (filL o lg k).length from by rw [hfk]]; exact hl
              exact ih34 (k + 1) qL34 gL34 _ _ _ hR34 (fun k hk => by show gL34 k = _; rw [hfr34 k hk]) (by omega) hsm (by rw [hfk]; exact hrow) hold  (by omega) hW (lv_sub hl [1, 2, 3, 0] rfl)
      exact loop34 _ 0 qS gS _ _ _ hRS (fun k hk => by show gS k = _; rw [frS k hk]) (by omega) (fun a _ _ => rfl) (fun m hm => absurd hm (Nat.not_lt_zero _)) (fun m hm => ⟨rfl, rfl⟩)  (Nat.lt_succ_self _) hW (lv_sub hl [2, 3, 1, 0] rfl)
    · exact absurd (n_eq (b := 12) (by omega) (by decide) c20) (by omega)
