def pcK (n : Nat) : Nat → Nat
  | 0 => 0
  | t + 1 => pcK n t + n / 2 ^ t % 2
theorem pcK_12 (n : Nat) : pcK n 12 = pc2 n := by simp [pcK, pc2]
theorem shk : ∀ t, t < 12 → ((nI t &&& 31).toBitVec.smod 32).toNat = t := by decide
theorem bit_at {n t : Nat} (hn : n < 4096) (ht : t < 12) : (nI n >>> (nI t &&& 31)) &&& 1 = nI (n / 2 ^ t % 2) := by
  have := Nat.div_le_self n (2 ^ t)
  rw [pk_shrN (by omega) _ t (shk t ht), pk_andN (by omega) 1 (by decide)]

set_option maxHeartbeats 4000000 in
set_option maxRecDepth 100000 in
theorem c_bits {l : Launch} {G : va_G} {cy : Nat → ClassId} {w : WT} {n : Nat} (hn : n < 4096) : RI l G cy w yX9_bits cX9_bits 3 (some .int) (rmN 0) [.int (nI n)] (nI (pc2 n)) := by
  refine RI.mk (by decide) (by first | rfl | exact bI_nar) (Nat.le_of_ble_eq_true rfl) ?_
  intro jp je js jm below meth jc A Q X hW ret ls hl
  have jx := X.hx
  have jb := X.hb
  have hl : lv_has ls 3 [(0, .int (nI n))] := hl
  have X : Cx G cy jp js jm _ jc cX9_bits 3 RX9 A js.heap := X
  refine lv_iconst (v := 0) jx jb dX9_bits_0 (by decide) ?_
  refine lv_istore_n (lv' := [(1, .int 0), (0, .int (nI n))]) jx jb dX9_bits_1 rfl hl (by decide) rfl (fun ls hl => ?_)
  refine lv_iconst (v := 0) jx jb dX9_bits_2 (by decide) ?_
  refine lv_istore_n (lv' := [(2, .int 0), (1, .int 0), (0, .int (nI n))]) jx jb dX9_bits_3 rfl hl (by decide) rfl (fun ls hl => ?_)
  have loop4 : ∀ (fuel4 : Nat) (t : Nat) (H : Heap) (locs : List Loc) (ls : Array Slot), (t ≤ 12) → 12 - t < fuel4 → Wd G A js.heap w H locs → lv_has ls 3 [(0, .int (nI n)), (1, .int (nI (pcK n t))), (2, .int (nI t))] → W jp l je (rmN 0) js jm [.int (nI n)].toArray below meth jc H locs 0 0 Q (F0 jm 4 ls []) := by
    intro fuel4
    induction fuel4 with
    | zero => intro t H locs ls ht  hm4; exact absurd hm4 (Nat.not_lt_zero _)
    | succ fuel4 ih4 =>
      intro t H locs ls ht  hm4 hW hl
      refine lv_iload_n jx jb dX9_bits_4 rfl (lv_at hl 2 rfl) ?_
      refine lv_bipush (v := 12) jx jb dX9_bits_5 (by decide) ?_
      refine lv_icmp_ge (tgt := 24) jx jb dX9_bits_7 (by decide) (fun c7 => ?_) (fun c7 => ?_)
      · refine lv_iload_n jx jb dX9_bits_24 rfl (lv_at hl 1 rfl) ?_
        exact ret _ _ _ _ _ dX9_bits_25 hW (by have := n_le (a := 12) (by decide) (by omega) c7; rw [show t = 12 by omega, pcK_12])
      · have hlt : t < 12 := n_nle (a := 12) (by decide) (by omega) c7
        refine lv_iload_n jx jb dX9_bits_10 rfl (lv_at hl 1 rfl) ?_
        refine lv_iload_n jx jb dX9_bits_11 rfl (lv_at hl 0 rfl) ?_
        refine lv_iload_n jx jb dX9_bits_12 rfl (lv_at hl 2 rfl) ?_
        refine lv_ishr jx jb dX9_bits_13 ?_
        refine lv_iconst (v := 1) jx jb dX9_bits_14 (by decide) ?_
        refine lv_iand jx jb dX9_bits_15 ?_
        refine top_eq (y := nI (n / 2 ^ t % 2)) (bit_at hn hlt) ?_
        refine lv_iadd jx jb dX9_bits_16 ?_
        refine top_eq (y := nI (pcK n (t + 1))) (nI_add _ _) ?_
        refine lv_istore_n (lv' := [(1, .int (nI (pcK n (t + 1)))), (0, .int (nI n)), (2, .int (nI t))]) jx jb dX9_bits_17 rfl hl (by decide) rfl (fun ls hl => ?_)
        refine lv_iinc (v := nI (t + 1)) (lv' := [(2, .int (nI (t + 1))), (1, .int (nI (pcK n (t + 1)))), (0, .int (nI n))]) jx jb dX9_bits_18 hl (k := 2) rfl (show nI t + 1 = nI (t + 1) from nI_1 _) (by decide) rfl (fun ls hl => ?_)
        refine lv_goto (tgt := 4) jx jb dX9_bits_21 (by decide) ?_
        exact ih4 (t + 1)  _ _ _ (by omega)  (by omega) hW (lv_sub hl [2, 1, 0] rfl)
  exact loop4 _ 0  _ _ _ (by omega)  (Nat.lt_succ_self _) hW (lv_sub hl [2, 1, 0] rfl)

set_option maxHeartbeats 4000000 in
set_option maxRecDepth 100000 in
theorem c_mChosen {l : Launch} {G : va_G} {cy : Nat → ClassId} {N : Nat} {ad : Nat → Nat} {g : Nat → va_E} {M : M4} {lg : List Nat} {lr lt : Nat → Int32} {st T : Nat} {y : Nat → TT} (hMA : MAt cy N ad g M lg lr lt st T y) : MI l G cy (N, ad, g) yX9_chosen cX9_chosen 6 (some .int) (rmN 3) [.ref (ad 63)] (nA N ad (fun v g1 => v = nI (lhC (fun i => mtT M (y i)) T (2 ^ T)) ∧ MAt cy N ad g1 M lg lr lt st T y ∧ ∀ k, ¬ (63 ≤ k ∧ k < 83) → g1 k = g k)) := by
  refine NI.mk (by decide) (by intros; first | rfl | (simp_all; done)) (Nat.le_of_ble_eq_true rfl) ?_
  intro jp je js jm below meth jc A Q X hW ret ls hl
  have jx := X.hx
  have jb := X.hb
  have hl : lv_has ls 6 [(0, .ref (ad 63))] := hl
  have X : Cx G cy jp js jm _ jc cX9_chosen 6 RX9 A js.heap := X
  obtain ⟨q, to, hR, hok, hQ, hL, hst, hS4, hT12, hQT⟩ := id hMA
  have h83 : 83 ≤ N := hR.1
  have hl200 := hL.1
  refine lv_iconst (v := 0) jx jb dX9_chosen_0 (by decide) ?_
  refine lv_istore_n (lv' := [(1, .int 0), (0, .ref (ad 63))]) jx jb dX9_chosen_1 rfl hl (by decide) rfl (fun ls hl => ?_)
  refine lv_iconst (v := 0) jx jb dX9_chosen_2 (by decide) ?_
  refine lv_istore_n (lv' := [(2, .int 0), (1, .int 0), (0, .ref (ad 63))]) jx jb dX9_chosen_3 rfl hl (by decide) rfl (fun ls hl => ?_)
  have loop4 : ∀ (fuel4 : Nat) (k : Nat) (tv : Int32) (qL4 : Nat → Nat → Int32) (gL4 : Nat → va_E) (H : Heap) (locs : List Loc) (ls : Array Slot), (MRaw cy N ad gL4 qL4 (nI lg.length) (nI T) tv) → (∀ k, ¬ (63 ≤ k ∧ k < 83) → gL4 k = g k) → (k ≤ T) → (∀ a, a ≠ 80 → a ≠ 82 → qL4 a = q a) → (∀ i, i < k → qL4 82 i = mtT M (y i)) → T - k < fuel4 → Wd G A js.heap (N, ad, gL4) H locs → lv_has ls 6 [(0, .ref (ad 63)), (1, .int (orK (fun i => mtT M (y i)) k)), (2, .int (nI k))] → W jp l je (rmN 3) js jm [.ref (ad 63)].toArray below meth jc H locs 0 0 Q (F0 jm 4 ls []) := by
    intro fuel4
    induction fuel4 with
    | zero => intro k tv qL4 gL4 H locs ls hR4 hfr4 hk hsm hfm  hm4; exact absurd hm4 (Nat.not_lt_zero _)
    | succ fuel4 ih4 =>
      intro k tv qL4 gL4 H locs ls hR4 hfr4 hk hsm hfm  hm4 hW hl
      refine lv_iload_n jx jb dX9_chosen_4 rfl (lv_at hl 2 rfl) ?_
      refine lv_aload_n jx jb dX9_chosen_5 rfl (lv_at hl 0 rfl) ?_
      have m1 : gL4 63 = .inr (9, [.ref (ad 64), .ref (ad 65), .ref (ad 66), .ref (ad 67), .int (nI lg.length), .ref (ad 68), .ref (ad 69), .ref (ad 70), .ref (ad 71), .ref (ad 72), .int (nI T), .ref (ad 73), .ref (ad 74), .ref (ad 75), .ref (ad 76), .ref (ad 77), .ref (ad 78), .ref (ad 79), .ref (ad 80), .int tv, .ref (ad 81), .ref (ad 82)]) := hR4.2.1
      refine w_get X hW K9 (by omega) m1 10 (by decide) fl_X9_83 rfl dX9_chosen_6 ?_
      refine lv_icmp_ge (tgt := 38) jx jb dX9_chosen_9 (by decide) (fun c9 => ?_) (fun c9 => ?_)
      · have hkT := n_le (by omega) (by omega) c9
        have hke : T = k := by omega
        subst hke
        have h2 := two_lt hT12
        refine lv_iconst (v := 1) jx jb dX9_chosen_38 (by decide) ?_
        refine lv_aload_n jx jb dX9_chosen_39 rfl (lv_at hl 0 rfl) ?_
        refine w_get X hW K9 (by omega) m1 10 (by decide) fl_X9_83 rfl dX9_chosen_40 ?_
        refine lv_ishl jx jb dX9_chosen_43 ?_
        refine lv_iconst (v := 1) jx jb dX9_chosen_44 (by decide) ?_
        refine lv_isub jx jb dX9_chosen_45 ?_
        refine top_eq (y := nI (2 ^ T - 1)) (sh_two1 hT12) ?_
        refine lv_istore_n (lv' := [(2, .int (nI (2 ^ T - 1))), (0, .ref (ad 63)), (1, .int (orK (fun i => mtT M (y i)) T))]) jx jb dX9_chosen_46 rfl hl (by decide) rfl (fun ls hl => ?_)
        refine lv_iconst (v := 1) jx jb dX9_chosen_47 (by decide) ?_
        refine lv_aload_n jx jb dX9_chosen_48 rfl (lv_at hl 1 rfl) ?_
        refine w_get X hW K9 (by omega) m1 10 (by decide) fl_X9_83 rfl dX9_chosen_49 ?_
        refine lv_ishl jx jb dX9_chosen_52 ?_
        refine top_eq (y := nI (2 ^ T)) (sh_two T hT12) ?_
        refine lv_iconst (v := 1) jx jb dX9_chosen_53 (by decide) ?_
        refine lv_isub jx jb dX9_chosen_54 ?_
        refine lv_istore_n (lv' := [(3, .int ((nI (2 ^ T)) - 1)), (2, .int (nI (2 ^ T - 1))), (0, .ref (ad 63)), (1, .int (orK (fun i => mtT M (y i)) T))]) jx jb dX9_chosen_55 rfl hl (by decide) rfl (fun ls hl => ?_)
        have hl : lv_has ls 6 [(3, .int ((nI (2 ^ T)) - 1)), (2, .int (nI (lhM (fun i => mtT M (y i)) T (2 ^ T - 2 ^ T)))), (0, .ref (ad 63)), (1, .int (orK (fun i => mtT M (y i)) T))] := by rw [show nI (lhM (fun i => mtT M (y i)) T (2 ^ T - 2 ^ T)) = nI (2 ^ T - 1) from by rw [Nat.sub_self]; rfl]; exact hl
        have loop56 : ∀ (fuel56 : Nat) (h : Nat) (H : Heap) (locs : List Loc) (ls : Array Slot), (h ≤ 2 ^ T) → h < fuel56 → Wd G A js.heap (N, ad, gL4) H locs → lv_has ls 6 [(0, .ref (ad 63)), (1, .int (orK (fun i => mtT M (y i)) T)), (2, .int (nI (lhM (fun i => mtT M (y i)) T (2 ^ T - h)))), (3, .int (nI h - 1))] → W jp l je (rmN 3) js jm [.ref (ad 63)].toArray below meth jc H locs 0 0 Q (F0 jm 56 ls []) := by
          intro fuel56
          induction fuel56 with
          | zero => intro h H locs ls hh  hm56; exact absurd hm56 (Nat.not_lt_zero _)
          | succ fuel56 ih56 =>
            intro h H locs ls hh  hm56 hW hl
            refine lv_iload_n jx jb dX9_chosen_56 rfl (lv_at hl 3 rfl) ?_
            refine lv_if_lt (tgt := 132) jx jb dX9_chosen_57 (by decide) (fun c57 => ?_) (fun c57 => ?_)
            · refine lv_iload_n jx jb dX9_chosen_132 rfl (lv_at hl 2 rfl) ?_
              exact ret _ _ _ _ _ _ dX9_chosen_133 hW (by have hz : h = 0 := (by rcases Nat.eq_zero_or_pos h with z | z; exact z; (obtain ⟨n, rfl⟩ : ∃ n, h = n + 1 := ⟨h - 1, by omega⟩; rw [nI_pred] at c57; exact absurd c57 (nI_pos (by omega)))); subst hz; exact ⟨by rw [show 2 ^ T - 0 = 2 ^ T by omega, lh_eq hT12], ⟨_, _, hR4, hok, hQ.of (fun a h1 h2 => hsm a (by omega) (by omega)), hL.of (fun a h1 h2 => hsm a (by omega) (by omega)), hst, (fun j hj => by rw [hsm 72 (by decide) (by decide)]; exact hS4 j hj), hT12, fun i hi => (hQT i hi).of (fun a h1 h2 => hsm a (by omega) (by omega))⟩, (fun k hk => by show gL4 k = _; rw [hfr4 k hk])⟩)
            · obtain ⟨h1, rfl⟩ : ∃ h1, h = h1 + 1 := by cases h with | zero => exact absurd (by decide) c57 | succ n => exact ⟨n, rfl⟩
              have hheap : 2 ^ T - 1 - (2 ^ T - (h1 + 1)) = h1 := by omega
              have hbl : lhM (fun i => mtT M (y i)) T (2 ^ T - (h1 + 1)) < 4096 := by have := (lhM_inv (f := (fun i => mtT M (y i))) hT12 (d := 2 ^ T - (h1 + 1)) (by omega)).1; omega
              have hp1 := pc2_lt h1
              have hp2 := pc2_lt (lhM (fun i => mtT M (y i)) T (2 ^ T - (h1 + 1)))
              have hl : lv_has ls 6 [(0, .ref (ad 63)), (1, .int (orK (fun i => mtT M (y i)) T)), (2, .int (nI (lhM (fun i => mtT M (y i)) T (2 ^ T - (h1 + 1))))), (3, .int (nI h1))] := by rw [show nI h1 = nI (h1 + 1) - 1 from (nI_pred h1).symm]; exact hl
              refine lv_iconst (v := 0) jx jb dX9_chosen_60 (by decide) ?_
              refine lv_istore (lv' := [(4, .int 0), (0, .ref (ad 63)), (1, .int (orK (fun i => mtT M (y i)) T)), (2, .int (nI (lhM (fun i => mtT M (y i)) T (2 ^ T - (h1 + 1))))), (3, .int (nI h1))]) jx jb dX9_chosen_61 hl (by decide) rfl (fun ls hl => ?_)
              refine lv_iconst (v := 0) jx jb dX9_chosen_63 (by decide) ?_
              refine lv_istore (lv' := [(5, .int 0), (4, .int 0), (0, .ref (ad 63)), (1, .int (orK (fun i => mtT M (y i)) T)), (2, .int (nI (lhM (fun i => mtT M (y i)) T (2 ^ T - (h1 + 1))))), (3, .int (nI h1))]) jx jb dX9_chosen_64 hl (by decide) rfl (fun ls hl => ?_)
              have loop66 : ∀ (fuel66 : Nat) (t : Nat) (H : Heap) (locs : List Loc) (ls : Array Slot), (t ≤ T) → T - t < fuel66 → Wd G A js.heap (N, ad, gL4) H locs → lv_has ls 6 [(0, .ref (ad 63)), (1, .int (orK (fun i => mtT M (y i)) T)), (2, .int (nI (lhM (fun i => mtT M (y i)) T (2 ^ T - (h1 + 1))))), (3, .int (nI h1)), (4, .int (mbh (fun i => mtT M (y i)) (nI h1) t)), (5, .int (nI t))] → W jp l je (rmN 3) js jm [.ref (ad 63)].toArray below meth jc H locs 0 0 Q (F0 jm 66 ls []) := by
                intro fuel66
                induction fuel66 with
                | zero => intro t H locs ls ht  hm66; exact absurd hm66 (Nat.not_lt_zero _)
                | succ fuel66 ih66 =>
                  intro t H locs ls ht  hm66 hW hl
                  refine lv_iload jx jb dX9_chosen_66 (lv_at hl 5 rfl) ?_
                  refine lv_aload_n jx jb dX9_chosen_68 rfl (lv_at hl 0 rfl) ?_
                  refine w_get X hW K9 (by omega) m1 10 (by decide) fl_X9_83 rfl dX9_chosen_69 ?_
                  refine lv_icmp_ge (tgt := 107) jx jb dX9_chosen_72 (by decide) (fun c72 => ?_) (fun c72 => ?_)
                  · have htT := n_le (by omega) (by omega) c72
                    have hte : T = t := by omega
                    subst hte
                    refine lv_iload jx jb dX9_chosen_107 (lv_at hl 4 rfl) ?_
                    refine lv_iload_n jx jb dX9_chosen_109 rfl (lv_at hl 1 rfl) ?_
                    refine lv_icmp_ne (tgt := 126) jx jb dX9_chosen_110 (by decide) (fun c110 => ?_) (fun c110 => ?_)
                    · refine lv_iinc (v := (nI h1) + (-1)) (lv' := [(3, .int ((nI h1) + (-1))), (0, .ref (ad 63)), (1, .int (orK (fun i => mtT M (y i)) T)), (2, .int (nI (lhM (fun i => mtT M (y i)) T (2 ^ T - (h1 + 1))))), (4, .int (mbh (fun i => mtT M (y i)) (nI h1) T)), (5, .int (nI T))]) jx jb dX9_chosen_126 hl (k := 3) rfl rfl (by decide) rfl (fun ls hl => ?_)
                      refine lv_goto (tgt := 56) jx jb dX9_chosen_129 (by decide) ?_
                      have hl : lv_has ls 6 [(3, .int ((nI h1) + (-1))), (0, .ref (ad 63)), (1, .int (orK (fun i => mtT M (y i)) T)), (2, .int (nI (lhM (fun i => mtT M (y i)) T (2 ^ T - h1)))), (4, .int (mbh (fun i => mtT M (y i)) (nI h1) T)), (5, .int (nI T))] := by rw [show nI (lhM (fun i => mtT M (y i)) T (2 ^ T - h1)) = nI (lhM (fun i => mtT M (y i)) T (2 ^ T - (h1 + 1))) from congrArg nI (by rw [show 2 ^ T - h1 = (2 ^ T - (h1 + 1)) + 1 by omega]; exact if_neg (fun z => c110 (by rw [hheap] at z; exact z.1)))]; exact hl
                      have hl : lv_has ls 6 [(3, .int (nI h1 - 1)), (0, .ref (ad 63)), (1, .int (orK (fun i => mtT M (y i)) T)), (2, .int (nI (lhM (fun i => mtT M (y i)) T (2 ^ T - h1)))), (4, .int (mbh (fun i => mtT M (y i)) (nI h1) T)), (5, .int (nI T))] := by rw [show nI h1 - 1 = (nI h1) + (-1) from by rw [Int32.sub_eq_add_neg]]; exact hl
                      exact ih56 h1  _ _ _ (by omega)  (by omega) hW (lv_sub hl [1, 2, 3, 0] rfl)
                    · refine lv_iload_n jx jb dX9_chosen_113 rfl (lv_at hl 3 rfl) ?_
                      refine w_rS (As := [.int (nI h1)]) X hW (c_bits (by omega)) ml_X9_137 mf_X9_bits ⟨Nat.le_of_ble_eq_true rfl, Nat.le_of_ble_eq_true rfl⟩ hl.1 rfl (Nat.le_of_ble_eq_true rfl) ⟨Nat.le_of_ble_eq_true rfl, Nat.le_of_ble_eq_true rfl⟩ dX9_chosen_114 (fun H locs hW => ?_)
                      refine lv_iload_n jx jb dX9_chosen_117 rfl (lv_at hl 2 rfl) ?_
                      refine w_rS (As := [.int (nI (lhM (fun i => mtT M (y i)) T (2 ^ T - (h1 + 1))))]) X hW (c_bits hbl) ml_X9_137 mf_X9_bits ⟨Nat.le_of_ble_eq_true rfl, Nat.le_of_ble_eq_true rfl⟩ hl.1 rfl (Nat.le_of_ble_eq_true rfl) ⟨Nat.le_of_ble_eq_true rfl, Nat.le_of_ble_eq_true rfl⟩ dX9_chosen_118 (fun H locs hW => ?_)
                      refine lv_icmp_gt (tgt := 126) jx jb dX9_chosen_121 (by decide) (fun c121 => ?_) (fun c121 => ?_)
                      · refine lv_iinc (v := (nI h1) + (-1)) (lv' := [(3, .int ((nI h1) + (-1))), (0, .ref (ad 63)), (1, .int (orK (fun i => mtT M (y i)) T)), (2, .int (nI (lhM (fun i => mtT M (y i)) T (2 ^ T - (h1 + 1))))), (4, .int (mbh (fun i => mtT M (y i)) (nI h1) T)), (5, .int (nI T))]) jx jb dX9_chosen_126 hl (k := 3) rfl rfl (by decide) rfl (fun ls hl => ?_)
                        refine lv_goto (tgt := 56) jx jb dX9_chosen_129 (by decide) ?_
                        have hl : lv_has ls 6 [(3, .int ((nI h1) + (-1))), (0, .ref (ad 63)), (1, .int (orK (fun i => mtT M (y i)) T)), (2, .int (nI (lhM (fun i => mtT M (y i)) T (2 ^ T - h1)))), (4, .int (mbh (fun i => mtT M (y i)) (nI h1) T)), (5, .int (nI T))] := by rw [show nI (lhM (fun i => mtT M (y i)) T (2 ^ T - h1)) = nI (lhM (fun i => mtT M (y i)) T (2 ^ T - (h1 + 1))) from congrArg nI (by rw [show 2 ^ T - h1 = (2 ^ T - (h1 + 1)) + 1 by omega]; exact if_neg (fun z => by rw [hheap] at z; have := n_lt (by omega) (by omega) c121; omega))]; exact hl
                        have hl : lv_has ls 6 [(3, .int (nI h1 - 1)), (0, .ref (ad 63)), (1, .int (orK (fun i => mtT M (y i)) T)), (2, .int (nI (lhM (fun i => mtT M (y i)) T (2 ^ T - h1)))), (4, .int (mbh (fun i => mtT M (y i)) (nI h1) T)), (5, .int (nI T))] := by rw [show nI h1 - 1 = (nI h1) + (-1) from by rw [Int32.sub_eq_add_neg]]; exact hl
                        exact ih56 h1  _ _ _ (by omega)  (by omega) hW (lv_sub hl [1, 2, 3, 0] rfl)
                      · refine lv_iload_n jx jb dX9_chosen_124 rfl (lv_at hl 3 rfl) ?_
                        refine lv_istore_n (lv' := [(2, .int (nI h1)), (0, .ref (ad 63)), (1, .int (orK (fun i => mtT M (y i)) T)), (3, .int (nI h1)), (4, .int (mbh (fun i => mtT M (y i)) (nI h1) T)), (5, .int (nI T))]) jx jb dX9_chosen_125 rfl hl (by decide) rfl (fun ls hl => ?_)
                        refine lv_iinc (v := (nI h1) + (-1)) (lv' := [(3, .int ((nI h1) + (-1))), (2, .int (nI h1)), (0, .ref (ad 63)), (1, .int (orK (fun i => mtT M (y i)) T)), (4, .int (mbh (fun i => mtT M (y i)) (nI h1) T)), (5, .int (nI T))]) jx jb dX9_chosen_126 hl (k := 3) rfl rfl (by decide) rfl (fun ls hl => ?_)
                        refine lv_goto (tgt := 56) jx jb dX9_chosen_129 (by decide) ?_
                        have hl : lv_has ls 6 [(3, .int ((nI h1) + (-1))), (2, .int (nI (lhM (fun i => mtT M (y i)) T (2 ^ T - h1)))), (0, .ref (ad 63)), (1, .int (orK (fun i => mtT M (y i)) T)), (4, .int (mbh (fun i => mtT M (y i)) (nI h1) T)), (5, .int (nI T))] := by rw [show nI (lhM (fun i => mtT M (y i)) T (2 ^ T - h1)) = nI h1 from congrArg nI (by rw [show 2 ^ T - h1 = (2 ^ T - (h1 + 1)) + 1 by omega]; exact (if_pos ⟨by rw [hheap]; exact c110, by rw [hheap]; exact n_nlt (by omega) (by omega) c121⟩).trans hheap)]; exact hl
                        have hl : lv_has ls 6 [(3, .int (nI h1 - 1)), (2, .int (nI (lhM (fun i => mtT M (y i)) T (2 ^ T - h1)))), (0, .ref (ad 63)), (1, .int (orK (fun i => mtT M (y i)) T)), (4, .int (mbh (fun i => mtT M (y i)) (nI h1) T)), (5, .int (nI T))] := by rw [show nI h1 - 1 = (nI h1) + (-1) from by rw [Int32.sub_eq_add_neg]]; exact hl
                        exact ih56 h1  _ _ _ (by omega)  (by omega) hW (lv_sub hl [2, 3, 1, 0] rfl)
                  · have hltt : t < T := n_nle (by omega) (by omega) c72
                    refine lv_iload jx jb dX9_chosen_75 (lv_at hl 4 rfl) ?_
                    refine lv_iload_n jx jb dX9_chosen_77 rfl (lv_at hl 3 rfl) ?_
                    refine lv_iload jx jb dX9_chosen_78 (lv_at hl 5 rfl) ?_
                    refine lv_ishr jx jb dX9_chosen_80 ?_
                    refine lv_iconst (v := 1) jx jb dX9_chosen_81 (by decide) ?_
                    refine lv_iand jx jb dX9_chosen_82 ?_
                    refine lv_iconst (v := 1) jx jb dX9_chosen_83 (by decide) ?_
                    refine lv_icmp_ne (tgt := 97) jx jb dX9_chosen_84 (by decide) (fun c84 => ?_) (fun c84 => ?_)
                    · refine lv_iconst (v := 0) jx jb dX9_chosen_97 (by decide) ?_
                      refine lv_ior jx jb dX9_chosen_98 ?_
                      refine top_eq (y := mbh (fun i => mtT M (y i)) (nI h1) (t + 1)) (by rw [show mbh (fun i => mtT M (y i)) (nI h1) (t + 1) = mbh (fun i => mtT M (y i)) (nI h1) t ||| (if (nI h1 >>> (nI t &&& 31)) &&& 1 = 1 then mtT M (y t) else 0) from rfl, if_neg c84]) ?_
                      refine lv_istore (lv' := [(4, .int (mbh (fun i => mtT M (y i)) (nI h1) (t + 1))), (0, .ref (ad 63)), (1, .int (orK (fun i => mtT M (y i)) T)), (2, .int (nI (lhM (fun i => mtT M (y i)) T (2 ^ T - (h1 + 1))))), (3, .int (nI h1)), (5, .int (nI t))]) jx jb dX9_chosen_99 hl (by decide) rfl (fun ls hl => ?_)
                      refine lv_iinc (v := nI (t + 1)) (lv' := [(5, .int (nI (t + 1))), (4, .int (mbh (fun i => mtT M (y i)) (nI h1) (t + 1))), (0, .ref (ad 63)), (1, .int (orK (fun i => mtT M (y i)) T)), (2, .int (nI (lhM (fun i => mtT M (y i)) T (2 ^ T - (h1 + 1))))), (3, .int (nI h1))]) jx jb dX9_chosen_101 hl (k := 5) rfl (show nI t + 1 = nI (t + 1) from nI_1 _) (by decide) rfl (fun ls hl => ?_)
                      refine lv_goto (tgt := 66) jx jb dX9_chosen_104 (by decide) ?_
                      exact ih66 (t + 1)  _ _ _ (by omega)  (by omega) hW (lv_sub hl [2, 3, 4, 5, 1, 0] rfl)
                    · refine lv_aload_n jx jb dX9_chosen_87 rfl (lv_at hl 0 rfl) ?_
                      refine w_get X hW K9 (by omega) m1 21 (by decide) fl_X9_65 rfl dX9_chosen_88 ?_
                      refine lv_iload jx jb dX9_chosen_91 (lv_at hl 5 rfl) ?_
                      have m2 : gL4 82 = .inl (cy 0, 12, .inl (qL4 82)) := hR4.2.2 82 (by decide) (by decide)
                      refine w_ild X hW (by omega) m2 t rfl (by omega) (by decide) dX9_chosen_93 ?_
                      refine top_eq (y := mtT M (y t)) (hfm t (by omega)) ?_
                      refine lv_goto (tgt := 98) jx jb dX9_chosen_94 (by decide) ?_
                      refine lv_ior jx jb dX9_chosen_98 ?_
                      refine top_eq (y := mbh (fun i => mtT M (y i)) (nI h1) (t + 1)) (by rw [show mbh (fun i => mtT M (y i)) (nI h1) (t + 1) = mbh (fun i => mtT M (y i)) (nI h1) t ||| (if (nI h1 >>> (nI t &&& 31)) &&& 1 = 1 then mtT M (y t) else 0) from rfl, if_pos c84]) ?_
                      refine lv_istore (lv' := [(4, .int (mbh (fun i => mtT M (y i)) (nI h1) (t + 1))), (0, .ref (ad 63)), (1, .int (orK (fun i => mtT M (y i)) T)), (2, .int (nI (lhM (fun i => mtT M (y i)) T (2 ^ T - (h1 + 1))))), (3, .int (nI h1)), (5, .int (nI t))]) jx jb dX9_chosen_99 hl (by decide) rfl (fun ls hl => ?_)
                      refine lv_iinc (v := nI (t + 1)) (lv' := [(5, .int (nI (t + 1))), (4, .int (mbh (fun i => mtT M (y i)) (nI h1) (t + 1))), (0, .ref (ad 63)), (1, .int (orK (fun i => mtT M (y i)) T)), (2, .int (nI (lhM (fun i => mtT M (y i)) T (2 ^ T - (h1 + 1))))), (3, .int (nI h1))]) jx jb dX9_chosen_101 hl (k := 5) rfl (show nI t + 1 = nI (t + 1) from nI_1 _) (by decide) rfl (fun ls hl => ?_)
                      refine lv_goto (tgt := 66) jx jb dX9_chosen_104 (by decide) ?_
                      exact ih66 (t + 1)  _ _ _ (by omega)  (by omega) hW (lv_sub hl [2, 3, 4, 5, 1, 0] rfl)
              exact loop66 _ 0  _ _ _ (by omega)  (Nat.lt_succ_self _) hW (lv_sub hl [2, 3, 4, 5, 1, 0] rfl)
        exact loop56 _ (2 ^ T)  _ _ _ (Nat.le_refl _)  (Nat.lt_succ_self _) hW (lv_sub hl [2, 3, 1, 0] rfl)
      · have hlt : k < T := n_nle (by omega) (by omega) c9
        obtain ⟨t1, t2, -⟩ := hQT k hlt
        refine lv_aload_n jx jb dX9_chosen_12 rfl (lv_at hl 0 rfl) ?_
        refine w_get X hW K9 (by omega) m1 21 (by decide) fl_X9_65 rfl dX9_chosen_13 ?_
        refine lv_iload_n jx jb dX9_chosen_16 rfl (lv_at hl 2 rfl) ?_
        refine lv_aload_n jx jb dX9_chosen_17 rfl (lv_at hl 0 rfl) ?_
        refine lv_iload_n jx jb dX9_chosen_18 rfl (lv_at hl 2 rfl) ?_
        refine w_nV (As := [.int (nI k)]) X hW (c_mMeets (row := (y k).1) hR4 hok (hQ.of (fun a h1 h2 => hsm a (by omega) (by omega))) ⟨t1.1, t1.2.1, fun m hm => by rw [hsm 74 (by decide) (by decide), hsm 75 (by decide) (by decide)]; exact t1.2.2 m hm⟩ (by rw [hsm 73 (by decide) (by decide)]; exact t2) (by omega)) (by omega) m1 rfl rfl ml_X9_127 mf_X9_meets ⟨Nat.le_of_ble_eq_true rfl, Nat.le_of_ble_eq_true rfl⟩ hl.1 rfl (Nat.le_of_ble_eq_true rfl) ⟨Nat.le_of_ble_eq_true rfl, Nat.le_of_ble_eq_true rfl⟩ dX9_chosen_19 (fun rD gD H locs hp hW => ?_)
        obtain ⟨er, qD, tD, hRD, hsD, frD⟩ := hp
        refine top_eq (y := mtT M (y k)) (er) ?_
        have m3 : gD 82 = .inl (cy 0, 12, .inl (qD 82)) := hRD.2.2 82 (by decide) (by decide)
        refine w_ist X hW (by omega) m3 k rfl (by omega) (by decide) dX9_chosen_22 (fun H locs hW => ?_)
        obtain ⟨g_4, eg_4⟩ : ∃ zz, zz = va_up gD 82 (.inl (cy 0, 12, .inl (upd (qD 82) k (mtT M (y k))))) := ⟨_, rfl⟩
        have hW : Wd G A js.heap (N, ad, g_4) H locs := by rw [eg_4]; exact hW
        obtain ⟨q_6, eq_6⟩ : ∃ zz, zz = va_up qD 82 (upd (qD 82) k (mtT M (y k))) := ⟨_, rfl⟩
        have hR5 : MRaw cy N ad g_4 q_6 (nI lg.length) (nI T) tD := by rw [eq_6]; exact hRD.put (by decide) (by decide) (fun k hk => by rw [eg_4, va_up_n hk]) (by rw [eg_4]; exact va_up_s)
        refine lv_iload_n jx jb dX9_chosen_23 rfl (lv_at hl 1 rfl) ?_
        refine lv_aload_n jx jb dX9_chosen_24 rfl (lv_at hl 0 rfl) ?_
        have m7 : g_4 63 = .inr (9, [.ref (ad 64), .ref (ad 65), .ref (ad 66), .ref (ad 67), .int (nI lg.length), .ref (ad 68), .ref (ad 69), .ref (ad 70), .ref (ad 71), .ref (ad 72), .int (nI T), .ref (ad 73), .ref (ad 74), .ref (ad 75), .ref (ad 76), .ref (ad 77), .ref (ad 78), .ref (ad 79), .ref (ad 80), .int tD, .ref (ad 81), .ref (ad 82)]) := hR5.2.1
        refine w_get X hW K9 (by omega) m7 21 (by decide) fl_X9_65 rfl dX9_chosen_25 ?_
        refine lv_iload_n jx jb dX9_chosen_28 rfl (lv_at hl 2 rfl) ?_
        have m8 : g_4 82 = .inl (cy 0, 12, .inl (q_6 82)) := hR5.2.2 82 (by decide) (by decide)
        refine w_ild X hW (by omega) m8 k rfl (by omega) (by decide) dX9_chosen_29 ?_
        refine top_eq (y := mtT M (y k)) (by rw [eq_6, va_up_s, pk_us]) ?_
        refine lv_ior jx jb dX9_chosen_30 ?_
        refine top_eq (y := orK (fun i => mtT M (y i)) (k + 1)) (rfl) ?_
        refine lv_istore_n (lv' := [(1, .int (orK (fun i => mtT M (y i)) (k + 1))), (0, .ref (ad 63)), (2, .int (nI k))]) jx jb dX9_chosen_31 rfl hl (by decide) rfl (fun ls hl => ?_)
        refine lv_iinc (v := nI (k + 1)) (lv' := [(2, .int (nI (k + 1))), (1, .int (orK (fun i => mtT M (y i)) (k + 1))), (0, .ref (ad 63))]) jx jb dX9_chosen_32 hl (k := 2) rfl (show nI k + 1 = nI (k + 1) from nI_1 _) (by decide) rfl (fun ls hl => ?_)
        refine lv_goto (tgt := 4) jx jb dX9_chosen_35 (by decide) ?_
        exact ih4 (k + 1) _ q_6 g_4 _ _ _ hR5 (fun k hk => by show g_4 k = _; rw [eg_4, va_up_n (by omega), frD k hk, hfr4 k hk]) (by omega) (fun a h1 h2 => by rw [eq_6, va_up_n h2, hsD a h1]; exact hsm a h1 h2) (fun i hi => by rw [eq_6, va_up_s]; by_cases z : i = k; (rw [z, pk_us]); (rw [pk_un z, hsD 82 (by decide)]; exact hfm i (by omega)))  (by omega) hW (lv_sub hl [2, 1, 0] rfl)
  exact loop4 _ 0 _ q g _ _ _ hR (fun k hk => by show g k = _; rfl) (by omega) (fun a _ _ => rfl) (fun i hi => absurd hi (by omega))  (Nat.lt_succ_self _) hW (lv_sub hl [2, 1, 0] rfl)

set_option maxHeartbeats 4000000 in
set_option maxRecDepth 100000 in
theorem c_mFewest {l : Launch} {G : va_G} {cy : Nat → ClassId} {N : Nat} {ad : Nat → Nat} {g : Nat → va_E} {M : M4} {lg : List Nat} {lr lt : Nat → Int32} {st T : Nat} {y : Nat → TT} (hMA : MAt cy N ad g M lg lr lt st T y) : MI l G cy (N, ad, g) yX9_fewest cX9_fewest 1 (some .int) (rmN 4) [.ref (ad 63)] (nA N ad (fun v g1 => v = nI (pc2 (lhC (fun i => mtT M (y i)) T (2 ^ T))) ∧ MAt cy N ad g1 M lg lr lt st T y ∧ ∀ k, ¬ (63 ≤ k ∧ k < 83) → g1 k = g k)) := by
  refine NI.mk (by decide) (by intros; first | rfl | (simp_all; done)) (Nat.le_of_ble_eq_true rfl) ?_
  intro jp je js jm below meth jc A Q X hW ret ls hl
  have jx := X.hx
  have jb := X.hb
  have hl : lv_has ls 1 [(0, .ref (ad 63))] := hl
  have X : Cx G cy jp js jm _ jc cX9_fewest 1 RX9 A js.heap := X
  obtain ⟨q, to, hR, hok, hQ, hL, hst, hS4, hT12, hQT⟩ := id hMA
  have h83 : 83 ≤ N := hR.1
  have hl200 := hL.1
  refine lv_aload_n jx jb dX9_fewest_0 rfl (lv_at hl 0 rfl) ?_
  have m1 : g 63 = .inr (9, [.ref (ad 64), .ref (ad 65), .ref (ad 66), .ref (ad 67), .int (nI lg.length), .ref (ad 68), .ref (ad 69), .ref (ad 70), .ref (ad 71), .ref (ad 72), .int (nI T), .ref (ad 73), .ref (ad 74), .ref (ad 75), .ref (ad 76), .ref (ad 77), .ref (ad 78), .ref (ad 79), .ref (ad 80), .int to, .ref (ad 81), .ref (ad 82)]) := hR.2.1
  refine w_nV (As := []) X hW (c_mChosen hMA) (by omega) m1 rfl rfl ml_X9_140 mf_X9_chosen ⟨Nat.le_of_ble_eq_true rfl, Nat.le_of_ble_eq_true rfl⟩ hl.1 rfl (Nat.le_of_ble_eq_true rfl) ⟨Nat.le_of_ble_eq_true rfl, Nat.le_of_ble_eq_true rfl⟩ dX9_fewest_1 (fun rD gD H locs hp hW => ?_)
  obtain ⟨er, hMD, frD⟩ := hp
  refine top_eq (y := nI (lhC (fun i => mtT M (y i)) T (2 ^ T))) (er) ?_
  refine w_rS (As := [.int (nI (lhC (fun i => mtT M (y i)) T (2 ^ T)))]) X hW (c_bits (lhC_lt hT12 (Nat.le_refl _))) ml_X9_137 mf_X9_bits ⟨Nat.le_of_ble_eq_true rfl, Nat.le_of_ble_eq_true rfl⟩ hl.1 rfl (Nat.le_of_ble_eq_true rfl) ⟨Nat.le_of_ble_eq_true rfl, Nat.le_of_ble_eq_true rfl⟩ dX9_fewest_4 (fun H locs hW => ?_)
  exact ret _ _ _ _ _ _ dX9_fewest_7 hW ⟨rfl, hMD, frD⟩

set_option maxHeartbeats 4000000 in
set_option maxRecDepth 100000 in
theorem c_mDropNo {l : Launch} {G : va_G} {cy : Nat → ClassId} {N : Nat} {ad : Nat → Nat} {g : Nat → va_E} {M : M4} {lg : List Nat} {lr lt : Nat → Int32} {st T : Nat} {y : Nat → TT} {v : Int32} (hMA : MAt cy N ad g M lg lr lt st T y) (hno : ¬ (0 ≤ v ∧ v < nI T)) : RI l G cy (N, ad, g) yX9_drop cX9_drop 4 (some .boolean) (rmN 2) [.ref (ad 63), .int v] 0 := by
  refine RI.mk (by decide) (by first | rfl | exact bI_nar) (Nat.le_of_ble_eq_true rfl) ?_
  intro jp je js jm below meth jc A Q X hW ret ls hl
  have jx := X.hx
  have jb := X.hb
  have hl : lv_has ls 4 [(0, .ref (ad 63)), (1, .int v)] := hl
  have X : Cx G cy jp js jm _ jc cX9_drop 4 RX9 A js.heap := X
  obtain ⟨q, to, hR, hok, hQ, hL, hst, hS4, hT12, hQT⟩ := id hMA
  have h83 : 83 ≤ N := hR.1
  have hl200 := hL.1
  refine lv_aload_n jx jb dX9_drop_0 rfl (lv_at hl 0 rfl) ?_
  refine lv_iload_n jx jb dX9_drop_1 rfl (lv_at hl 1 rfl) ?_
  have m1 : g 63 = .inr (9, [.ref (ad 64), .ref (ad 65), .ref (ad 66), .ref (ad 67), .int (nI lg.length), .ref (ad 68), .ref (ad 69), .ref (ad 70), .ref (ad 71), .ref (ad 72), .int (nI T), .ref (ad 73), .ref (ad 74), .ref (ad 75), .ref (ad 76), .ref (ad 77), .ref (ad 78), .ref (ad 79), .ref (ad 80), .int to, .ref (ad 81), .ref (ad 82)]) := hR.2.1
  refine w_rV (As := [.int v]) X hW (c_isTest hR hT12) (by omega) m1 rfl rfl ml_X9_121 mf_X9_isTest ⟨Nat.le_of_ble_eq_true rfl, Nat.le_of_ble_eq_true rfl⟩ hl.1 rfl (Nat.le_of_ble_eq_true rfl) ⟨Nat.le_of_ble_eq_true rfl, Nat.le_of_ble_eq_true rfl⟩ dX9_drop_2 (fun H locs hW => ?_)
  refine lv_if_ne (tgt := 10) jx jb dX9_drop_5 (by decide) (fun c5 => ?_) (fun c5 => ?_)
  · exact absurd (bI_n0.mp c5) hno
  · refine lv_iconst (v := 0) jx jb dX9_drop_8 (by decide) ?_
    exact ret _ _ _ _ _ dX9_drop_9 hW rfl

theorem QT.drop {q r : Nat → Nat → Int32} {i t T m : Nat} {y : Nat → TT} (hQT : ∀ i, i < T → QT q i (y i)) (ht : t + 1 = T) (hm : m < T - 1) (hT : T ≤ 12) (d73 : ∀ m, m < 12 → r 73 m = if i ≤ m ∧ m < t then q 73 (m + 1) else q 73 m) (d74 : ∀ m, m < 12 → ∀ k, k < 200 → r 74 (200 * m + k) = if i ≤ m ∧ m < t then q 74 (200 * (m + 1) + k) else q 74 (200 * m + k)) (d75 : ∀ m, m < 12 → ∀ k, k < 200 → r 75 (200 * m + k) = if i ≤ m ∧ m < t then q 75 (200 * (m + 1) + k) else q 75 (200 * m + k)) (d76 : ∀ m, m < 12 → ∀ k, k < 200 → r 76 (200 * m + k) = if i ≤ m ∧ m < t then q 76 (200 * (m + 1) + k) else q 76 (200 * m + k)) (d77 : ∀ m, m < 12 → r 77 m = if i ≤ m ∧ m < t then q 77 (m + 1) else q 77 m) (d78 : ∀ m, m < 12 → r 78 m = if i ≤ m ∧ m < t then q 78 (m + 1) else q 78 m) (d79 : ∀ m, m < 12 → r 79 m = if i ≤ m ∧ m < t then q 79 (m + 1) else q 79 m) : QT r m (if i ≤ m then y (m + 1) else y m) := by
  by_cases e : i ≤ m
  · rw [if_pos e]
    obtain ⟨⟨a1, a2, a3⟩, b, c, d, f, g, n⟩ := hQT (m + 1) (by omega)
    refine ⟨⟨a1, a2, fun k hk => ?_⟩, ?_, fun k hk => ?_, ?_, ?_, ?_, n⟩
    · rw [d74 m (by omega) k (by omega), d75 m (by omega) k (by omega), if_pos (by omega), if_pos (by omega)]; exact a3 k hk
    · rw [d73 m (by omega), if_pos (by omega)]; exact b
    · rw [d76 m (by omega) k (by omega), if_pos (by omega)]; exact c k hk
    · rw [d77 m (by omega), if_pos (by omega)]; exact d
    · rw [d78 m (by omega), if_pos (by omega)]; exact f
    · rw [d79 m (by omega), if_pos (by omega)]; exact g
  · rw [if_neg e]
    obtain ⟨⟨a1, a2, a3⟩, b, c, d, f, g, n⟩ := hQT m (by omega)
    refine ⟨⟨a1, a2, fun k hk => ?_⟩, ?_, fun k hk => ?_, ?_, ?_, ?_, n⟩
    · rw [d74 m (by omega) k (by omega), d75 m (by omega) k (by omega), if_neg (by omega), if_neg (by omega)]; exact a3 k hk
    · rw [d73 m (by omega), if_neg (by omega)]; exact b
    · rw [d76 m (by omega) k (by omega), if_neg (by omega)]; exact c k hk
    · rw [d77 m (by omega), if_neg (by omega)]; exact d
    · rw [d78 m (by omega), if_neg (by omega)]; exact f
    · rw [d79 m (by omega), if_neg (by omega)]; exact g

set_option maxHeartbeats 4000000 in
set_option maxRecDepth 100000 in
theorem c_mDrop {l : Launch} {G : va_G} {cy : Nat → ClassId} {N : Nat} {ad : Nat → Nat} {g : Nat → va_E} {M : M4} {lg : List Nat} {lr lt : Nat → Int32} {st T : Nat} {y : Nat → TT} {i : Nat} (hMA : MAt cy N ad g M lg lr lt st T y) (hiT : i < T) : MI l G cy (N, ad, g) yX9_drop cX9_drop 4 (some .boolean) (rmN 2) [.ref (ad 63), .int (nI i)] (nA N ad (fun v g1 => v = 1 ∧ MAt cy N ad g1 M lg lr lt st (T - 1) (fun m => if i ≤ m then y (m + 1) else y m) ∧ ∀ k, ¬ (63 ≤ k ∧ k < 83) → g1 k = g k)) := by
  refine NI.mk (by decide) (by intro v g1 h; rw [h.1]; decide) (Nat.le_of_ble_eq_true rfl) ?_
  intro jp je js jm below meth jc A Q X hW ret ls hl
  have jx := X.hx
  have jb := X.hb
  have hl : lv_has ls 4 [(0, .ref (ad 63)), (1, .int (nI i))] := hl
  have X : Cx G cy jp js jm _ jc cX9_drop 4 RX9 A js.heap := X
  obtain ⟨q, to, hR, hok, hQ, hL, hst, hS4, hT12, hQT⟩ := id hMA
  have h83 : 83 ≤ N := hR.1
  have hl200 := hL.1
  refine lv_aload_n jx jb dX9_drop_0 rfl (lv_at hl 0 rfl) ?_
  refine lv_iload_n jx jb dX9_drop_1 rfl (lv_at hl 1 rfl) ?_
  have m1 : g 63 = .inr (9, [.ref (ad 64), .ref (ad 65), .ref (ad 66), .ref (ad 67), .int (nI lg.length), .ref (ad 68), .ref (ad 69), .ref (ad 70), .ref (ad 71), .ref (ad 72), .int (nI T), .ref (ad 73), .ref (ad 74), .ref (ad 75), .ref (ad 76), .ref (ad 77), .ref (ad 78), .ref (ad 79), .ref (ad 80), .int to, .ref (ad 81), .ref (ad 82)]) := hR.2.1
  refine w_rV (As := [.int (nI i)]) X hW (c_isTest hR hT12) (by omega) m1 rfl rfl ml_X9_121 mf_X9_isTest ⟨Nat.le_of_ble_eq_true rfl, Nat.le_of_ble_eq_true rfl⟩ hl.1 rfl (Nat.le_of_ble_eq_true rfl) ⟨Nat.le_of_ble_eq_true rfl, Nat.le_of_ble_eq_true rfl⟩ dX9_drop_2 (fun H locs hW => ?_)
  refine lv_if_ne (tgt := 10) jx jb dX9_drop_5 (by decide) (fun c5 => ?_) (fun c5 => ?_)
  · refine lv_iload_n jx jb dX9_drop_10 rfl (lv_at hl 1 rfl) ?_
    refine lv_istore_n (lv' := [(2, .int (nI i)), (0, .ref (ad 63)), (1, .int (nI i))]) jx jb dX9_drop_11 rfl hl (by decide) rfl (fun ls hl => ?_)
    have loop12 : ∀ (fuel12 : Nat) (t : Nat) (qL12 : Nat → Nat → Int32) (gL12 : Nat → va_E) (H : Heap) (locs : List Loc) (ls : Array Slot), (MRaw cy N ad gL12 qL12 (nI lg.length) (nI T) to) → (∀ k, ¬ (63 ≤ k ∧ k < 83) → gL12 k = g k) → (i ≤ t) → (t + 1 ≤ T) → (∀ a, a ≠ 73 → a ≠ 74 → a ≠ 75 → a ≠ 76 → a ≠ 77 → a ≠ 78 → a ≠ 79 → qL12 a = q a) → (∀ m, m < 12 → qL12 73 m = if i ≤ m ∧ m < t then q 73 (m + 1) else q 73 m) → (∀ m, m < 12 → qL12 77 m = if i ≤ m ∧ m < t then q 77 (m + 1) else q 77 m) → (∀ m, m < 12 → qL12 78 m = if i ≤ m ∧ m < t then q 78 (m + 1) else q 78 m) → (∀ m, m < 12 → qL12 79 m = if i ≤ m ∧ m < t then q 79 (m + 1) else q 79 m) → (∀ m, m < 12 → ∀ k, k < 200 → qL12 74 (200 * m + k) = if i ≤ m ∧ m < t then q 74 (200 * (m + 1) + k) else q 74 (200 * m + k)) → (∀ m, m < 12 → ∀ k, k < 200 → qL12 75 (200 * m + k) = if i ≤ m ∧ m < t then q 75 (200 * (m + 1) + k) else q 75 (200 * m + k)) → (∀ m, m < 12 → ∀ k, k < 200 → qL12 76 (200 * m + k) = if i ≤ m ∧ m < t then q 76 (200 * (m + 1) + k) else q 76 (200 * m + k)) → T - t < fuel12 → Wd G A js.heap (N, ad, gL12) H locs → lv_has ls 4 [(0, .ref (ad 63)), (1, .int (nI i)), (2, .int (nI t))] → W jp l je (rmN 2) js jm [.ref (ad 63), .int (nI i)].toArray below meth jc H locs 0 0 Q (F0 jm 12 ls []) := by
      intro fuel12
      induction fuel12 with
      | zero => intro t qL12 gL12 H locs ls hR12 hfr12 hit ht hsm d73 d77 d78 d79 d74 d75 d76  hm12; exact absurd hm12 (Nat.not_lt_zero _)
      | succ fuel12 ih12 =>
        intro t qL12 gL12 H locs ls hR12 hfr12 hit ht hsm d73 d77 d78 d79 d74 d75 d76  hm12 hW hl
        refine lv_iload_n jx jb dX9_drop_12 rfl (lv_at hl 2 rfl) ?_
        refine lv_iconst (v := 1) jx jb dX9_drop_13 (by decide) ?_
        refine lv_iadd jx jb dX9_drop_14 ?_
        refine top_eq (y := nI (t + 1)) (nI_1 _) ?_
        refine lv_aload_n jx jb dX9_drop_15 rfl (lv_at hl 0 rfl) ?_
        have m2 : gL12 63 = .inr (9, [.ref (ad 64), .ref (ad 65), .ref (ad 66), .ref (ad 67), .int (nI lg.length), .ref (ad 68), .ref (ad 69), .ref (ad 70), .ref (ad 71), .ref (ad 72), .int (nI T), .ref (ad 73), .ref (ad 74), .ref (ad 75), .ref (ad 76), .ref (ad 77), .ref (ad 78), .ref (ad 79), .ref (ad 80), .int to, .ref (ad 81), .ref (ad 82)]) := hR12.2.1
        refine w_get X hW K9 (by omega) m2 10 (by decide) fl_X9_83 rfl dX9_drop_16 ?_
        refine lv_icmp_ge (tgt := 183) jx jb dX9_drop_19 (by decide) (fun c19 => ?_) (fun c19 => ?_)
        · refine lv_aload_n jx jb dX9_drop_183 rfl (lv_at hl 0 rfl) ?_
          refine lv_dup jx jb dX9_drop_184 rfl ?_
          refine w_get X hW K9 (by omega) m2 10 (by decide) fl_X9_83 rfl dX9_drop_185 ?_
          refine lv_iconst (v := 1) jx jb dX9_drop_188 (by decide) ?_
          refine lv_isub jx jb dX9_drop_189 ?_
          refine top_eq (y := nI (T - 1)) (pk_sub (b := 1) (by omega)) ?_
          refine w_put X hW K9 (by omega) m2 10 (by decide) fl_X9_83 rfl rfl rfl (Nat.le_of_ble_eq_true rfl) dX9_drop_190 (fun H locs hW => ?_)
          obtain ⟨g_3, eg_3⟩ : ∃ zz, zz = va_up gL12 63 (.inr (9, [.ref (ad 64), .ref (ad 65), .ref (ad 66), .ref (ad 67), .int (nI lg.length), .ref (ad 68), .ref (ad 69), .ref (ad 70), .ref (ad 71), .ref (ad 72), .int (nI (T - 1)), .ref (ad 73), .ref (ad 74), .ref (ad 75), .ref (ad 76), .ref (ad 77), .ref (ad 78), .ref (ad 79), .ref (ad 80), .int to, .ref (ad 81), .ref (ad 82)])) := ⟨_, rfl⟩
          have hW : Wd G A js.heap (N, ad, g_3) H locs := by rw [eg_3]; exact hW
          have hR4 : MRaw cy N ad g_3 qL12 (nI lg.length) (nI (T - 1)) to := hR12.put63 (fun k hk => by rw [eg_3, va_up_n hk]) (by rw [eg_3]; exact va_up_s)
          refine lv_iconst (v := 1) jx jb dX9_drop_193 (by decide) ?_
          exact ret _ _ _ _ _ _ dX9_drop_194 hW (by have hge := n_le (by omega) (by omega) c19; have hte : t + 1 = T := (by omega); exact ⟨rfl, ⟨_, _, hR4, hok, hQ.of (fun a h1 h2 => hsm a (by omega) (by omega) (by omega) (by omega) (by omega) (by omega) (by omega)), hL.of (fun a h1 h2 => hsm a (by omega) (by omega) (by omega) (by omega) (by omega) (by omega) (by omega)), hst, (fun j hj => by rw [hsm 72 (by decide) (by decide) (by decide) (by decide) (by decide) (by decide) (by decide)]; exact hS4 j hj), (by omega), fun m hm => QT.drop (i := i) (t := t) hQT (by omega) (by omega) hT12 d73 d74 d75 d76 d77 d78 d79⟩, (fun k hk => by show g_3 k = _; rw [eg_3, va_up_n (by omega), hfr12 k hk])⟩)
        · have hlt : t + 1 < T := n_nle (by omega) (by omega) c19
          refine lv_aload_n jx jb dX9_drop_22 rfl (lv_at hl 0 rfl) ?_
          refine w_get X hW K9 (by omega) m2 11 (by decide) fl_X9_37 rfl dX9_drop_23 ?_
          refine lv_iload_n jx jb dX9_drop_26 rfl (lv_at hl 2 rfl) ?_
          refine lv_aload_n jx jb dX9_drop_27 rfl (lv_at hl 0 rfl) ?_
          refine w_get X hW K9 (by omega) m2 11 (by decide) fl_X9_37 rfl dX9_drop_28 ?_
          refine lv_iload_n jx jb dX9_drop_31 rfl (lv_at hl 2 rfl) ?_
          refine lv_iconst (v := 1) jx jb dX9_drop_32 (by decide) ?_
          refine lv_iadd jx jb dX9_drop_33 ?_
          refine top_eq (y := nI (t + 1)) (nI_1 _) ?_
          have m5 : gL12 73 = .inl (cy 0, 12, .inl (qL12 73)) := hR12.2.2 73 (by decide) (by decide)
          refine w_ild X hW (by omega) m5 (t + 1) rfl (by omega) (by decide) dX9_drop_34 ?_
          refine top_eq (y := q 73 (t + 1)) (by rw [d73 (t + 1) (by omega), if_neg (by omega)]) ?_
          refine w_ist X hW (by omega) m5 t rfl (by omega) (by decide) dX9_drop_35 (fun H locs hW => ?_)
          obtain ⟨g_6, eg_6⟩ : ∃ zz, zz = va_up gL12 73 (.inl (cy 0, 12, .inl (upd (qL12 73) t (q 73 (t + 1))))) := ⟨_, rfl⟩
          have hW : Wd G A js.heap (N, ad, g_6) H locs := by rw [eg_6]; exact hW
          obtain ⟨q_8, eq_8⟩ : ∃ zz, zz = va_up qL12 73 (upd (qL12 73) t (q 73 (t + 1))) := ⟨_, rfl⟩
          have hR7 : MRaw cy N ad g_6 q_8 (nI lg.length) (nI T) to := by rw [eq_8]; exact hR12.put (by decide) (by decide) (fun k hk => by rw [eg_6, va_up_n hk]) (by rw [eg_6]; exact va_up_s)
          refine lv_aload_n jx jb dX9_drop_36 rfl (lv_at hl 0 rfl) ?_
          have m9 : g_6 63 = .inr (9, [.ref (ad 64), .ref (ad 65), .ref (ad 66), .ref (ad 67), .int (nI lg.length), .ref (ad 68), .ref (ad 69), .ref (ad 70), .ref (ad 71), .ref (ad 72), .int (nI T), .ref (ad 73), .ref (ad 74), .ref (ad 75), .ref (ad 76), .ref (ad 77), .ref (ad 78), .ref (ad 79), .ref (ad 80), .int to, .ref (ad 81), .ref (ad 82)]) := hR7.2.1
          refine w_get X hW K9 (by omega) m9 15 (by decide) fl_X9_49 rfl dX9_drop_37 ?_
          refine lv_iload_n jx jb dX9_drop_40 rfl (lv_at hl 2 rfl) ?_
          refine lv_aload_n jx jb dX9_drop_41 rfl (lv_at hl 0 rfl) ?_
          refine w_get X hW K9 (by omega) m9 15 (by decide) fl_X9_49 rfl dX9_drop_42 ?_
          refine lv_iload_n jx jb dX9_drop_45 rfl (lv_at hl 2 rfl) ?_
          refine lv_iconst (v := 1) jx jb dX9_drop_46 (by decide) ?_
          refine lv_iadd jx jb dX9_drop_47 ?_
          refine top_eq (y := nI (t + 1)) (nI_1 _) ?_
          have m10 : g_6 77 = .inl (cy 0, 12, .inl (q_8 77)) := hR7.2.2 77 (by decide) (by decide)
          refine w_ild X hW (by omega) m10 (t + 1) rfl (by omega) (by decide) dX9_drop_48 ?_
          refine top_eq (y := q 77 (t + 1)) (by rw [eq_8, va_up_n (by decide)]; rw [d77 (t + 1) (by omega), if_neg (by omega)]) ?_
          refine w_ist X hW (by omega) m10 t rfl (by omega) (by decide) dX9_drop_49 (fun H locs hW => ?_)
          obtain ⟨g_11, eg_11⟩ : ∃ zz, zz = va_up g_6 77 (.inl (cy 0, 12, .inl (upd (q_8 77) t (q 77 (t + 1))))) := ⟨_, rfl⟩
          have hW : Wd G A js.heap (N, ad, g_11) H locs := by rw [eg_11]; exact hW
          obtain ⟨q_13, eq_13⟩ : ∃ zz, zz = va_up q_8 77 (upd (q_8 77) t (q 77 (t + 1))) := ⟨_, rfl⟩
          have hR12 : MRaw cy N ad g_11 q_13 (nI lg.length) (nI T) to := by rw [eq_13]; exact hR7.put (by decide) (by decide) (fun k hk => by rw [eg_11, va_up_n hk]) (by rw [eg_11]; exact va_up_s)
          refine lv_aload_n jx jb dX9_drop_50 rfl (lv_at hl 0 rfl) ?_
          have m14 : g_11 63 = .inr (9, [.ref (ad 64), .ref (ad 65), .ref (ad 66), .ref (ad 67), .int (nI lg.length), .ref (ad 68), .ref (ad 69), .ref (ad 70), .ref (ad 71), .ref (ad 72), .int (nI T), .ref (ad 73), .ref (ad 74), .ref (ad 75), .ref (ad 76), .ref (ad 77), .ref (ad 78), .ref (ad 79), .ref (ad 80), .int to, .ref (ad 81), .ref (ad 82)]) := hR12.2.1
          refine w_get X hW K9 (by omega) m14 16 (by decide) fl_X9_52 rfl dX9_drop_51 ?_
          refine lv_iload_n jx jb dX9_drop_54 rfl (lv_at hl 2 rfl) ?_
          refine lv_aload_n jx jb dX9_drop_55 rfl (lv_at hl 0 rfl) ?_
          refine w_get X hW K9 (by omega) m14 16 (by decide) fl_X9_52 rfl dX9_drop_56 ?_
          refine lv_iload_n jx jb dX9_drop_59 rfl (lv_at hl 2 rfl) ?_
          refine lv_iconst (v := 1) jx jb dX9_drop_60 (by decide) ?_
          refine lv_iadd jx jb dX9_drop_61 ?_
          refine top_eq (y := nI (t + 1)) (nI_1 _) ?_
          have m15 : g_11 78 = .inl (cy 1, 12, .inl (q_13 78)) := hR12.2.2 78 (by decide) (by decide)
          refine w_zld X hW (by omega) m15 (t + 1) rfl (by omega) (by decide) dX9_drop_62 ?_
          refine top_eq (y := q 78 (t + 1)) (by rw [eq_13, va_up_n (by decide), eq_8, va_up_n (by decide)]; rw [d78 (t + 1) (by omega), if_neg (by omega)]) ?_
          refine w_zst X hW (by omega) m15 t rfl (by omega) (by decide) (by have := (hQT (t + 1) (by omega)).2.2.2.2.1; rw [this]; exact bI_01) dX9_drop_63 (fun H locs hW => ?_)
          obtain ⟨g_16, eg_16⟩ : ∃ zz, zz = va_up g_11 78 (.inl (cy 1, 12, .inl (upd (q_13 78) t (q 78 (t + 1))))) := ⟨_, rfl⟩
          have hW : Wd G A js.heap (N, ad, g_16) H locs := by rw [eg_16]; exact hW
          obtain ⟨q_18, eq_18⟩ : ∃ zz, zz = va_up q_13 78 (upd (q_13 78) t (q 78 (t + 1))) := ⟨_, rfl⟩
          have hR17 : MRaw cy N ad g_16 q_18 (nI lg.length) (nI T) to := by rw [eq_18]; exact hR12.put (by decide) (by decide) (fun k hk => by rw [eg_16, va_up_n hk]) (by rw [eg_16]; exact va_up_s)
          refine lv_aload_n jx jb dX9_drop_64 rfl (lv_at hl 0 rfl) ?_
          have m19 : g_16 63 = .inr (9, [.ref (ad 64), .ref (ad 65), .ref (ad 66), .ref (ad 67), .int (nI lg.length), .ref (ad 68), .ref (ad 69), .ref (ad 70), .ref (ad 71), .ref (ad 72), .int (nI T), .ref (ad 73), .ref (ad 74), .ref (ad 75), .ref (ad 76), .ref (ad 77), .ref (ad 78), .ref (ad 79), .ref (ad 80), .int to, .ref (ad 81), .ref (ad 82)]) := hR17.2.1
          refine w_get X hW K9 (by omega) m19 17 (by decide) fl_X9_56 rfl dX9_drop_65 ?_
          refine lv_iload_n jx jb dX9_drop_68 rfl (lv_at hl 2 rfl) ?_
          refine lv_aload_n jx jb dX9_drop_69 rfl (lv_at hl 0 rfl) ?_
          refine w_get X hW K9 (by omega) m19 17 (by decide) fl_X9_56 rfl dX9_drop_70 ?_
          refine lv_iload_n jx jb dX9_drop_73 rfl (lv_at hl 2 rfl) ?_
          refine lv_iconst (v := 1) jx jb dX9_drop_74 (by decide) ?_
          refine lv_iadd jx jb dX9_drop_75 ?_
          refine top_eq (y := nI (t + 1)) (nI_1 _) ?_
          have m20 : g_16 79 = .inl (cy 1, 12, .inl (q_18 79)) := hR17.2.2 79 (by decide) (by decide)
          refine w_zld X hW (by omega) m20 (t + 1) rfl (by omega) (by decide) dX9_drop_76 ?_
          refine top_eq (y := q 79 (t + 1)) (by rw [eq_18, va_up_n (by decide), eq_13, va_up_n (by decide), eq_8, va_up_n (by decide)]; rw [d79 (t + 1) (by omega), if_neg (by omega)]) ?_
          refine w_zst X hW (by omega) m20 t rfl (by omega) (by decide) (by have := (hQT (t + 1) (by omega)).2.2.2.2.2.1; rw [this]; exact bI_01) dX9_drop_77 (fun H locs hW => ?_)
          obtain ⟨g_21, eg_21⟩ : ∃ zz, zz = va_up g_16 79 (.inl (cy 1, 12, .inl (upd (q_18 79) t (q 79 (t + 1))))) := ⟨_, rfl⟩
          have hW : Wd G A js.heap (N, ad, g_21) H locs := by rw [eg_21]; exact hW
          obtain ⟨q_23, eq_23⟩ : ∃ zz, zz = va_up q_18 79 (upd (q_18 79) t (q 79 (t + 1))) := ⟨_, rfl⟩
          have hR22 : MRaw cy N ad g_21 q_23 (nI lg.length) (nI T) to := by rw [eq_23]; exact hR17.put (by decide) (by decide) (fun k hk => by rw [eg_21, va_up_n hk]) (by rw [eg_21]; exact va_up_s)
          refine lv_iconst (v := 0) jx jb dX9_drop_78 (by decide) ?_
          refine lv_istore_n (lv' := [(3, .int 0), (0, .ref (ad 63)), (1, .int (nI i)), (2, .int (nI t))]) jx jb dX9_drop_79 rfl hl (by decide) rfl (fun ls hl => ?_)
          have loop80 : ∀ (fuel80 : Nat) (k : Nat) (qL80 : Nat → Nat → Int32) (gL80 : Nat → va_E) (H : Heap) (locs : List Loc) (ls : Array Slot), (MRaw cy N ad gL80 qL80 (nI lg.length) (nI T) to) → (∀ k, ¬ (63 ≤ k ∧ k < 83) → gL80 k = g k) → (k ≤ 200) → (∀ a, a ≠ 73 → a ≠ 74 → a ≠ 75 → a ≠ 76 → a ≠ 77 → a ≠ 78 → a ≠ 79 → qL80 a = q a) → (∀ m, m < 12 → qL80 73 m = if i ≤ m ∧ m < (t + 1) then q 73 (m + 1) else q 73 m) → (∀ m, m < 12 → qL80 77 m = if i ≤ m ∧ m < (t + 1) then q 77 (m + 1) else q 77 m) → (∀ m, m < 12 → qL80 78 m = if i ≤ m ∧ m < (t + 1) then q 78 (m + 1) else q 78 m) → (∀ m, m < 12 → qL80 79 m = if i ≤ m ∧ m < (t + 1) then q 79 (m + 1) else q 79 m) → (∀ m, m < 12 → ∀ j, j < 200 → qL80 74 (200 * m + j) = if (i ≤ m ∧ m < t) ∨ (m = t ∧ j < k) then q 74 (200 * (m + 1) + j) else q 74 (200 * m + j)) → (∀ m, m < 12 → ∀ j, j < 200 → qL80 75 (200 * m + j) = if (i ≤ m ∧ m < t) ∨ (m = t ∧ j < k) then q 75 (200 * (m + 1) + j) else q 75 (200 * m + j)) → (∀ m, m < 12 → ∀ j, j < 200 → qL80 76 (200 * m + j) = if (i ≤ m ∧ m < t) ∨ (m = t ∧ j < k) then q 76 (200 * (m + 1) + j) else q 76 (200 * m + j)) → 200 - k < fuel80 → Wd G A js.heap (N, ad, gL80) H locs → lv_has ls 4 [(0, .ref (ad 63)), (1, .int (nI i)), (2, .int (nI t)), (3, .int (nI k))] → W jp l je (rmN 2) js jm [.ref (ad 63), .int (nI i)].toArray below meth jc H locs 0 0 Q (F0 jm 80 ls []) := by
            intro fuel80
            induction fuel80 with
            | zero => intro k qL80 gL80 H locs ls hR80 hfr80 hk hsm d73 d77 d78 d79 d74 d75 d76  hm80; exact absurd hm80 (Nat.not_lt_zero _)
            | succ fuel80 ih80 =>
              intro k qL80 gL80 H locs ls hR80 hfr80 hk hsm d73 d77 d78 d79 d74 d75 d76  hm80 hW hl
              refine lv_iload_n jx jb dX9_drop_80 rfl (lv_at hl 3 rfl) ?_
              refine lv_sipush (v := 200) jx jb dX9_drop_81 (by decide) ?_
              refine lv_icmp_ge (tgt := 177) jx jb dX9_drop_84 (by decide) (fun c84 => ?_) (fun c84 => ?_)
              · have hk2 := n_le (a := 200) (by decide) (by omega) c84
                refine lv_iinc (v := nI (t + 1)) (lv' := [(2, .int (nI (t + 1))), (0, .ref (ad 63)), (1, .int (nI i)), (3, .int (nI k))]) jx jb dX9_drop_177 hl (k := 2) rfl (show nI t + 1 = nI (t + 1) from nI_1 _) (by decide) rfl (fun ls hl => ?_)
                refine lv_goto (tgt := 12) jx jb dX9_drop_180 (by decide) ?_
                exact ih12 (t + 1) qL80 gL80 _ _ _ hR80 (fun k hk => by show gL80 k = _; rw [hfr80 k hk]) (by omega) (by omega) hsm d73 d77 d78 d79 (fun m hm k hk => by rw [d74 m hm k hk]; by_cases z : i ≤ m ∧ m < t + 1; (rw [if_pos z, if_pos (by omega)]); (rw [if_neg z, if_neg (by omega)])) (fun m hm k hk => by rw [d75 m hm k hk]; by_cases z : i ≤ m ∧ m < t + 1; (rw [if_pos z, if_pos (by omega)]); (rw [if_neg z, if_neg (by omega)])) (fun m hm k hk => by rw [d76 m hm k hk]; by_cases z : i ≤ m ∧ m < t + 1; (rw [if_pos z, if_pos (by omega)]); (rw [if_neg z, if_neg (by omega)]))  (by omega) hW (lv_sub hl [1, 2, 0] rfl)
              · have hk2 : k < 200 := n_nle (a := 200) (by decide) (by omega) c84
                refine lv_aload_n jx jb dX9_drop_87 rfl (lv_at hl 0 rfl) ?_
                have m24 : gL80 63 = .inr (9, [.ref (ad 64), .ref (ad 65), .ref (ad 66), .ref (ad 67), .int (nI lg.length), .ref (ad 68), .ref (ad 69), .ref (ad 70), .ref (ad 71), .ref (ad 72), .int (nI T), .ref (ad 73), .ref (ad 74), .ref (ad 75), .ref (ad 76), .ref (ad 77), .ref (ad 78), .ref (ad 79), .ref (ad 80), .int to, .ref (ad 81), .ref (ad 82)]) := hR80.2.1
                refine w_get X hW K9 (by omega) m24 12 (by decide) fl_X9_40 rfl dX9_drop_88 ?_
                refine lv_sipush (v := 200) jx jb dX9_drop_91 (by decide) ?_
                refine lv_iload_n jx jb dX9_drop_94 rfl (lv_at hl 2 rfl) ?_
                refine lv_imul jx jb dX9_drop_95 ?_
                refine lv_iload_n jx jb dX9_drop_96 rfl (lv_at hl 3 rfl) ?_
                refine lv_iadd jx jb dX9_drop_97 ?_
                refine top_eq (y := nI (200 * t + k)) (by rw [show (200 : Int32) = nI 200 from rfl, pk_mul, nI_add]) ?_
                refine lv_aload_n jx jb dX9_drop_98 rfl (lv_at hl 0 rfl) ?_
                refine w_get X hW K9 (by omega) m24 12 (by decide) fl_X9_40 rfl dX9_drop_99 ?_
                refine lv_sipush (v := 200) jx jb dX9_drop_102 (by decide) ?_
                refine lv_iload_n jx jb dX9_drop_105 rfl (lv_at hl 2 rfl) ?_
                refine lv_imul jx jb dX9_drop_106 ?_
                refine lv_sipush (v := 200) jx jb dX9_drop_107 (by decide) ?_
                refine lv_iadd jx jb dX9_drop_110 ?_
                refine lv_iload_n jx jb dX9_drop_111 rfl (lv_at hl 3 rfl) ?_
                refine lv_iadd jx jb dX9_drop_112 ?_
                refine top_eq (y := nI (200 * (t + 1) + k)) (by rw [show (200 : Int32) = nI 200 from rfl, pk_mul, nI_add, nI_add, show 200 * t + 200 + k = 200 * (t + 1) + k by omega]) ?_
                have m25 : gL80 74 = .inl (cy 0, 2400, .inl (qL80 74)) := hR80.2.2 74 (by decide) (by decide)
                refine w_ild X hW (by omega) m25 (200 * (t + 1) + k) rfl (by omega) (by decide) dX9_drop_113 ?_
                refine top_eq (y := q 74 (200 * (t + 1) + k)) (by rw [d74 (t + 1) (by omega) k (by omega), if_neg (by omega)]) ?_
                refine w_ist X hW (by omega) m25 (200 * t + k) rfl (by omega) (by decide) dX9_drop_114 (fun H locs hW => ?_)
                obtain ⟨g_26, eg_26⟩ : ∃ zz, zz = va_up gL80 74 (.inl (cy 0, 2400, .inl (upd (qL80 74) (200 * t + k) (q 74 (200 * (t + 1) + k))))) := ⟨_, rfl⟩
                have hW : Wd G A js.heap (N, ad, g_26) H locs := by rw [eg_26]; exact hW
                obtain ⟨q_28, eq_28⟩ : ∃ zz, zz = va_up qL80 74 (upd (qL80 74) (200 * t + k) (q 74 (200 * (t + 1) + k))) := ⟨_, rfl⟩
                have hR27 : MRaw cy N ad g_26 q_28 (nI lg.length) (nI T) to := by rw [eq_28]; exact hR80.put (by decide) (by decide) (fun k hk => by rw [eg_26, va_up_n hk]) (by rw [eg_26]; exact va_up_s)
                refine lv_aload_n jx jb dX9_drop_115 rfl (lv_at hl 0 rfl) ?_
                have m29 : g_26 63 = .inr (9, [.ref (ad 64), .ref (ad 65), .ref (ad 66), .ref (ad 67), .int (nI lg.length), .ref (ad 68), .ref (ad 69), .ref (ad 70), .ref (ad 71), .ref (ad 72), .int (nI T), .ref (ad 73), .ref (ad 74), .ref (ad 75), .ref (ad 76), .ref (ad 77), .ref (ad 78), .ref (ad 79), .ref (ad 80), .int to, .ref (ad 81), .ref (ad 82)]) := hR27.2.1
                refine w_get X hW K9 (by omega) m29 13 (by decide) fl_X9_43 rfl dX9_drop_116 ?_
                refine lv_sipush (v := 200) jx jb dX9_drop_119 (by decide) ?_
                refine lv_iload_n jx jb dX9_drop_122 rfl (lv_at hl 2 rfl) ?_
                refine lv_imul jx jb dX9_drop_123 ?_
                refine lv_iload_n jx jb dX9_drop_124 rfl (lv_at hl 3 rfl) ?_
                refine lv_iadd jx jb dX9_drop_125 ?_
                refine top_eq (y := nI (200 * t + k)) (by rw [show (200 : Int32) = nI 200 from rfl, pk_mul, nI_add]) ?_
                refine lv_aload_n jx jb dX9_drop_126 rfl (lv_at hl 0 rfl) ?_
                refine w_get X hW K9 (by omega) m29 13 (by decide) fl_X9_43 rfl dX9_drop_127 ?_
                refine lv_sipush (v := 200) jx jb dX9_drop_130 (by decide) ?_
                refine lv_iload_n jx jb dX9_drop_133 rfl (lv_at hl 2 rfl) ?_
                refine lv_imul jx jb dX9_drop_134 ?_
                refine lv_sipush (v := 200) jx jb dX9_drop_135 (by decide) ?_
                refine lv_iadd jx jb dX9_drop_138 ?_
                refine lv_iload_n jx jb dX9_drop_139 rfl (lv_at hl 3 rfl) ?_
                refine lv_iadd jx jb dX9_drop_140 ?_
                refine top_eq (y := nI (200 * (t + 1) + k)) (by rw [show (200 : Int32) = nI 200 from rfl, pk_mul, nI_add, nI_add, show 200 * t + 200 + k = 200 * (t + 1) + k by omega]) ?_
                have m30 : g_26 75 = .inl (cy 0, 2400, .inl (q_28 75)) := hR27.2.2 75 (by decide) (by decide)
                refine w_ild X hW (by omega) m30 (200 * (t + 1) + k) rfl (by omega) (by decide) dX9_drop_141 ?_
                refine top_eq (y := q 75 (200 * (t + 1) + k)) (by rw [eq_28, va_up_n (by decide)]; rw [d75 (t + 1) (by omega) k (by omega), if_neg (by omega)]) ?_
                refine w_ist X hW (by omega) m30 (200 * t + k) rfl (by omega) (by decide) dX9_drop_142 (fun H locs hW => ?_)
                obtain ⟨g_31, eg_31⟩ : ∃ zz, zz = va_up g_26 75 (.inl (cy 0, 2400, .inl (upd (q_28 75) (200 * t + k) (q 75 (200 * (t + 1) + k))))) := ⟨_, rfl⟩
                have hW : Wd G A js.heap (N, ad, g_31) H locs := by rw [eg_31]; exact hW
                obtain ⟨q_33, eq_33⟩ : ∃ zz, zz = va_up q_28 75 (upd (q_28 75) (200 * t + k) (q 75 (200 * (t + 1) + k))) := ⟨_, rfl⟩
                have hR32 : MRaw cy N ad g_31 q_33 (nI lg.length) (nI T) to := by rw [eq_33]; exact hR27.put (by decide) (by decide) (fun k hk => by rw [eg_31, va_up_n hk]) (by rw [eg_31]; exact va_up_s)
                refine lv_aload_n jx jb dX9_drop_143 rfl (lv_at hl 0 rfl) ?_
                have m34 : g_31 63 = .inr (9, [.ref (ad 64), .ref (ad 65), .ref (ad 66), .ref (ad 67), .int (nI lg.length), .ref (ad 68), .ref (ad 69), .ref (ad 70), .ref (ad 71), .ref (ad 72), .int (nI T), .ref (ad 73), .ref (ad 74), .ref (ad 75), .ref (ad 76), .ref (ad 77), .ref (ad 78), .ref (ad 79), .ref (ad 80), .int to, .ref (ad 81), .ref (ad 82)]) := hR32.2.1
                refine w_get X hW K9 (by omega) m34 14 (by decide) fl_X9_46 rfl dX9_drop_144 ?_
                refine lv_sipush (v := 200) jx jb dX9_drop_147 (by decide) ?_
                refine lv_iload_n jx jb dX9_drop_150 rfl (lv_at hl 2 rfl) ?_
                refine lv_imul jx jb dX9_drop_151 ?_
                refine lv_iload_n jx jb dX9_drop_152 rfl (lv_at hl 3 rfl) ?_
                refine lv_iadd jx jb dX9_drop_153 ?_
                refine top_eq (y := nI (200 * t + k)) (by rw [show (200 : Int32) = nI 200 from rfl, pk_mul, nI_add]) ?_
                refine lv_aload_n jx jb dX9_drop_154 rfl (lv_at hl 0 rfl) ?_
                refine w_get X hW K9 (by omega) m34 14 (by decide) fl_X9_46 rfl dX9_drop_155 ?_
                refine lv_sipush (v := 200) jx jb dX9_drop_158 (by decide) ?_
                refine lv_iload_n jx jb dX9_drop_161 rfl (lv_at hl 2 rfl) ?_
                refine lv_imul jx jb dX9_drop_162 ?_
                refine lv_sipush (v := 200) jx jb dX9_drop_163 (by decide) ?_
                refine lv_iadd jx jb dX9_drop_166 ?_
                refine lv_iload_n jx jb dX9_drop_167 rfl (lv_at hl 3 rfl) ?_
                refine lv_iadd jx jb dX9_drop_168 ?_
                refine top_eq (y := nI (200 * (t + 1) + k)) (by rw [show (200 : Int32) = nI 200 from rfl, pk_mul, nI_add, nI_add, show 200 * t + 200 + k = 200 * (t + 1) + k by omega]) ?_
                have m35 : g_31 76 = .inl (cy 0, 2400, .inl (q_33 76)) := hR32.2.2 76 (by decide) (by decide)
                refine w_ild X hW (by omega) m35 (200 * (t + 1) + k) rfl (by omega) (by decide) dX9_drop_169 ?_
                refine top_eq (y := q 76 (200 * (t + 1) + k)) (by rw [eq_33, va_up_n (by decide), eq_28, va_up_n (by decide)]; rw [d76 (t + 1) (by omega) k (by omega), if_neg (by omega)]) ?_
                refine w_ist X hW (by omega) m35 (200 * t + k) rfl (by omega) (by decide) dX9_drop_170 (fun H locs hW => ?_)
                obtain ⟨g_36, eg_36⟩ : ∃ zz, zz = va_up g_31 76 (.inl (cy 0, 2400, .inl (upd (q_33 76) (200 * t + k) (q 76 (200 * (t + 1) + k))))) := ⟨_, rfl⟩
                have hW : Wd G A js.heap (N, ad, g_36) H locs := by rw [eg_36]; exact hW
                obtain ⟨q_38, eq_38⟩ : ∃ zz, zz = va_up q_33 76 (upd (q_33 76) (200 * t + k) (q 76 (200 * (t + 1) + k))) := ⟨_, rfl⟩
                have hR37 : MRaw cy N ad g_36 q_38 (nI lg.length) (nI T) to := by rw [eq_38]; exact hR32.put (by decide) (by decide) (fun k hk => by rw [eg_36, va_up_n hk]) (by rw [eg_36]; exact va_up_s)
                refine lv_iinc (v := nI (k + 1)) (lv' := [(3, .int (nI (k + 1))), (0, .ref (ad 63)), (1, .int (nI i)), (2, .int (nI t))]) jx jb dX9_drop_171 hl (k := 3) rfl (show nI k + 1 = nI (k + 1) from nI_1 _) (by decide) rfl (fun ls hl => ?_)
                refine lv_goto (tgt := 80) jx jb dX9_drop_174 (by decide) ?_
                exact ih80 (k + 1) q_38 g_36 _ _ _ hR37 (fun k hk => by show g_36 k = _; rw [eg_36, va_up_n (by omega), eg_31, va_up_n (by omega), eg_26, va_up_n (by omega), hfr80 k hk]) (by omega) (fun a h1 h2 h3 h4 h5 h6 h7 => by rw [eq_38, va_up_n (by assumption), eq_33, va_up_n (by assumption), eq_28, va_up_n (by assumption)]; exact hsm a h1 h2 h3 h4 h5 h6 h7) (fun m hm => by rw [eq_38, va_up_n (by decide), eq_33, va_up_n (by decide), eq_28, va_up_n (by decide)]; exact d73 m hm) (fun m hm => by rw [eq_38, va_up_n (by decide), eq_33, va_up_n (by decide), eq_28, va_up_n (by decide)]; exact d77 m hm) (fun m hm => by rw [eq_38, va_up_n (by decide), eq_33, va_up_n (by decide), eq_28, va_up_n (by decide)]; exact d78 m hm) (fun m hm => by rw [eq_38, va_up_n (by decide), eq_33, va_up_n (by decide), eq_28, va_up_n (by decide)]; exact d79 m hm) (fun m hm j hj => by rw [eq_38, va_up_n (by decide), eq_33, va_up_n (by decide), eq_28, va_up_s]; by_cases z : 200 * m + j = 200 * t + k; ((obtain ⟨rfl, rfl⟩ : m = t ∧ j = k := ⟨by omega, by omega⟩); rw [pk_us, if_pos (by omega)]); (rw [pk_un z, d74 m hm j hj]; by_cases y2 : (i ≤ m ∧ m < t) ∨ (m = t ∧ j < k); (rw [if_pos y2, if_pos (by omega)]); (rw [if_neg y2, if_neg (by omega)]))) (fun m hm j hj => by rw [eq_38, va_up_n (by decide), eq_33, va_up_s]; by_cases z : 200 * m + j = 200 * t + k; ((obtain ⟨rfl, rfl⟩ : m = t ∧ j = k := ⟨by omega, by omega⟩); rw [pk_us, if_pos (by omega)]); (rw [pk_un z, eq_28, va_up_n (by decide), d75 m hm j hj]; by_cases y2 : (i ≤ m ∧ m < t) ∨ (m = t ∧ j < k); (rw [if_pos y2, if_pos (by omega)]); (rw [if_neg y2, if_neg (by omega)]))) (fun m hm j hj => by rw [eq_38, va_up_s]; by_cases z : 200 * m + j = 200 * t + k; ((obtain ⟨rfl, rfl⟩ : m = t ∧ j = k := ⟨by omega, by omega⟩); rw [pk_us, if_pos (by omega)]); (rw [pk_un z, eq_33, va_up_n (by decide), eq_28, va_up_n (by decide), d76 m hm j hj]; by_cases y2 : (i ≤ m ∧ m < t) ∨ (m = t ∧ j < k); (rw [if_pos y2, if_pos (by omega)]); (rw [if_neg y2, if_neg (by omega)])))  (by omega) hW (lv_sub hl [1, 2, 3, 0] rfl)
          exact loop80 _ 0 q_23 g_21 _ _ _ hR22 (fun k hk => by show g_21 k = _; rw [eg_21, va_up_n (by omega), eg_16, va_up_n (by omega), eg_11, va_up_n (by omega), eg_6, va_up_n (by omega), hfr12 k hk]) (by omega) (fun a h1 h2 h3 h4 h5 h6 h7 => by rw [eq_23, va_up_n (by assumption), eq_18, va_up_n (by assumption), eq_13, va_up_n (by assumption), eq_8, va_up_n (by assumption)]; exact hsm a h1 h2 h3 h4 h5 h6 h7) (fun m hm => by rw [eq_23, va_up_n (by decide), eq_18, va_up_n (by decide), eq_13, va_up_n (by decide), eq_8, va_up_s]; by_cases z : m = t; (rw [z, pk_us, if_pos (by omega)]); (rw [pk_un z, d73 m hm]; by_cases y2 : i ≤ m ∧ m < t; (rw [if_pos y2, if_pos (by omega)]); (rw [if_neg y2, if_neg (by omega)]))) (fun m hm => by rw [eq_23, va_up_n (by decide), eq_18, va_up_n (by decide), eq_13, va_up_s]; by_cases z : m = t; (rw [z, pk_us, if_pos (by omega)]); (rw [pk_un z, eq_8, va_up_n (by decide), d77 m hm]; by_cases y2 : i ≤ m ∧ m < t; (rw [if_pos y2, if_pos (by omega)]); (rw [if_neg y2, if_neg (by omega)]))) (fun m hm => by rw [eq_23, va_up_n (by decide), eq_18, va_up_s]; by_cases z : m = t; (rw [z, pk_us, if_pos (by omega)]); (rw [pk_un z, eq_13, va_up_n (by decide), eq_8, va_up_n (by decide), d78 m hm]; by_cases y2 : i ≤ m ∧ m < t; (rw [if_pos y2, if_pos (by omega)]); (rw [if_neg y2, if_neg (by omega)]))) (fun m hm => by rw [eq_23, va_up_s]; by_cases z : m = t; (rw [z, pk_us, if_pos (by omega)]); (rw [pk_un z, eq_18, va_up_n (by decide), eq_13, va_up_n (by decide), eq_8, va_up_n (by decide), d79 m hm]; by_cases y2 : i ≤ m ∧ m < t; (rw [if_pos y2, if_pos (by omega)]); (rw [if_neg y2, if_neg (by omega)]))) (fun m hm j hj => by rw [eq_23, va_up_n (by decide), eq_18, va_up_n (by decide), eq_13, va_up_n (by decide), eq_8, va_up_n (by decide), d74 m hm j hj]; by_cases y2 : i ≤ m ∧ m < t; (rw [if_pos y2, if_pos (by omega)]); (rw [if_neg y2, if_neg (by omega)])) (fun m hm j hj => by rw [eq_23, va_up_n (by decide), eq_18, va_up_n (by decide), eq_13, va_up_n (by decide), eq_8, va_up_n (by decide), d75 m hm j hj]; by_cases y2 : i ≤ m ∧ m < t; (rw [if_pos y2, if_pos (by omega)]); (rw [if_neg y2, if_neg (by omega)])) (fun m hm j hj => by rw [eq_23, va_up_n (by decide), eq_18, va_up_n (by decide), eq_13, va_up_n (by decide), eq_8, va_up_n (by decide), d76 m hm j hj]; by_cases y2 : i ≤ m ∧ m < t; (rw [if_pos y2, if_pos (by omega)]); (rw [if_neg y2, if_neg (by omega)]))  (Nat.lt_succ_self _) hW (lv_sub hl [1, 2, 3, 0] rfl)
    exact loop12 _ i q g _ _ _ hR (fun k hk => by show g k = _; rfl) (Nat.le_refl _) (by omega) (fun a _ _ _ _ _ _ _ => rfl) (fun m hm => by rw [if_neg (by omega)]) (fun m hm => by rw [if_neg (by omega)]) (fun m hm => by rw [if_neg (by omega)]) (fun m hm => by rw [if_neg (by omega)]) (fun m hm k hk => by rw [if_neg (by omega)]) (fun m hm k hk => by rw [if_neg (by omega)]) (fun m hm k hk => by rw [if_neg (by omega)])  (Nat.lt_succ_self _) hW (lv_sub hl [1, 2, 0] rfl)
  · exact absurd (c5.symm.trans (bel_t hiT (by omega))) (by decide)
