theorem QT.flags {q q' : Nat → Nat → Int32} {i : Nat} {t : TT} {b1 b2 : Bool} (h : QT q i t) (h1 : ∀ a, 73 ≤ a → a ≤ 77 → q' a = q a) (h2 : q' 78 i = bI (b1 = true)) (h3 : q' 79 i = bI (b2 = true)) : QT q' i (t.1, t.2.1, t.2.2.1, b1, b2) := by
  obtain ⟨⟨a1, a2, a3⟩, b, c, d, e, f, m⟩ := h
  refine ⟨⟨a1, a2, fun k hk => ?_⟩, ?_, fun k hk => ?_, ?_, h2, h3, m⟩
  · rw [h1 74 (by omega) (by omega), h1 75 (by omega) (by omega)]; exact a3 k hk
  · rw [h1 73 (by omega) (by omega)]; exact b
  · rw [h1 76 (by omega) (by omega)]; exact c k hk
  · rw [h1 77 (by omega) (by omega)]; exact d
theorem upto_step {P : Nat → TT → Prop} {F : TT → TT} {y : Nat → TT} {k T : Nat} (h : ∀ i, i < T → i ≠ k → P i (if i < k then F (y i) else y i)) (hk : P k (F (y k))) : ∀ i, i < T → P i (if i < k + 1 then F (y i) else y i) := by
  intro i hi
  by_cases e : i = k
  · rw [e, if_pos (by omega)]; exact hk
  · have := h i hi e
    by_cases z : i < k
    · rw [if_pos (by omega)]; rw [if_pos z] at this; exact this
    · rw [if_neg (by omega)]; rw [if_neg z] at this; exact this

set_option maxHeartbeats 4000000 in
set_option maxRecDepth 100000 in
theorem c_mRun {l : Launch} {G : va_G} {cy : Nat → ClassId} {N : Nat} {ad : Nat → Nat} {g : Nat → va_E} {M : M4} {lg : List Nat} {lr lt : Nat → Int32} {st T : Nat} {y : Nat → TT} (hMA : MAt cy N ad g M lg lr lt st T y) : MI l G cy (N, ad, g) yX9_run cX9_run 3 (some .int) (rmN 3) [.ref (ad 63)] (nA N ad (fun v g1 => v = nI (cntB (fun i => rnB M (y i)) T) ∧ MAt cy N ad g1 M lg lr lt st T (fun i => rnT M (y i)) ∧ ∀ k, ¬ (63 ≤ k ∧ k < 83) → g1 k = g k)) := by
  refine NI.mk (by decide) (by intros; first | rfl | (simp_all; done)) (Nat.le_of_ble_eq_true rfl) ?_
  intro jp je js jm below meth jc A Q X hW ret ls hl
  have jx := X.hx
  have jb := X.hb
  have hl : lv_has ls 3 [(0, .ref (ad 63))] := hl
  have X : Cx G cy jp js jm _ jc cX9_run 3 RX9 A js.heap := X
  obtain ⟨q, to, hR, hok, hQ, hL, hst, hS4, hT12, hQT⟩ := id hMA
  have h83 : 83 ≤ N := hR.1
  have hl200 := hL.1
  refine lv_iconst (v := 0) jx jb dX9_run_0 (by decide) ?_
  refine lv_istore_n (lv' := [(1, .int 0), (0, .ref (ad 63))]) jx jb dX9_run_1 rfl hl (by decide) rfl (fun ls hl => ?_)
  refine lv_iconst (v := 0) jx jb dX9_run_2 (by decide) ?_
  refine lv_istore_n (lv' := [(2, .int 0), (1, .int 0), (0, .ref (ad 63))]) jx jb dX9_run_3 rfl hl (by decide) rfl (fun ls hl => ?_)
  have loop4 : ∀ (fuel4 : Nat) (k : Nat) (tv : Int32) (qL4 : Nat → Nat → Int32) (gL4 : Nat → va_E) (H : Heap) (locs : List Loc) (ls : Array Slot), (MRaw cy N ad gL4 qL4 (nI lg.length) (nI T) tv) → (∀ k, ¬ (63 ≤ k ∧ k < 83) → gL4 k = g k) → (k ≤ T) → (∀ a, a ≠ 78 → a ≠ 79 → a ≠ 80 → qL4 a = q a) → (∀ i, i < T → QT qL4 i (if i < k then rnT M (y i) else y i)) → T - k < fuel4 → Wd G A js.heap (N, ad, gL4) H locs → lv_has ls 3 [(0, .ref (ad 63)), (1, .int (nI (cntB (fun i => rnB M (y i)) k))), (2, .int (nI k))] → W jp l je (rmN 3) js jm [.ref (ad 63)].toArray below meth jc H locs 0 0 Q (F0 jm 4 ls []) := by
    intro fuel4
    induction fuel4 with
    | zero => intro k tv qL4 gL4 H locs ls hR4 hfr4 hk hsm hqt  hm4; exact absurd hm4 (Nat.not_lt_zero _)
    | succ fuel4 ih4 =>
      intro k tv qL4 gL4 H locs ls hR4 hfr4 hk hsm hqt  hm4 hW hl
      refine lv_iload_n jx jb dX9_run_4 rfl (lv_at hl 2 rfl) ?_
      refine lv_aload_n jx jb dX9_run_5 rfl (lv_at hl 0 rfl) ?_
      have m1 : gL4 63 = .inr (9, [.ref (ad 64), .ref (ad 65), .ref (ad 66), .ref (ad 67), .int (nI lg.length), .ref (ad 68), .ref (ad 69), .ref (ad 70), .ref (ad 71), .ref (ad 72), .int (nI T), .ref (ad 73), .ref (ad 74), .ref (ad 75), .ref (ad 76), .ref (ad 77), .ref (ad 78), .ref (ad 79), .ref (ad 80), .int tv, .ref (ad 81), .ref (ad 82)]) := hR4.2.1
      refine w_get X hW K9 (by omega) m1 10 (by decide) fl_X9_83 rfl dX9_run_6 ?_
      refine lv_icmp_ge (tgt := 74) jx jb dX9_run_9 (by decide) (fun c9 => ?_) (fun c9 => ?_)
      · refine lv_iload_n jx jb dX9_run_74 rfl (lv_at hl 1 rfl) ?_
        exact ret _ _ _ _ _ _ dX9_run_75 hW (by have := n_le (by omega) (by omega) c9; have e : k = T := (by omega); rw [e]; exact ⟨rfl, ⟨_, _, hR4, hok, hQ.of (fun a h1 h2 => hsm a (by omega) (by omega) (by omega)), hL.of (fun a h1 h2 => hsm a (by omega) (by omega) (by omega)), hst, (fun j hj => by rw [hsm 72 (by decide) (by decide) (by decide)]; exact hS4 j hj), hT12, fun i hi => by have := hqt i hi; rwa [if_pos (by omega)] at this⟩, (fun k hk => by show gL4 k = _; rw [hfr4 k hk])⟩)
      · have hlt : k < T := n_nle (by omega) (by omega) c9
        have hk0 : QT qL4 k (y k) := by have := hqt k hlt; rwa [if_neg (Nat.lt_irrefl k)] at this
        have hr200 := hk0.1.1
        refine lv_aload_n jx jb dX9_run_12 rfl (lv_at hl 0 rfl) ?_
        refine w_get X hW K9 (by omega) m1 16 (by decide) fl_X9_52 rfl dX9_run_13 ?_
        refine lv_iload_n jx jb dX9_run_16 rfl (lv_at hl 2 rfl) ?_
        have m2 : gL4 78 = .inl (cy 1, 12, .inl (qL4 78)) := hR4.2.2 78 (by decide) (by decide)
        refine w_zld X hW (by omega) m2 k rfl (by omega) (by decide) dX9_run_17 ?_
        refine top_eq (y := bI ((y k).2.2.2.1 = true)) (hk0.2.2.2.2.1) ?_
        refine lv_if_ne (tgt := 24) jx jb dX9_run_18 (by decide) (fun c18 => ?_) (fun c18 => ?_)
        · have htou := bI_n0.mp c18
          refine lv_aload_n jx jb dX9_run_24 rfl (lv_at hl 0 rfl) ?_
          refine w_get X hW K9 (by omega) m1 16 (by decide) fl_X9_52 rfl dX9_run_25 ?_
          refine lv_iload_n jx jb dX9_run_28 rfl (lv_at hl 2 rfl) ?_
          refine lv_iconst (v := 0) jx jb dX9_run_29 (by decide) ?_
          refine w_zst X hW (by omega) m2 k rfl (by omega) (by decide) (by first | exact Or.inl rfl | exact Or.inr rfl | exact bI_01) dX9_run_30 (fun H locs hW => ?_)
          obtain ⟨g_3, eg_3⟩ : ∃ zz, zz = va_up gL4 78 (.inl (cy 1, 12, .inl (upd (qL4 78) k 0))) := ⟨_, rfl⟩
          have hW : Wd G A js.heap (N, ad, g_3) H locs := by rw [eg_3]; exact hW
          obtain ⟨q_5, eq_5⟩ : ∃ zz, zz = va_up qL4 78 (upd (qL4 78) k 0) := ⟨_, rfl⟩
          have hR4 : MRaw cy N ad g_3 q_5 (nI lg.length) (nI T) tv := by rw [eq_5]; exact hR4.put (by decide) (by decide) (fun k hk => by rw [eg_3, va_up_n hk]) (by rw [eg_3]; exact va_up_s)
          refine lv_aload_n jx jb dX9_run_31 rfl (lv_at hl 0 rfl) ?_
          have m6 : g_3 63 = .inr (9, [.ref (ad 64), .ref (ad 65), .ref (ad 66), .ref (ad 67), .int (nI lg.length), .ref (ad 68), .ref (ad 69), .ref (ad 70), .ref (ad 71), .ref (ad 72), .int (nI T), .ref (ad 73), .ref (ad 74), .ref (ad 75), .ref (ad 76), .ref (ad 77), .ref (ad 78), .ref (ad 79), .ref (ad 80), .int tv, .ref (ad 81), .ref (ad 82)]) := hR4.2.1
          refine w_get X hW K9 (by omega) m6 17 (by decide) fl_X9_56 rfl dX9_run_32 ?_
          refine lv_iload_n jx jb dX9_run_35 rfl (lv_at hl 2 rfl) ?_
          refine lv_aload_n jx jb dX9_run_36 rfl (lv_at hl 0 rfl) ?_
          refine lv_iload_n jx jb dX9_run_37 rfl (lv_at hl 2 rfl) ?_
          refine w_nV (As := [.int (nI k)]) X hW (c_mDiffers (row := (y k).1) (asks := (y k).2.1) hR4 hT12 hok (hQ.of (fun a h1 h2 => by rw [eq_5, va_up_n (by omega)]; exact hsm a (by omega) (by omega) (by omega))) ⟨hk0.1.1, hk0.1.2.1, fun m hm => by rw [eq_5, va_up_n (by decide), va_up_n (by decide)]; exact hk0.1.2.2 m hm⟩ (by rw [eq_5, va_up_n (by decide)]; exact hk0.2.1) (fun m hm => by rw [eq_5, va_up_n (by decide)]; exact hk0.2.2.1 m hm) hlt) (by omega) m6 rfl rfl ml_X9_124 mf_X9_differs ⟨Nat.le_of_ble_eq_true rfl, Nat.le_of_ble_eq_true rfl⟩ hl.1 rfl (Nat.le_of_ble_eq_true rfl) ⟨Nat.le_of_ble_eq_true rfl, Nat.le_of_ble_eq_true rfl⟩ dX9_run_38 (fun rD gD H locs hp hW => ?_)
          obtain ⟨er, qD, tD, hRD, hsD, frD⟩ := hp
          refine top_eq (y := fdT M (y k)) (er) ?_
          refine lv_iconst (v := -1) jx jb dX9_run_41 (by decide) ?_
          refine lv_icmp_eq (tgt := 49) jx jb dX9_run_42 (by decide) (fun c42 => ?_) (fun c42 => ?_)
          · refine lv_iconst (v := 0) jx jb dX9_run_49 (by decide) ?_
            refine top_eq (y := bI (decide (¬ fdT M (y k) = -1) = true)) ((bI_f (by rw [decide_eq_true_eq]; exact fun z => z c42)).symm) ?_
            have m7 : gD 79 = .inl (cy 1, 12, .inl (qD 79)) := hRD.2.2 79 (by decide) (by decide)
            refine w_zst X hW (by omega) m7 k rfl (by omega) (by decide) (by first | exact Or.inl rfl | exact Or.inr rfl | exact bI_01) dX9_run_50 (fun H locs hW => ?_)
            obtain ⟨g_8, eg_8⟩ : ∃ zz, zz = va_up gD 79 (.inl (cy 1, 12, .inl (upd (qD 79) k (bI (decide (¬ fdT M (y k) = -1) = true))))) := ⟨_, rfl⟩
            have hW : Wd G A js.heap (N, ad, g_8) H locs := by rw [eg_8]; exact hW
            obtain ⟨q_10, eq_10⟩ : ∃ zz, zz = va_up qD 79 (upd (qD 79) k (bI (decide (¬ fdT M (y k) = -1) = true))) := ⟨_, rfl⟩
            have hR9 : MRaw cy N ad g_8 q_10 (nI lg.length) (nI T) tD := by rw [eq_10]; exact hRD.put (by decide) (by decide) (fun k hk => by rw [eg_8, va_up_n hk]) (by rw [eg_8]; exact va_up_s)
            refine lv_iload_n jx jb dX9_run_51 rfl (lv_at hl 1 rfl) ?_
            refine lv_aload_n jx jb dX9_run_52 rfl (lv_at hl 0 rfl) ?_
            have m11 : g_8 63 = .inr (9, [.ref (ad 64), .ref (ad 65), .ref (ad 66), .ref (ad 67), .int (nI lg.length), .ref (ad 68), .ref (ad 69), .ref (ad 70), .ref (ad 71), .ref (ad 72), .int (nI T), .ref (ad 73), .ref (ad 74), .ref (ad 75), .ref (ad 76), .ref (ad 77), .ref (ad 78), .ref (ad 79), .ref (ad 80), .int tD, .ref (ad 81), .ref (ad 82)]) := hR9.2.1
            refine w_get X hW K9 (by omega) m11 17 (by decide) fl_X9_56 rfl dX9_run_53 ?_
            refine lv_iload_n jx jb dX9_run_56 rfl (lv_at hl 2 rfl) ?_
            have m12 : g_8 79 = .inl (cy 1, 12, .inl (q_10 79)) := hR9.2.2 79 (by decide) (by decide)
            refine w_zld X hW (by omega) m12 k rfl (by omega) (by decide) dX9_run_57 ?_
            refine top_eq (y := bI (decide (¬ fdT M (y k) = -1) = true)) (by rw [eq_10, va_up_s, pk_us]) ?_
            refine lv_if_eq (tgt := 65) jx jb dX9_run_58 (by decide) (fun c58 => ?_) (fun c58 => ?_)
            · refine lv_iconst (v := 0) jx jb dX9_run_65 (by decide) ?_
              refine lv_iadd jx jb dX9_run_66 ?_
              refine top_eq (y := nI (cntB (fun i => rnB M (y i)) (k + 1))) (by rw [show cntB (fun i => rnB M (y i)) (k + 1) = cntB (fun i => rnB M (y i)) k + (if rnB M (y k) = true then 1 else 0) from rfl, if_neg (by unfold rnB; rw [Bool.and_eq_true]; exact fun z => bI_0.mp c58 z.2), ← nI_add]; rfl) ?_
              refine lv_istore_n (lv' := [(1, .int (nI (cntB (fun i => rnB M (y i)) (k + 1)))), (0, .ref (ad 63)), (2, .int (nI k))]) jx jb dX9_run_67 rfl hl (by decide) rfl (fun ls hl => ?_)
              refine lv_iinc (v := nI (k + 1)) (lv' := [(2, .int (nI (k + 1))), (1, .int (nI (cntB (fun i => rnB M (y i)) (k + 1)))), (0, .ref (ad 63))]) jx jb dX9_run_68 hl (k := 2) rfl (show nI k + 1 = nI (k + 1) from nI_1 _) (by decide) rfl (fun ls hl => ?_)
              refine lv_goto (tgt := 4) jx jb dX9_run_71 (by decide) ?_
              exact ih4 (k + 1) _ q_10 g_8 _ _ _ hR9 (fun k hk => by show g_8 k = _; rw [eg_8, va_up_n (by omega), frD k hk, eg_3, va_up_n (by omega), hfr4 k hk]) (by omega) (fun a h1 h2 h3 => by rw [eq_10, va_up_n (by omega), hsD a (by omega), eq_5, va_up_n (by omega)]; exact hsm a h1 h2 h3) (upto_step (fun i hi ne => (hqt i hi).flags (fun a h1 h2 => by rw [eq_10, va_up_n (by omega), hsD a (by omega), eq_5, va_up_n (by omega)]) (by rw [eq_10, va_up_n (by decide), hsD 78 (by decide), eq_5, va_up_s, pk_un ne]; exact (hqt i hi).2.2.2.2.1) (by rw [eq_10, va_up_s, pk_un ne, hsD 79 (by decide), eq_5, va_up_n (by decide)]; exact (hqt i hi).2.2.2.2.2.1)) (by rw [show rnT M (y k) = _ from if_pos htou]; exact hk0.flags (fun a h1 h2 => by rw [eq_10, va_up_n (by omega), hsD a (by omega), eq_5, va_up_n (by omega)]) (by rw [eq_10, va_up_n (by decide), hsD 78 (by decide), eq_5, va_up_s, pk_us]; rfl) (by rw [eq_10, va_up_s, pk_us])))  (by omega) hW (lv_sub hl [2, 1, 0] rfl)
            · refine lv_iconst (v := 1) jx jb dX9_run_61 (by decide) ?_
              refine lv_goto (tgt := 66) jx jb dX9_run_62 (by decide) ?_
              refine lv_iadd jx jb dX9_run_66 ?_
              refine top_eq (y := nI (cntB (fun i => rnB M (y i)) (k + 1))) (by rw [show cntB (fun i => rnB M (y i)) (k + 1) = cntB (fun i => rnB M (y i)) k + (if rnB M (y k) = true then 1 else 0) from rfl, if_pos (by unfold rnB; rw [Bool.and_eq_true]; exact ⟨htou, bI_n0.mp c58⟩), ← nI_add]; rfl) ?_
              refine lv_istore_n (lv' := [(1, .int (nI (cntB (fun i => rnB M (y i)) (k + 1)))), (0, .ref (ad 63)), (2, .int (nI k))]) jx jb dX9_run_67 rfl hl (by decide) rfl (fun ls hl => ?_)
              refine lv_iinc (v := nI (k + 1)) (lv' := [(2, .int (nI (k + 1))), (1, .int (nI (cntB (fun i => rnB M (y i)) (k + 1)))), (0, .ref (ad 63))]) jx jb dX9_run_68 hl (k := 2) rfl (show nI k + 1 = nI (k + 1) from nI_1 _) (by decide) rfl (fun ls hl => ?_)
              refine lv_goto (tgt := 4) jx jb dX9_run_71 (by decide) ?_
              exact ih4 (k + 1) _ q_10 g_8 _ _ _ hR9 (fun k hk => by show g_8 k = _; rw [eg_8, va_up_n (by omega), frD k hk, eg_3, va_up_n (by omega), hfr4 k hk]) (by omega) (fun a h1 h2 h3 => by rw [eq_10, va_up_n (by omega), hsD a (by omega), eq_5, va_up_n (by omega)]; exact hsm a h1 h2 h3) (upto_step (fun i hi ne => (hqt i hi).flags (fun a h1 h2 => by rw [eq_10, va_up_n (by omega), hsD a (by omega), eq_5, va_up_n (by omega)]) (by rw [eq_10, va_up_n (by decide), hsD 78 (by decide), eq_5, va_up_s, pk_un ne]; exact (hqt i hi).2.2.2.2.1) (by rw [eq_10, va_up_s, pk_un ne, hsD 79 (by decide), eq_5, va_up_n (by decide)]; exact (hqt i hi).2.2.2.2.2.1)) (by rw [show rnT M (y k) = _ from if_pos htou]; exact hk0.flags (fun a h1 h2 => by rw [eq_10, va_up_n (by omega), hsD a (by omega), eq_5, va_up_n (by omega)]) (by rw [eq_10, va_up_n (by decide), hsD 78 (by decide), eq_5, va_up_s, pk_us]; rfl) (by rw [eq_10, va_up_s, pk_us])))  (by omega) hW (lv_sub hl [2, 1, 0] rfl)
          · refine lv_iconst (v := 1) jx jb dX9_run_45 (by decide) ?_
            refine lv_goto (tgt := 50) jx jb dX9_run_46 (by decide) ?_
            refine top_eq (y := bI (decide (¬ fdT M (y k) = -1) = true)) ((bI_t (by rw [decide_eq_true_eq]; exact c42)).symm) ?_
            have m13 : gD 79 = .inl (cy 1, 12, .inl (qD 79)) := hRD.2.2 79 (by decide) (by decide)
            refine w_zst X hW (by omega) m13 k rfl (by omega) (by decide) (by first | exact Or.inl rfl | exact Or.inr rfl | exact bI_01) dX9_run_50 (fun H locs hW => ?_)
            obtain ⟨g_14, eg_14⟩ : ∃ zz, zz = va_up gD 79 (.inl (cy 1, 12, .inl (upd (qD 79) k (bI (decide (¬ fdT M (y k) = -1) = true))))) := ⟨_, rfl⟩
            have hW : Wd G A js.heap (N, ad, g_14) H locs := by rw [eg_14]; exact hW
            obtain ⟨q_16, eq_16⟩ : ∃ zz, zz = va_up qD 79 (upd (qD 79) k (bI (decide (¬ fdT M (y k) = -1) = true))) := ⟨_, rfl⟩
            have hR15 : MRaw cy N ad g_14 q_16 (nI lg.length) (nI T) tD := by rw [eq_16]; exact hRD.put (by decide) (by decide) (fun k hk => by rw [eg_14, va_up_n hk]) (by rw [eg_14]; exact va_up_s)
            refine lv_iload_n jx jb dX9_run_51 rfl (lv_at hl 1 rfl) ?_
            refine lv_aload_n jx jb dX9_run_52 rfl (lv_at hl 0 rfl) ?_
            have m17 : g_14 63 = .inr (9, [.ref (ad 64), .ref (ad 65), .ref (ad 66), .ref (ad 67), .int (nI lg.length), .ref (ad 68), .ref (ad 69), .ref (ad 70), .ref (ad 71), .ref (ad 72), .int (nI T), .ref (ad 73), .ref (ad 74), .ref (ad 75), .ref (ad 76), .ref (ad 77), .ref (ad 78), .ref (ad 79), .ref (ad 80), .int tD, .ref (ad 81), .ref (ad 82)]) := hR15.2.1
            refine w_get X hW K9 (by omega) m17 17 (by decide) fl_X9_56 rfl dX9_run_53 ?_
            refine lv_iload_n jx jb dX9_run_56 rfl (lv_at hl 2 rfl) ?_
            have m18 : g_14 79 = .inl (cy 1, 12, .inl (q_16 79)) := hR15.2.2 79 (by decide) (by decide)
            refine w_zld X hW (by omega) m18 k rfl (by omega) (by decide) dX9_run_57 ?_
            refine top_eq (y := bI (decide (¬ fdT M (y k) = -1) = true)) (by rw [eq_16, va_up_s, pk_us]) ?_
            refine lv_if_eq (tgt := 65) jx jb dX9_run_58 (by decide) (fun c58 => ?_) (fun c58 => ?_)
            · refine lv_iconst (v := 0) jx jb dX9_run_65 (by decide) ?_
              refine lv_iadd jx jb dX9_run_66 ?_
              refine top_eq (y := nI (cntB (fun i => rnB M (y i)) (k + 1))) (by rw [show cntB (fun i => rnB M (y i)) (k + 1) = cntB (fun i => rnB M (y i)) k + (if rnB M (y k) = true then 1 else 0) from rfl, if_neg (by unfold rnB; rw [Bool.and_eq_true]; exact fun z => bI_0.mp c58 z.2), ← nI_add]; rfl) ?_
              refine lv_istore_n (lv' := [(1, .int (nI (cntB (fun i => rnB M (y i)) (k + 1)))), (0, .ref (ad 63)), (2, .int (nI k))]) jx jb dX9_run_67 rfl hl (by decide) rfl (fun ls hl => ?_)
              refine lv_iinc (v := nI (k + 1)) (lv' := [(2, .int (nI (k + 1))), (1, .int (nI (cntB (fun i => rnB M (y i)) (k + 1)))), (0, .ref (ad 63))]) jx jb dX9_run_68 hl (k := 2) rfl (show nI k + 1 = nI (k + 1) from nI_1 _) (by decide) rfl (fun ls hl => ?_)
              refine lv_goto (tgt := 4) jx jb dX9_run_71 (by decide) ?_
              exact ih4 (k + 1) _ q_16 g_14 _ _ _ hR15 (fun k hk => by show g_14 k = _; rw [eg_14, va_up_n (by omega), frD k hk, eg_3, va_up_n (by omega), hfr4 k hk]) (by omega) (fun a h1 h2 h3 => by rw [eq_16, va_up_n (by omega), hsD a (by omega), eq_5, va_up_n (by omega)]; exact hsm a h1 h2 h3) (upto_step (fun i hi ne => (hqt i hi).flags (fun a h1 h2 => by rw [eq_16, va_up_n (by omega), hsD a (by omega), eq_5, va_up_n (by omega)]) (by rw [eq_16, va_up_n (by decide), hsD 78 (by decide), eq_5, va_up_s, pk_un ne]; exact (hqt i hi).2.2.2.2.1) (by rw [eq_16, va_up_s, pk_un ne, hsD 79 (by decide), eq_5, va_up_n (by decide)]; exact (hqt i hi).2.2.2.2.2.1)) (by rw [show rnT M (y k) = _ from if_pos htou]; exact hk0.flags (fun a h1 h2 => by rw [eq_16, va_up_n (by omega), hsD a (by omega), eq_5, va_up_n (by omega)]) (by rw [eq_16, va_up_n (by decide), hsD 78 (by decide), eq_5, va_up_s, pk_us]; rfl) (by rw [eq_16, va_up_s, pk_us])))  (by omega) hW (lv_sub hl [2, 1, 0] rfl)
            · refine lv_iconst (v := 1) jx jb dX9_run_61 (by decide) ?_
              refine lv_goto (tgt := 66) jx jb dX9_run_62 (by decide) ?_
              refine lv_iadd jx jb dX9_run_66 ?_
              refine top_eq (y := nI (cntB (fun i => rnB M (y i)) (k + 1))) (by rw [show cntB (fun i => rnB M (y i)) (k + 1) = cntB (fun i => rnB M (y i)) k + (if rnB M (y k) = true then 1 else 0) from rfl, if_pos (by unfold rnB; rw [Bool.and_eq_true]; exact ⟨htou, bI_n0.mp c58⟩), ← nI_add]; rfl) ?_
              refine lv_istore_n (lv' := [(1, .int (nI (cntB (fun i => rnB M (y i)) (k + 1)))), (0, .ref (ad 63)), (2, .int (nI k))]) jx jb dX9_run_67 rfl hl (by decide) rfl (fun ls hl => ?_)
              refine lv_iinc (v := nI (k + 1)) (lv' := [(2, .int (nI (k + 1))), (1, .int (nI (cntB (fun i => rnB M (y i)) (k + 1)))), (0, .ref (ad 63))]) jx jb dX9_run_68 hl (k := 2) rfl (show nI k + 1 = nI (k + 1) from nI_1 _) (by decide) rfl (fun ls hl => ?_)
              refine lv_goto (tgt := 4) jx jb dX9_run_71 (by decide) ?_
              exact ih4 (k + 1) _ q_16 g_14 _ _ _ hR15 (fun k hk => by show g_14 k = _; rw [eg_14, va_up_n (by omega), frD k hk, eg_3, va_up_n (by omega), hfr4 k hk]) (by omega) (fun a h1 h2 h3 => by rw [eq_16, va_up_n (by omega), hsD a (by omega), eq_5, va_up_n (by omega)]; exact hsm a h1 h2 h3) (upto_step (fun i hi ne => (hqt i hi).flags (fun a h1 h2 => by rw [eq_16, va_up_n (by omega), hsD a (by omega), eq_5, va_up_n (by omega)]) (by rw [eq_16, va_up_n (by decide), hsD 78 (by decide), eq_5, va_up_s, pk_un ne]; exact (hqt i hi).2.2.2.2.1) (by rw [eq_16, va_up_s, pk_un ne, hsD 79 (by decide), eq_5, va_up_n (by decide)]; exact (hqt i hi).2.2.2.2.2.1)) (by rw [show rnT M (y k) = _ from if_pos htou]; exact hk0.flags (fun a h1 h2 => by rw [eq_16, va_up_n (by omega), hsD a (by omega), eq_5, va_up_n (by omega)]) (by rw [eq_16, va_up_n (by decide), hsD 78 (by decide), eq_5, va_up_s, pk_us]; rfl) (by rw [eq_16, va_up_s, pk_us])))  (by omega) hW (lv_sub hl [2, 1, 0] rfl)
        · have htou := bI_0.mp c18
          refine lv_goto (tgt := 68) jx jb dX9_run_21 (by decide) ?_
          refine lv_iinc (v := nI (k + 1)) (lv' := [(2, .int (nI (k + 1))), (0, .ref (ad 63)), (1, .int (nI (cntB (fun i => rnB M (y i)) k)))]) jx jb dX9_run_68 hl (k := 2) rfl (show nI k + 1 = nI (k + 1) from nI_1 _) (by decide) rfl (fun ls hl => ?_)
          refine lv_goto (tgt := 4) jx jb dX9_run_71 (by decide) ?_
          have hl : lv_has ls 3 [(2, .int (nI (k + 1))), (0, .ref (ad 63)), (1, .int (nI (cntB (fun i => rnB M (y i)) (k + 1))))] := by rw [show nI (cntB (fun i => rnB M (y i)) (k + 1)) = nI (cntB (fun i => rnB M (y i)) k) from by rw [show cntB (fun i => rnB M (y i)) (k + 1) = cntB (fun i => rnB M (y i)) k + (if rnB M (y k) = true then 1 else 0) from rfl, if_neg (by unfold rnB; rw [Bool.and_eq_true]; exact fun z => htou z.1)]; rfl]; exact hl
          exact ih4 (k + 1) _ qL4 gL4 _ _ _ hR4 (fun k hk => by show gL4 k = _; rw [hfr4 k hk]) (by omega) hsm (upto_step (fun i hi _ => hqt i hi) (by rw [show rnT M (y k) = y k from if_neg htou]; exact hk0))  (by omega) hW (lv_sub hl [1, 2, 0] rfl)
  exact loop4 _ 0 _ q g _ _ _ hR (fun k hk => by show g k = _; rfl) (by omega) (fun a _ _ _ => rfl) (fun i hi => by rw [if_neg (by omega)]; exact hQT i hi)  (Nat.lt_succ_self _) hW (lv_sub hl [2, 1, 0] rfl)

set_option maxHeartbeats 4000000 in
set_option maxRecDepth 100000 in
theorem c_mChangeNo {l : Launch} {G : va_G} {cy : Nat → ClassId} {N : Nat} {ad : Nat → Nat} {g : Nat → va_E} {M : M4} {lg : List Nat} {lr lt : Nat → Int32} {st T : Nat} {y : Nat → TT} {v a b r : Int32} (hMA : MAt cy N ad g M lg lr lt st T y) (hno : ¬ (isB M v ∧ okWi a ∧ okTi b ∧ 0 ≤ r ∧ r < 4)) : RI l G cy (N, ad, g) yX9_change cX9_change 6 (some .boolean) (rmN 2) [.ref (ad 63), .int v, .int a, .int b, .int r] 0 := by
  refine RI.mk (by decide) (by first | rfl | exact bI_nar) (Nat.le_of_ble_eq_true rfl) ?_
  intro jp je js jm below meth jc A Q X hW ret ls hl
  have jx := X.hx
  have jb := X.hb
  have hl : lv_has ls 6 [(0, .ref (ad 63)), (1, .int v), (2, .int a), (3, .int b), (4, .int r)] := hl
  have X : Cx G cy jp js jm _ jc cX9_change 6 RX9 A js.heap := X
  obtain ⟨q, to, hR, hok, hQ, hL, hst, hS4, hT12, hQT⟩ := id hMA
  have h83 : 83 ≤ N := hR.1
  have hl200 := hL.1
  refine lv_aload_n jx jb dX9_change_0 rfl (lv_at hl 0 rfl) ?_
  refine lv_iload_n jx jb dX9_change_1 rfl (lv_at hl 1 rfl) ?_
  have m1 : g 63 = .inr (9, [.ref (ad 64), .ref (ad 65), .ref (ad 66), .ref (ad 67), .int (nI lg.length), .ref (ad 68), .ref (ad 69), .ref (ad 70), .ref (ad 71), .ref (ad 72), .int (nI T), .ref (ad 73), .ref (ad 74), .ref (ad 75), .ref (ad 76), .ref (ad 77), .ref (ad 78), .ref (ad 79), .ref (ad 80), .int to, .ref (ad 81), .ref (ad 82)]) := hR.2.1
  refine w_rV (As := [.int v]) X hW (c_isThere hR hok.1 hQ.1) (by omega) m1 rfl rfl ml_X9_87 mf_X9_isThere ⟨Nat.le_of_ble_eq_true rfl, Nat.le_of_ble_eq_true rfl⟩ hl.1 rfl (Nat.le_of_ble_eq_true rfl) ⟨Nat.le_of_ble_eq_true rfl, Nat.le_of_ble_eq_true rfl⟩ dX9_change_2 (fun H locs hW => ?_)
  refine lv_if_eq (tgt := 18) jx jb dX9_change_5 (by decide) (fun c5 => ?_) (fun c5 => ?_)
  · refine lv_iconst (v := 0) jx jb dX9_change_18 (by decide) ?_
    exact ret _ _ _ _ _ dX9_change_19 hW rfl
  · refine lv_iload_n jx jb dX9_change_8 rfl (lv_at hl 2 rfl) ?_
    refine lv_iload_n jx jb dX9_change_9 rfl (lv_at hl 3 rfl) ?_
    refine lv_iload jx jb dX9_change_10 (lv_at hl 4 rfl) ?_
    refine w_rS (As := [.int a, .int b, .int r]) X hW (c_isBranch) ml_X9_76 mf_X9_isBranch ⟨Nat.le_of_ble_eq_true rfl, Nat.le_of_ble_eq_true rfl⟩ hl.1 rfl (Nat.le_of_ble_eq_true rfl) ⟨Nat.le_of_ble_eq_true rfl, Nat.le_of_ble_eq_true rfl⟩ dX9_change_12 (fun H locs hW => ?_)
    refine lv_if_ne (tgt := 20) jx jb dX9_change_15 (by decide) (fun c15 => ?_) (fun c15 => ?_)
    · exact absurd ⟨bI_n0.mp c5, bI_n0.mp c15⟩ hno
    · refine lv_iconst (v := 0) jx jb dX9_change_18 (by decide) ?_
      exact ret _ _ _ _ _ dX9_change_19 hW rfl

theorem QM_set {q q1 : Nat → Nat → Int32} {M : M4} {b w t r : Nat} (h : QM q M) (u1 : q1 65 = upd (q 65) b (nI w)) (u2 : q1 66 = upd (q 66) b (nI t)) (u3 : q1 67 = upd (q 67) b (nI r)) (hs : q1 64 = q 64) : QM q1 (setM M b w t r) := by
  refine ⟨fun k hk => by rw [hs]; exact h.1 k hk, fun c hc hq => ?_⟩
  rw [u1, u2, u3]
  show upd (q 65) b (nI w) c = nI (va_up M.2.1 b w c) ∧ upd (q 66) b (nI t) c = nI (va_up M.2.2.1 b t c) ∧ upd (q 67) b (nI r) c = nI (va_up M.2.2.2 b r c)
  by_cases e : c = b
  · rw [e, pk_us, pk_us, pk_us, va_up_s, va_up_s, va_up_s]
    exact ⟨rfl, rfl, rfl⟩
  · rw [pk_un e, pk_un e, pk_un e, va_up_n e, va_up_n e, va_up_n e]
    exact h.2 c hc hq
theorem QM_add {q q1 : Nat → Nat → Int32} {M : M4} {k w t r : Nat} (h : QM q M) (hk : k < 6) (u1 : q1 65 = upd (q 65) (4 * k + M.1 k) (nI w)) (u2 : q1 66 = upd (q 66) (4 * k + M.1 k) (nI t)) (u3 : q1 67 = upd (q 67) (4 * k + M.1 k) (nI r)) (hs : q1 64 = upd (q 64) k (nI (M.1 k + 1))) : QM q1 (addM M k w t r) := by
  refine ⟨fun j hj => ?_, fun c hc hq => ?_⟩
  · rw [hs]
    show upd (q 64) k (nI (M.1 k + 1)) j = nI (va_up M.1 k (M.1 k + 1) j)
    by_cases e : j = k
    · rw [e, pk_us, va_up_s]
    · rw [pk_un e, va_up_n e]; exact h.1 j hj
  · rw [u1, u2, u3]
    show upd (q 65) (4 * k + M.1 k) (nI w) c = nI (va_up M.2.1 (4 * k + M.1 k) w c) ∧ upd (q 66) (4 * k + M.1 k) (nI t) c = nI (va_up M.2.2.1 (4 * k + M.1 k) t c) ∧ upd (q 67) (4 * k + M.1 k) (nI r) c = nI (va_up M.2.2.2 (4 * k + M.1 k) r c)
    by_cases e : c = 4 * k + M.1 k
    · rw [e, pk_us, pk_us, pk_us, va_up_s, va_up_s, va_up_s]
      exact ⟨rfl, rfl, rfl⟩
    · rw [pk_un e, pk_un e, pk_un e, va_up_n e, va_up_n e, va_up_n e]
      exact h.2 c hc ((add_lt e).mp hq)

set_option maxHeartbeats 4000000 in
set_option maxRecDepth 100000 in
theorem c_mChange {l : Launch} {G : va_G} {cy : Nat → ClassId} {N : Nat} {ad : Nat → Nat} {g : Nat → va_E} {M : M4} {lg : List Nat} {lr lt : Nat → Int32} {st T : Nat} {y : Nat → TT} {b w t r : Nat} (hMA : MAt cy N ad g M lg lr lt st T y) (hb : b < 24) (hm : b % 4 < M.1 (b / 4)) (hw : okW w) (ht : okT t) (hr : r < 4) : MI l G cy (N, ad, g) yX9_change cX9_change 6 (some .boolean) (rmN 2) [.ref (ad 63), .int (nI b), .int (nI w), .int (nI t), .int (nI r)] (nA N ad (fun v g1 => v = 1 ∧ MAt cy N ad g1 (setM M b w t r) lg lr lt st T (fun i => tM b (y i)) ∧ ∀ k, ¬ (63 ≤ k ∧ k < 83) → g1 k = g k)) := by
  refine NI.mk (by decide) (by intro v g1 h; rw [h.1]; decide) (Nat.le_of_ble_eq_true rfl) ?_
  intro jp je js jm below meth jc A Q X hW ret ls hl
  have jx := X.hx
  have jb := X.hb
  have hl : lv_has ls 6 [(0, .ref (ad 63)), (1, .int (nI b)), (2, .int (nI w)), (3, .int (nI t)), (4, .int (nI r))] := hl
  have X : Cx G cy jp js jm _ jc cX9_change 6 RX9 A js.heap := X
  obtain ⟨q, to, hR, hok, hQ, hL, hst, hS4, hT12, hQT⟩ := id hMA
  have h83 : 83 ≤ N := hR.1
  have hl200 := hL.1
  refine lv_aload_n jx jb dX9_change_0 rfl (lv_at hl 0 rfl) ?_
  refine lv_iload_n jx jb dX9_change_1 rfl (lv_at hl 1 rfl) ?_
  have m1 : g 63 = .inr (9, [.ref (ad 64), .ref (ad 65), .ref (ad 66), .ref (ad 67), .int (nI lg.length), .ref (ad 68), .ref (ad 69), .ref (ad 70), .ref (ad 71), .ref (ad 72), .int (nI T), .ref (ad 73), .ref (ad 74), .ref (ad 75), .ref (ad 76), .ref (ad 77), .ref (ad 78), .ref (ad 79), .ref (ad 80), .int to, .ref (ad 81), .ref (ad 82)]) := hR.2.1
  refine w_rV (As := [.int (nI b)]) X hW (c_isThere hR hok.1 hQ.1) (by omega) m1 rfl rfl ml_X9_87 mf_X9_isThere ⟨Nat.le_of_ble_eq_true rfl, Nat.le_of_ble_eq_true rfl⟩ hl.1 rfl (Nat.le_of_ble_eq_true rfl) ⟨Nat.le_of_ble_eq_true rfl, Nat.le_of_ble_eq_true rfl⟩ dX9_change_2 (fun H locs hW => ?_)
  refine lv_if_eq (tgt := 18) jx jb dX9_change_5 (by decide) (fun c5 => ?_) (fun c5 => ?_)
  · exact absurd c5 (bI_n0.mpr ((isB_nI hb).mpr hm))
  · refine lv_iload_n jx jb dX9_change_8 rfl (lv_at hl 2 rfl) ?_
    refine lv_iload_n jx jb dX9_change_9 rfl (lv_at hl 3 rfl) ?_
    refine lv_iload jx jb dX9_change_10 (lv_at hl 4 rfl) ?_
    refine w_rS (As := [.int (nI w), .int (nI t), .int (nI r)]) X hW (c_isBranch) ml_X9_76 mf_X9_isBranch ⟨Nat.le_of_ble_eq_true rfl, Nat.le_of_ble_eq_true rfl⟩ hl.1 rfl (Nat.le_of_ble_eq_true rfl) ⟨Nat.le_of_ble_eq_true rfl, Nat.le_of_ble_eq_true rfl⟩ dX9_change_12 (fun H locs hW => ?_)
    refine lv_if_ne (tgt := 20) jx jb dX9_change_15 (by decide) (fun c15 => ?_) (fun c15 => ?_)
    · refine lv_aload_n jx jb dX9_change_20 rfl (lv_at hl 0 rfl) ?_
      refine lv_iload_n jx jb dX9_change_21 rfl (lv_at hl 1 rfl) ?_
      refine lv_iload_n jx jb dX9_change_22 rfl (lv_at hl 2 rfl) ?_
      refine lv_iload_n jx jb dX9_change_23 rfl (lv_at hl 3 rfl) ?_
      refine lv_iload jx jb dX9_change_24 (lv_at hl 4 rfl) ?_
      refine w_nVv (As := [.int (nI b), .int (nI w), .int (nI t), .int (nI r)]) X hW (c_tells (b := b) hR hb) (by omega) m1 rfl rfl ml_X9_79 mf_X9_tells ⟨Nat.le_of_ble_eq_true rfl, Nat.le_of_ble_eq_true rfl⟩ hl.1 rfl (Nat.le_of_ble_eq_true rfl) ⟨Nat.le_of_ble_eq_true rfl, Nat.le_of_ble_eq_true rfl⟩ dX9_change_26 (fun gT H locs hp hW => ?_)
      obtain ⟨qT, hRT, u1, u2, u3, hsT, frT⟩ := hp
      refine lv_iconst (v := 0) jx jb dX9_change_29 (by decide) ?_
      refine lv_istore (lv' := [(5, .int 0), (0, .ref (ad 63)), (1, .int (nI b)), (2, .int (nI w)), (3, .int (nI t)), (4, .int (nI r))]) jx jb dX9_change_30 hl (by decide) rfl (fun ls hl => ?_)
      have loop32 : ∀ (fuel32 : Nat) (k : Nat) (qL32 : Nat → Nat → Int32) (gL32 : Nat → va_E) (H : Heap) (locs : List Loc) (ls : Array Slot), (MRaw cy N ad gL32 qL32 (nI lg.length) (nI T) to) → (∀ k, ¬ (63 ≤ k ∧ k < 83) → gL32 k = g k) → (k ≤ T) → (∀ a, a ≠ 78 → qL32 a = qT a) → (∀ i, i < T → QT qL32 i (if i < k then tM b (y i) else y i)) → T - k < fuel32 → Wd G A js.heap (N, ad, gL32) H locs → lv_has ls 6 [(0, .ref (ad 63)), (1, .int (nI b)), (5, .int (nI k))] → W jp l je (rmN 2) js jm [.ref (ad 63), .int (nI b), .int (nI w), .int (nI t), .int (nI r)].toArray below meth jc H locs 0 0 Q (F0 jm 32 ls []) := by
        intro fuel32
        induction fuel32 with
        | zero => intro k qL32 gL32 H locs ls hR32 hfr32 hk hsm hqt  hm32; exact absurd hm32 (Nat.not_lt_zero _)
        | succ fuel32 ih32 =>
          intro k qL32 gL32 H locs ls hR32 hfr32 hk hsm hqt  hm32 hW hl
          refine lv_iload jx jb dX9_change_32 (lv_at hl 2 rfl) ?_
          refine lv_aload_n jx jb dX9_change_34 rfl (lv_at hl 0 rfl) ?_
          have m2 : gL32 63 = .inr (9, [.ref (ad 64), .ref (ad 65), .ref (ad 66), .ref (ad 67), .int (nI lg.length), .ref (ad 68), .ref (ad 69), .ref (ad 70), .ref (ad 71), .ref (ad 72), .int (nI T), .ref (ad 73), .ref (ad 74), .ref (ad 75), .ref (ad 76), .ref (ad 77), .ref (ad 78), .ref (ad 79), .ref (ad 80), .int to, .ref (ad 81), .ref (ad 82)]) := hR32.2.1
          refine w_get X hW K9 (by omega) m2 10 (by decide) fl_X9_83 rfl dX9_change_35 ?_
          refine lv_icmp_ge (tgt := 84) jx jb dX9_change_38 (by decide) (fun c38 => ?_) (fun c38 => ?_)
          · refine lv_iconst (v := 1) jx jb dX9_change_84 (by decide) ?_
            exact ret _ _ _ _ _ _ dX9_change_85 hW (by have := n_le (by omega) (by omega) c38; have e : k = T := (by omega); exact ⟨rfl, ⟨_, _, hR32, okM_set hok hw ht hr, (QM_set hQ u1 u2 u3 (hsT 64 (by decide) (by decide) (by decide))).of (fun a h1 h2 => hsm a (by omega)), hL.of (fun a h1 h2 => (hsm a (by omega)).trans (hsT a (by omega) (by omega) (by omega))), hst, (fun j hj => by rw [hsm 72 (by decide), hsT 72 (by decide) (by decide) (by decide)]; exact hS4 j hj), hT12, fun i hi => by have := hqt i hi; rwa [if_pos (by omega)] at this⟩, (fun k hk => by show gL32 k = _; rw [hfr32 k hk])⟩)
          · have hlt : k < T := n_nle (by omega) (by omega) c38
            have hk0 : QT qL32 k (y k) := by have := hqt k hlt; rwa [if_neg (Nat.lt_irrefl k)] at this
            have hr200 := hk0.1.1
            refine lv_aload_n jx jb dX9_change_41 rfl (lv_at hl 0 rfl) ?_
            refine w_get X hW K9 (by omega) m2 16 (by decide) fl_X9_52 rfl dX9_change_42 ?_
            refine lv_iload jx jb dX9_change_45 (lv_at hl 2 rfl) ?_
            refine lv_aload_n jx jb dX9_change_47 rfl (lv_at hl 0 rfl) ?_
            refine w_get X hW K9 (by omega) m2 16 (by decide) fl_X9_52 rfl dX9_change_48 ?_
            refine lv_iload jx jb dX9_change_51 (lv_at hl 2 rfl) ?_
            have m3 : gL32 78 = .inl (cy 1, 12, .inl (qL32 78)) := hR32.2.2 78 (by decide) (by decide)
            refine w_zld X hW (by omega) m3 k rfl (by omega) (by decide) dX9_change_53 ?_
            refine top_eq (y := bI ((y k).2.2.2.1 = true)) (hk0.2.2.2.2.1) ?_
            refine lv_if_ne (tgt := 72) jx jb dX9_change_54 (by decide) (fun c54 => ?_) (fun c54 => ?_)
            · refine lv_iconst (v := 1) jx jb dX9_change_72 (by decide) ?_
              refine lv_goto (tgt := 77) jx jb dX9_change_73 (by decide) ?_
              refine top_eq (y := bI ((tM b (y k)).2.2.2.1 = true)) ((bI_t (by unfold tM; rw [Bool.or_eq_true]; exact Or.inl (bI_n0.mp c54))).symm) ?_
              refine w_zst X hW (by omega) m3 k rfl (by omega) (by decide) (by first | exact Or.inl rfl | exact Or.inr rfl | exact bI_01) dX9_change_77 (fun H locs hW => ?_)
              obtain ⟨g_4, eg_4⟩ : ∃ zz, zz = va_up gL32 78 (.inl (cy 1, 12, .inl (upd (qL32 78) k (bI ((tM b (y k)).2.2.2.1 = true))))) := ⟨_, rfl⟩
              have hW : Wd G A js.heap (N, ad, g_4) H locs := by rw [eg_4]; exact hW
              obtain ⟨q_6, eq_6⟩ : ∃ zz, zz = va_up qL32 78 (upd (qL32 78) k (bI ((tM b (y k)).2.2.2.1 = true))) := ⟨_, rfl⟩
              have hR5 : MRaw cy N ad g_4 q_6 (nI lg.length) (nI T) to := by rw [eq_6]; exact hR32.put (by decide) (by decide) (fun k hk => by rw [eg_4, va_up_n hk]) (by rw [eg_4]; exact va_up_s)
              refine lv_iinc (v := nI (k + 1)) (lv' := [(5, .int (nI (k + 1))), (0, .ref (ad 63)), (1, .int (nI b))]) jx jb dX9_change_78 hl (k := 2) rfl (show nI k + 1 = nI (k + 1) from nI_1 _) (by decide) rfl (fun ls hl => ?_)
              refine lv_goto (tgt := 32) jx jb dX9_change_81 (by decide) ?_
              exact ih32 (k + 1) q_6 g_4 _ _ _ hR5 (fun k hk => by show g_4 k = _; rw [eg_4, va_up_n (by omega), hfr32 k hk]) (by omega) (fun a ha => by rw [eq_6, va_up_n ha]; exact hsm a ha) (upto_step (fun i hi ne => (hqt i hi).flags (fun a h1 h2 => by rw [eq_6, va_up_n (by omega)]) (by rw [eq_6, va_up_s, pk_un ne]; exact (hqt i hi).2.2.2.2.1) (by rw [eq_6, va_up_n (by decide)]; exact (hqt i hi).2.2.2.2.2.1)) (hk0.flags (fun a h1 h2 => by rw [eq_6, va_up_n (by omega)]) (by rw [eq_6, va_up_s, pk_us]; rfl) (by rw [eq_6, va_up_n (by decide)]; exact hk0.2.2.2.2.2.1)))  (by omega) hW (lv_sub hl [1, 2, 0] rfl)
            · refine lv_aload_n jx jb dX9_change_57 rfl (lv_at hl 0 rfl) ?_
              refine w_get X hW K9 (by omega) m2 15 (by decide) fl_X9_49 rfl dX9_change_58 ?_
              refine lv_iload jx jb dX9_change_61 (lv_at hl 2 rfl) ?_
              have m7 : gL32 77 = .inl (cy 0, 12, .inl (qL32 77)) := hR32.2.2 77 (by decide) (by decide)
              refine w_ild X hW (by omega) m7 k rfl (by omega) (by decide) dX9_change_63 ?_
              refine top_eq (y := (y k).2.2.1) (hk0.2.2.2.1) ?_
              refine lv_iload_n jx jb dX9_change_64 rfl (lv_at hl 1 rfl) ?_
              refine lv_ishr jx jb dX9_change_65 ?_
              refine lv_iconst (v := 1) jx jb dX9_change_66 (by decide) ?_
              refine lv_iand jx jb dX9_change_67 ?_
              refine lv_iconst (v := 1) jx jb dX9_change_68 (by decide) ?_
              refine lv_icmp_ne (tgt := 76) jx jb dX9_change_69 (by decide) (fun c69 => ?_) (fun c69 => ?_)
              · refine lv_iconst (v := 0) jx jb dX9_change_76 (by decide) ?_
                refine top_eq (y := bI ((tM b (y k)).2.2.2.1 = true)) ((bI_f (by unfold tM; rw [Bool.or_eq_true, decide_eq_true_eq]; exact fun z => z.elim (bI_0.mp c54) c69)).symm) ?_
                refine w_zst X hW (by omega) m3 k rfl (by omega) (by decide) (by first | exact Or.inl rfl | exact Or.inr rfl | exact bI_01) dX9_change_77 (fun H locs hW => ?_)
                obtain ⟨g_8, eg_8⟩ : ∃ zz, zz = va_up gL32 78 (.inl (cy 1, 12, .inl (upd (qL32 78) k (bI ((tM b (y k)).2.2.2.1 = true))))) := ⟨_, rfl⟩
                have hW : Wd G A js.heap (N, ad, g_8) H locs := by rw [eg_8]; exact hW
                obtain ⟨q_10, eq_10⟩ : ∃ zz, zz = va_up qL32 78 (upd (qL32 78) k (bI ((tM b (y k)).2.2.2.1 = true))) := ⟨_, rfl⟩
                have hR9 : MRaw cy N ad g_8 q_10 (nI lg.length) (nI T) to := by rw [eq_10]; exact hR32.put (by decide) (by decide) (fun k hk => by rw [eg_8, va_up_n hk]) (by rw [eg_8]; exact va_up_s)
                refine lv_iinc (v := nI (k + 1)) (lv' := [(5, .int (nI (k + 1))), (0, .ref (ad 63)), (1, .int (nI b))]) jx jb dX9_change_78 hl (k := 2) rfl (show nI k + 1 = nI (k + 1) from nI_1 _) (by decide) rfl (fun ls hl => ?_)
                refine lv_goto (tgt := 32) jx jb dX9_change_81 (by decide) ?_
                exact ih32 (k + 1) q_10 g_8 _ _ _ hR9 (fun k hk => by show g_8 k = _; rw [eg_8, va_up_n (by omega), hfr32 k hk]) (by omega) (fun a ha => by rw [eq_10, va_up_n ha]; exact hsm a ha) (upto_step (fun i hi ne => (hqt i hi).flags (fun a h1 h2 => by rw [eq_10, va_up_n (by omega)]) (by rw [eq_10, va_up_s, pk_un ne]; exact (hqt i hi).2.2.2.2.1) (by rw [eq_10, va_up_n (by decide)]; exact (hqt i hi).2.2.2.2.2.1)) (hk0.flags (fun a h1 h2 => by rw [eq_10, va_up_n (by omega)]) (by rw [eq_10, va_up_s, pk_us]; rfl) (by rw [eq_10, va_up_n (by decide)]; exact hk0.2.2.2.2.2.1)))  (by omega) hW (lv_sub hl [1, 2, 0] rfl)
              · refine lv_iconst (v := 1) jx jb dX9_change_72 (by decide) ?_
                refine lv_goto (tgt := 77) jx jb dX9_change_73 (by decide) ?_
                refine top_eq (y := bI ((tM b (y k)).2.2.2.1 = true)) ((bI_t (by unfold tM; rw [Bool.or_eq_true, decide_eq_true_eq]; exact Or.inr c69)).symm) ?_
                refine w_zst X hW (by omega) m3 k rfl (by omega) (by decide) (by first | exact Or.inl rfl | exact Or.inr rfl | exact bI_01) dX9_change_77 (fun H locs hW => ?_)
                obtain ⟨g_11, eg_11⟩ : ∃ zz, zz = va_up gL32 78 (.inl (cy 1, 12, .inl (upd (qL32 78) k (bI ((tM b (y k)).2.2.2.1 = true))))) := ⟨_, rfl⟩
                have hW : Wd G A js.heap (N, ad, g_11) H locs := by rw [eg_11]; exact hW
                obtain ⟨q_13, eq_13⟩ : ∃ zz, zz = va_up qL32 78 (upd (qL32 78) k (bI ((tM b (y k)).2.2.2.1 = true))) := ⟨_, rfl⟩
                have hR12 : MRaw cy N ad g_11 q_13 (nI lg.length) (nI T) to := by rw [eq_13]; exact hR32.put (by decide) (by decide) (fun k hk => by rw [eg_11, va_up_n hk]) (by rw [eg_11]; exact va_up_s)
                refine lv_iinc (v := nI (k + 1)) (lv' := [(5, .int (nI (k + 1))), (0, .ref (ad 63)), (1, .int (nI b))]) jx jb dX9_change_78 hl (k := 2) rfl (show nI k + 1 = nI (k + 1) from nI_1 _) (by decide) rfl (fun ls hl => ?_)
                refine lv_goto (tgt := 32) jx jb dX9_change_81 (by decide) ?_
                exact ih32 (k + 1) q_13 g_11 _ _ _ hR12 (fun k hk => by show g_11 k = _; rw [eg_11, va_up_n (by omega), hfr32 k hk]) (by omega) (fun a ha => by rw [eq_13, va_up_n ha]; exact hsm a ha) (upto_step (fun i hi ne => (hqt i hi).flags (fun a h1 h2 => by rw [eq_13, va_up_n (by omega)]) (by rw [eq_13, va_up_s, pk_un ne]; exact (hqt i hi).2.2.2.2.1) (by rw [eq_13, va_up_n (by decide)]; exact (hqt i hi).2.2.2.2.2.1)) (hk0.flags (fun a h1 h2 => by rw [eq_13, va_up_n (by omega)]) (by rw [eq_13, va_up_s, pk_us]; rfl) (by rw [eq_13, va_up_n (by decide)]; exact hk0.2.2.2.2.2.1)))  (by omega) hW (lv_sub hl [1, 2, 0] rfl)
      exact loop32 _ 0 qT gT _ _ _ hRT (fun k hk => by show gT k = _; rw [frT k hk]) (by omega) (fun a _ => rfl) (fun i hi => by rw [if_neg (by omega)]; exact (hQT i hi).of (fun a h1 h2 => hsT a (by omega) (by omega) (by omega)))  (Nat.lt_succ_self _) hW (lv_sub hl [1, 2, 0] rfl)
    · exact absurd c15 (bI_n0.mpr ⟨(okWi_nI (by omega)).mpr hw, (okTi_nI (by omega)).mpr ht, i_0le (by omega), nI_lt (b := 4) hr (by decide)⟩)

set_option maxHeartbeats 4000000 in
set_option maxRecDepth 100000 in
theorem c_mBranchNo {l : Launch} {G : va_G} {cy : Nat → ClassId} {N : Nat} {ad : Nat → Nat} {g : Nat → va_E} {M : M4} {lg : List Nat} {lr lt : Nat → Int32} {st T : Nat} {y : Nat → TT} {kv a b r : Int32} (hMA : MAt cy N ad g M lg lr lt st T y) (hno : ¬ (hasR M kv ∧ okWi a ∧ okTi b ∧ 0 ≤ r ∧ r < 4)) : RI l G cy (N, ad, g) yX9_branch cX9_branch 8 (some .int) (rmN 2) [.ref (ad 63), .int kv, .int a, .int b, .int r] (-1) := by
  refine RI.mk (by decide) (by first | rfl | exact bI_nar) (Nat.le_of_ble_eq_true rfl) ?_
  intro jp je js jm below meth jc A Q X hW ret ls hl
  have jx := X.hx
  have jb := X.hb
  have hl : lv_has ls 8 [(0, .ref (ad 63)), (1, .int kv), (2, .int a), (3, .int b), (4, .int r)] := hl
  have X : Cx G cy jp js jm _ jc cX9_branch 8 RX9 A js.heap := X
  obtain ⟨q, to, hR, hok, hQ, hL, hst, hS4, hT12, hQT⟩ := id hMA
  have h83 : 83 ≤ N := hR.1
  have hl200 := hL.1
  refine lv_iload_n jx jb dX9_branch_0 rfl (lv_at hl 1 rfl) ?_
  refine w_rS (As := [.int kv]) X hW (c_isKind) ml_X9_72 mf_X9_isKind ⟨Nat.le_of_ble_eq_true rfl, Nat.le_of_ble_eq_true rfl⟩ hl.1 rfl (Nat.le_of_ble_eq_true rfl) ⟨Nat.le_of_ble_eq_true rfl, Nat.le_of_ble_eq_true rfl⟩ dX9_branch_1 (fun H locs hW => ?_)
  refine lv_if_eq (tgt := 27) jx jb dX9_branch_4 (by decide) (fun c4 => ?_) (fun c4 => ?_)
  · refine lv_iconst (v := -1) jx jb dX9_branch_27 (by decide) ?_
    exact ret _ _ _ _ _ dX9_branch_28 hW rfl
  · obtain ⟨kn, hkn, ekn⟩ := i_below (n := 6) (by decide) (bI_n0.mp c4)
    have h4n := hok.1 kn hkn
    refine lv_iload_n jx jb dX9_branch_7 rfl (lv_at hl 2 rfl) ?_
    refine lv_iload_n jx jb dX9_branch_8 rfl (lv_at hl 3 rfl) ?_
    refine lv_iload jx jb dX9_branch_9 (lv_at hl 4 rfl) ?_
    refine w_rS (As := [.int a, .int b, .int r]) X hW (c_isBranch) ml_X9_76 mf_X9_isBranch ⟨Nat.le_of_ble_eq_true rfl, Nat.le_of_ble_eq_true rfl⟩ hl.1 rfl (Nat.le_of_ble_eq_true rfl) ⟨Nat.le_of_ble_eq_true rfl, Nat.le_of_ble_eq_true rfl⟩ dX9_branch_11 (fun H locs hW => ?_)
    refine lv_if_eq (tgt := 27) jx jb dX9_branch_14 (by decide) (fun c14 => ?_) (fun c14 => ?_)
    · refine lv_iconst (v := -1) jx jb dX9_branch_27 (by decide) ?_
      exact ret _ _ _ _ _ dX9_branch_28 hW rfl
    · refine lv_aload_n jx jb dX9_branch_17 rfl (lv_at hl 0 rfl) ?_
      have m1 : g 63 = .inr (9, [.ref (ad 64), .ref (ad 65), .ref (ad 66), .ref (ad 67), .int (nI lg.length), .ref (ad 68), .ref (ad 69), .ref (ad 70), .ref (ad 71), .ref (ad 72), .int (nI T), .ref (ad 73), .ref (ad 74), .ref (ad 75), .ref (ad 76), .ref (ad 77), .ref (ad 78), .ref (ad 79), .ref (ad 80), .int to, .ref (ad 81), .ref (ad 82)]) := hR.2.1
      refine w_get X hW K9 (by omega) m1 0 (by decide) fl_X9_9 rfl dX9_branch_18 ?_
      refine lv_iload_n jx jb dX9_branch_21 rfl (lv_at hl 1 rfl) ?_
      have m2 : g 64 = .inl (cy 0, 6, .inl (q 64)) := hR.2.2 64 (by decide) (by decide)
      refine w_ild X hW (by omega) m2 kn ekn hkn (by decide) dX9_branch_22 ?_
      refine top_eq (y := nI (M.1 kn)) (hQ.1 kn hkn) ?_
      refine lv_iconst (v := 4) jx jb dX9_branch_23 (by decide) ?_
      refine lv_icmp_ne (tgt := 29) jx jb dX9_branch_24 (by decide) (fun c24 => ?_) (fun c24 => ?_)
      · exact absurd ⟨by rw [ekn]; exact (hasR_nI hkn).mpr (by have := n_ne (b := 4) (by omega) (by decide) c24; omega), bI_n0.mp c14⟩ hno
      · refine lv_iconst (v := -1) jx jb dX9_branch_27 (by decide) ?_
        exact ret _ _ _ _ _ dX9_branch_28 hW rfl

set_option maxHeartbeats 4000000 in
set_option maxRecDepth 100000 in
theorem c_mBranch {l : Launch} {G : va_G} {cy : Nat → ClassId} {N : Nat} {ad : Nat → Nat} {g : Nat → va_E} {M : M4} {lg : List Nat} {lr lt : Nat → Int32} {st T : Nat} {y : Nat → TT} {kd w t r : Nat} (hMA : MAt cy N ad g M lg lr lt st T y) (hk6 : kd < 6) (hm4 : M.1 kd < 4) (hw : okW w) (ht : okT t) (hr : r < 4) : MI l G cy (N, ad, g) yX9_branch cX9_branch 8 (some .int) (rmN 2) [.ref (ad 63), .int (nI kd), .int (nI w), .int (nI t), .int (nI r)] (nA N ad (fun v g1 => v = nI (M.1 kd + 1) ∧ MAt cy N ad g1 (addM M kd w t r) lg lr lt st T (fun i => tK kd (y i)) ∧ ∀ k, ¬ (63 ≤ k ∧ k < 83) → g1 k = g k)) := by
  refine NI.mk (by decide) (by intros; first | rfl | (simp_all; done)) (Nat.le_of_ble_eq_true rfl) ?_
  intro jp je js jm below meth jc A Q X hW ret ls hl
  have jx := X.hx
  have jb := X.hb
  have hl : lv_has ls 8 [(0, .ref (ad 63)), (1, .int (nI kd)), (2, .int (nI w)), (3, .int (nI t)), (4, .int (nI r))] := hl
  have X : Cx G cy jp js jm _ jc cX9_branch 8 RX9 A js.heap := X
  obtain ⟨q, to, hR, hok, hQ, hL, hst, hS4, hT12, hQT⟩ := id hMA
  have h83 : 83 ≤ N := hR.1
  have hl200 := hL.1
  refine lv_iload_n jx jb dX9_branch_0 rfl (lv_at hl 1 rfl) ?_
  refine w_rS (As := [.int (nI kd)]) X hW (c_isKind) ml_X9_72 mf_X9_isKind ⟨Nat.le_of_ble_eq_true rfl, Nat.le_of_ble_eq_true rfl⟩ hl.1 rfl (Nat.le_of_ble_eq_true rfl) ⟨Nat.le_of_ble_eq_true rfl, Nat.le_of_ble_eq_true rfl⟩ dX9_branch_1 (fun H locs hW => ?_)
  refine lv_if_eq (tgt := 27) jx jb dX9_branch_4 (by decide) (fun c4 => ?_) (fun c4 => ?_)
  · exact absurd (c4.symm.trans (bel_t (b := 6) hk6 (by decide))) (by decide)
  · refine lv_iload_n jx jb dX9_branch_7 rfl (lv_at hl 2 rfl) ?_
    refine lv_iload_n jx jb dX9_branch_8 rfl (lv_at hl 3 rfl) ?_
    refine lv_iload jx jb dX9_branch_9 (lv_at hl 4 rfl) ?_
    refine w_rS (As := [.int (nI w), .int (nI t), .int (nI r)]) X hW (c_isBranch) ml_X9_76 mf_X9_isBranch ⟨Nat.le_of_ble_eq_true rfl, Nat.le_of_ble_eq_true rfl⟩ hl.1 rfl (Nat.le_of_ble_eq_true rfl) ⟨Nat.le_of_ble_eq_true rfl, Nat.le_of_ble_eq_true rfl⟩ dX9_branch_11 (fun H locs hW => ?_)
    refine lv_if_eq (tgt := 27) jx jb dX9_branch_14 (by decide) (fun c14 => ?_) (fun c14 => ?_)
    · exact absurd c14 (bI_n0.mpr ⟨(okWi_nI (by omega)).mpr hw, (okTi_nI (by omega)).mpr ht, i_0le (by omega), nI_lt (b := 4) hr (by decide)⟩)
    · refine lv_aload_n jx jb dX9_branch_17 rfl (lv_at hl 0 rfl) ?_
      have m1 : g 63 = .inr (9, [.ref (ad 64), .ref (ad 65), .ref (ad 66), .ref (ad 67), .int (nI lg.length), .ref (ad 68), .ref (ad 69), .ref (ad 70), .ref (ad 71), .ref (ad 72), .int (nI T), .ref (ad 73), .ref (ad 74), .ref (ad 75), .ref (ad 76), .ref (ad 77), .ref (ad 78), .ref (ad 79), .ref (ad 80), .int to, .ref (ad 81), .ref (ad 82)]) := hR.2.1
      refine w_get X hW K9 (by omega) m1 0 (by decide) fl_X9_9 rfl dX9_branch_18 ?_
      refine lv_iload_n jx jb dX9_branch_21 rfl (lv_at hl 1 rfl) ?_
      have m2 : g 64 = .inl (cy 0, 6, .inl (q 64)) := hR.2.2 64 (by decide) (by decide)
      refine w_ild X hW (by omega) m2 kd rfl hk6 (by decide) dX9_branch_22 ?_
      refine top_eq (y := nI (M.1 kd)) (hQ.1 kd hk6) ?_
      refine lv_iconst (v := 4) jx jb dX9_branch_23 (by decide) ?_
      refine lv_icmp_ne (tgt := 29) jx jb dX9_branch_24 (by decide) (fun c24 => ?_) (fun c24 => ?_)
      · refine lv_aload_n jx jb dX9_branch_29 rfl (lv_at hl 0 rfl) ?_
        refine lv_iconst (v := 4) jx jb dX9_branch_30 (by decide) ?_
        refine lv_iload_n jx jb dX9_branch_31 rfl (lv_at hl 1 rfl) ?_
        refine lv_imul jx jb dX9_branch_32 ?_
        refine lv_aload_n jx jb dX9_branch_33 rfl (lv_at hl 0 rfl) ?_
        refine w_get X hW K9 (by omega) m1 0 (by decide) fl_X9_9 rfl dX9_branch_34 ?_
        refine lv_iload_n jx jb dX9_branch_37 rfl (lv_at hl 1 rfl) ?_
        refine w_ild X hW (by omega) m2 kd rfl hk6 (by decide) dX9_branch_38 ?_
        refine top_eq (y := nI (M.1 kd)) (hQ.1 kd hk6) ?_
        refine lv_iadd jx jb dX9_branch_39 ?_
        refine top_eq (y := nI (4 * kd + M.1 kd)) (by rw [show (4 : Int32) = nI 4 from rfl, pk_mul, nI_add]) ?_
        refine lv_iload_n jx jb dX9_branch_40 rfl (lv_at hl 2 rfl) ?_
        refine lv_iload_n jx jb dX9_branch_41 rfl (lv_at hl 3 rfl) ?_
        refine lv_iload jx jb dX9_branch_42 (lv_at hl 4 rfl) ?_
        refine w_nVv (As := [.int (nI (4 * kd + M.1 kd)), .int (nI w), .int (nI t), .int (nI r)]) X hW (c_tells (b := 4 * kd + M.1 kd) hR (by omega)) (by omega) m1 rfl rfl ml_X9_79 mf_X9_tells ⟨Nat.le_of_ble_eq_true rfl, Nat.le_of_ble_eq_true rfl⟩ hl.1 rfl (Nat.le_of_ble_eq_true rfl) ⟨Nat.le_of_ble_eq_true rfl, Nat.le_of_ble_eq_true rfl⟩ dX9_branch_44 (fun gT H locs hp hW => ?_)
        obtain ⟨qT, hRT, u1, u2, u3, hsT, frT⟩ := hp
        refine lv_iconst (v := 0) jx jb dX9_branch_47 (by decide) ?_
        refine lv_istore (lv' := [(5, .int 0), (0, .ref (ad 63)), (1, .int (nI kd)), (2, .int (nI w)), (3, .int (nI t)), (4, .int (nI r))]) jx jb dX9_branch_48 hl (by decide) rfl (fun ls hl => ?_)
        have loop50 : ∀ (fuel50 : Nat) (k : Nat) (qL50 : Nat → Nat → Int32) (gL50 : Nat → va_E) (H : Heap) (locs : List Loc) (ls : Array Slot), (MRaw cy N ad gL50 qL50 (nI lg.length) (nI T) to) → (∀ k, ¬ (63 ≤ k ∧ k < 83) → gL50 k = g k) → (k ≤ T) → (∀ a, a ≠ 78 → qL50 a = qT a) → (∀ i, i < T → QT qL50 i (if i < k then tK kd (y i) else y i)) → T - k < fuel50 → Wd G A js.heap (N, ad, gL50) H locs → lv_has ls 8 [(0, .ref (ad 63)), (1, .int (nI kd)), (5, .int (nI k))] → W jp l je (rmN 2) js jm [.ref (ad 63), .int (nI kd), .int (nI w), .int (nI t), .int (nI r)].toArray below meth jc H locs 0 0 Q (F0 jm 50 ls []) := by
          intro fuel50
          induction fuel50 with
          | zero => intro k qL50 gL50 H locs ls hR50 hfr50 hk hsm hqt  hm50; exact absurd hm50 (Nat.not_lt_zero _)
          | succ fuel50 ih50 =>
            intro k qL50 gL50 H locs ls hR50 hfr50 hk hsm hqt  hm50 hW hl
            refine lv_iload jx jb dX9_branch_50 (lv_at hl 2 rfl) ?_
            refine lv_aload_n jx jb dX9_branch_52 rfl (lv_at hl 0 rfl) ?_
            have m3 : gL50 63 = .inr (9, [.ref (ad 64), .ref (ad 65), .ref (ad 66), .ref (ad 67), .int (nI lg.length), .ref (ad 68), .ref (ad 69), .ref (ad 70), .ref (ad 71), .ref (ad 72), .int (nI T), .ref (ad 73), .ref (ad 74), .ref (ad 75), .ref (ad 76), .ref (ad 77), .ref (ad 78), .ref (ad 79), .ref (ad 80), .int to, .ref (ad 81), .ref (ad 82)]) := hR50.2.1
            refine w_get X hW K9 (by omega) m3 10 (by decide) fl_X9_83 rfl dX9_branch_53 ?_
            refine lv_icmp_ge (tgt := 167) jx jb dX9_branch_56 (by decide) (fun c56 => ?_) (fun c56 => ?_)
            · refine lv_aload_n jx jb dX9_branch_167 rfl (lv_at hl 0 rfl) ?_
              refine w_get X hW K9 (by omega) m3 0 (by decide) fl_X9_9 rfl dX9_branch_168 ?_
              refine lv_iload_n jx jb dX9_branch_171 rfl (lv_at hl 1 rfl) ?_
              refine lv_dup2_11 jx jb dX9_branch_172 rfl rfl ?_
              have m4 : gL50 64 = .inl (cy 0, 6, .inl (qL50 64)) := hR50.2.2 64 (by decide) (by decide)
              refine w_ild X hW (by omega) m4 kd rfl hk6 (by decide) dX9_branch_173 ?_
              refine top_eq (y := nI (M.1 kd)) (by rw [hsm 64 (by decide), hsT 64 (by decide) (by decide) (by decide)]; exact hQ.1 kd hk6) ?_
              refine lv_iconst (v := 1) jx jb dX9_branch_174 (by decide) ?_
              refine lv_iadd jx jb dX9_branch_175 ?_
              refine top_eq (y := nI (M.1 kd + 1)) (nI_1 _) ?_
              refine w_ist X hW (by omega) m4 kd rfl hk6 (by decide) dX9_branch_176 (fun H locs hW => ?_)
              obtain ⟨g_5, eg_5⟩ : ∃ zz, zz = va_up gL50 64 (.inl (cy 0, 6, .inl (upd (qL50 64) kd (nI (M.1 kd + 1))))) := ⟨_, rfl⟩
              have hW : Wd G A js.heap (N, ad, g_5) H locs := by rw [eg_5]; exact hW
              obtain ⟨q_7, eq_7⟩ : ∃ zz, zz = va_up qL50 64 (upd (qL50 64) kd (nI (M.1 kd + 1))) := ⟨_, rfl⟩
              have hR6 : MRaw cy N ad g_5 q_7 (nI lg.length) (nI T) to := by rw [eq_7]; exact hR50.put (by decide) (by decide) (fun k hk => by rw [eg_5, va_up_n hk]) (by rw [eg_5]; exact va_up_s)
              refine lv_aload_n jx jb dX9_branch_177 rfl (lv_at hl 0 rfl) ?_
              have m8 : g_5 63 = .inr (9, [.ref (ad 64), .ref (ad 65), .ref (ad 66), .ref (ad 67), .int (nI lg.length), .ref (ad 68), .ref (ad 69), .ref (ad 70), .ref (ad 71), .ref (ad 72), .int (nI T), .ref (ad 73), .ref (ad 74), .ref (ad 75), .ref (ad 76), .ref (ad 77), .ref (ad 78), .ref (ad 79), .ref (ad 80), .int to, .ref (ad 81), .ref (ad 82)]) := hR6.2.1
              refine w_get X hW K9 (by omega) m8 0 (by decide) fl_X9_9 rfl dX9_branch_178 ?_
              refine lv_iload_n jx jb dX9_branch_181 rfl (lv_at hl 1 rfl) ?_
              have m9 : g_5 64 = .inl (cy 0, 6, .inl (q_7 64)) := hR6.2.2 64 (by decide) (by decide)
              refine w_ild X hW (by omega) m9 kd rfl hk6 (by decide) dX9_branch_182 ?_
              exact ret _ _ _ _ _ _ dX9_branch_183 hW ⟨by rw [eq_7, va_up_s, pk_us], ⟨_, _, hR6, okM_add hok hk6 hm4 hw ht hr, QM_add hQ hk6 (by rw [eq_7, va_up_n (by decide), hsm 65 (by decide)]; exact u1) (by rw [eq_7, va_up_n (by decide), hsm 66 (by decide)]; exact u2) (by rw [eq_7, va_up_n (by decide), hsm 67 (by decide)]; exact u3) (by rw [eq_7, va_up_s, hsm 64 (by decide), hsT 64 (by decide) (by decide) (by decide)]), hL.of (fun a h1 h2 => by rw [eq_7, va_up_n (by omega), hsm a (by omega)]; exact hsT a (by omega) (by omega) (by omega)), hst, (fun j hj => by rw [eq_7, va_up_n (by decide), hsm 72 (by decide), hsT 72 (by decide) (by decide) (by decide)]; exact hS4 j hj), hT12, fun i hi => by have h9 := hqt i hi; rw [if_pos (by have := n_le (by omega) (by omega) c56; omega)] at h9; exact h9.of (fun a h1 h2 => by rw [eq_7, va_up_n (by omega)])⟩, (fun k hk => by show g_5 k = _; rw [eg_5, va_up_n (by omega), hfr50 k hk])⟩
            · have hlt : k < T := n_nle (by omega) (by omega) c56
              have hk0 : QT qL50 k (y k) := by have := hqt k hlt; rwa [if_neg (Nat.lt_irrefl k)] at this
              have hr200 := hk0.1.1
              refine lv_aload_n jx jb dX9_branch_59 rfl (lv_at hl 0 rfl) ?_
              refine w_get X hW K9 (by omega) m3 15 (by decide) fl_X9_49 rfl dX9_branch_60 ?_
              refine lv_iload jx jb dX9_branch_63 (lv_at hl 2 rfl) ?_
              have m10 : gL50 77 = .inl (cy 0, 12, .inl (qL50 77)) := hR50.2.2 77 (by decide) (by decide)
              refine w_ild X hW (by omega) m10 k rfl (by omega) (by decide) dX9_branch_65 ?_
              refine top_eq (y := (y k).2.2.1) (hk0.2.2.2.1) ?_
              refine lv_iconst (v := 4) jx jb dX9_branch_66 (by decide) ?_
              refine lv_iload_n jx jb dX9_branch_67 rfl (lv_at hl 1 rfl) ?_
              refine lv_imul jx jb dX9_branch_68 ?_
              refine lv_ishr jx jb dX9_branch_69 ?_
              refine lv_bipush (v := 15) jx jb dX9_branch_70 (by decide) ?_
              refine lv_iand jx jb dX9_branch_72 ?_
              refine lv_if_eq (tgt := 80) jx jb dX9_branch_73 (by decide) (fun c73 => ?_) (fun c73 => ?_)
              · refine lv_iconst (v := 0) jx jb dX9_branch_80 (by decide) ?_
                obtain ⟨c0, ec0⟩ : ∃ z : Bool, z = decide (¬ ((y k).2.2.1 >>> ((4 * nI kd) &&& 31)) &&& 15 = 0) := ⟨_, rfl⟩
                refine top_eq (y := bI ((c0 || anyK (gl (y k).1) kd 0) = true)) ((bI_f (by rw [ec0, show anyK (gl (y k).1) kd 0 = false from rfl, Bool.or_false, decide_eq_true_eq]; exact fun z => z c73)).symm) ?_
                refine lv_istore (lv' := [(6, .int (bI ((c0 || anyK (gl (y k).1) kd 0) = true))), (0, .ref (ad 63)), (1, .int (nI kd)), (5, .int (nI k))]) jx jb dX9_branch_81 hl (by decide) rfl (fun ls hl => ?_)
                refine lv_iconst (v := 0) jx jb dX9_branch_83 (by decide) ?_
                refine lv_istore (lv' := [(7, .int 0), (6, .int (bI ((c0 || anyK (gl (y k).1) kd 0) = true))), (0, .ref (ad 63)), (1, .int (nI kd)), (5, .int (nI k))]) jx jb dX9_branch_84 hl (by decide) rfl (fun ls hl => ?_)
                have loop86 : ∀ (fuel86 : Nat) (m : Nat) (H : Heap) (locs : List Loc) (ls : Array Slot), (m ≤ (y k).1.length) → (y k).1.length - m < fuel86 → Wd G A js.heap (N, ad, gL50) H locs → lv_has ls 8 [(0, .ref (ad 63)), (1, .int (nI kd)), (5, .int (nI k)), (6, .int (bI ((c0 || anyK (gl (y k).1) kd m) = true))), (7, .int (nI m))] → W jp l je (rmN 2) js jm [.ref (ad 63), .int (nI kd), .int (nI w), .int (nI t), .int (nI r)].toArray below meth jc H locs 0 0 Q (F0 jm 86 ls []) := by
                  intro fuel86
                  induction fuel86 with
                  | zero => intro m H locs ls hm  hm86; exact absurd hm86 (Nat.not_lt_zero _)
                  | succ fuel86 ih86 =>
                    intro m H locs ls hm  hm86 hW hl
                    refine lv_iload jx jb dX9_branch_86 (lv_at hl 4 rfl) ?_
                    refine lv_aload_n jx jb dX9_branch_88 rfl (lv_at hl 0 rfl) ?_
                    refine w_get X hW K9 (by omega) m3 11 (by decide) fl_X9_37 rfl dX9_branch_89 ?_
                    refine lv_iload jx jb dX9_branch_92 (lv_at hl 2 rfl) ?_
                    have m11 : gL50 73 = .inl (cy 0, 12, .inl (qL50 73)) := hR50.2.2 73 (by decide) (by decide)
                    refine w_ild X hW (by omega) m11 k rfl (by omega) (by decide) dX9_branch_94 ?_
                    refine top_eq (y := nI (y k).1.length) (hk0.2.1) ?_
                    refine lv_icmp_ge (tgt := 134) jx jb dX9_branch_95 (by decide) (fun c95 => ?_) (fun c95 => ?_)
                    · have hml := n_le (by omega) (by omega) c95
                      have hmE : m = (y k).1.length := by omega
                      subst hmE
                      have hfin : (c0 || anyK (gl (y k).1) kd (y k).1.length) = anyK (gl (y k).1) kd (y k).1.length := by cases ha : anyK (gl (y k).1) kd (y k).1.length with | true => simp | false => (have := hk0.2.2.2.2.2.2 kd hk6 ha; rw [ec0]; simp [this])
                      refine lv_aload_n jx jb dX9_branch_134 rfl (lv_at hl 0 rfl) ?_
                      refine w_get X hW K9 (by omega) m3 16 (by decide) fl_X9_52 rfl dX9_branch_135 ?_
                      refine lv_iload jx jb dX9_branch_138 (lv_at hl 2 rfl) ?_
                      refine lv_aload_n jx jb dX9_branch_140 rfl (lv_at hl 0 rfl) ?_
                      refine w_get X hW K9 (by omega) m3 16 (by decide) fl_X9_52 rfl dX9_branch_141 ?_
                      refine lv_iload jx jb dX9_branch_144 (lv_at hl 2 rfl) ?_
                      have m12 : gL50 78 = .inl (cy 1, 12, .inl (qL50 78)) := hR50.2.2 78 (by decide) (by decide)
                      refine w_zld X hW (by omega) m12 k rfl (by omega) (by decide) dX9_branch_146 ?_
                      refine top_eq (y := bI ((y k).2.2.2.1 = true)) (hk0.2.2.2.2.1) ?_
                      refine lv_if_ne (tgt := 155) jx jb dX9_branch_147 (by decide) (fun c147 => ?_) (fun c147 => ?_)
                      · refine lv_iconst (v := 1) jx jb dX9_branch_155 (by decide) ?_
                        refine lv_goto (tgt := 160) jx jb dX9_branch_156 (by decide) ?_
                        refine top_eq (y := bI ((tK kd (y k)).2.2.2.1 = true)) ((bI_t (by unfold tK; rw [Bool.or_eq_true]; exact Or.inl (bI_n0.mp c147))).symm) ?_
                        refine w_zst X hW (by omega) m12 k rfl (by omega) (by decide) (by first | exact Or.inl rfl | exact Or.inr rfl | exact bI_01) dX9_branch_160 (fun H locs hW => ?_)
                        obtain ⟨g_13, eg_13⟩ : ∃ zz, zz = va_up gL50 78 (.inl (cy 1, 12, .inl (upd (qL50 78) k (bI ((tK kd (y k)).2.2.2.1 = true))))) := ⟨_, rfl⟩
                        have hW : Wd G A js.heap (N, ad, g_13) H locs := by rw [eg_13]; exact hW
                        obtain ⟨q_15, eq_15⟩ : ∃ zz, zz = va_up qL50 78 (upd (qL50 78) k (bI ((tK kd (y k)).2.2.2.1 = true))) := ⟨_, rfl⟩
                        have hR14 : MRaw cy N ad g_13 q_15 (nI lg.length) (nI T) to := by rw [eq_15]; exact hR50.put (by decide) (by decide) (fun k hk => by rw [eg_13, va_up_n hk]) (by rw [eg_13]; exact va_up_s)
                        refine lv_iinc (v := nI (k + 1)) (lv' := [(5, .int (nI (k + 1))), (0, .ref (ad 63)), (1, .int (nI kd)), (6, .int (bI ((c0 || anyK (gl (y k).1) kd (y k).1.length) = true))), (7, .int (nI (y k).1.length))]) jx jb dX9_branch_161 hl (k := 2) rfl (show nI k + 1 = nI (k + 1) from nI_1 _) (by decide) rfl (fun ls hl => ?_)
                        refine lv_goto (tgt := 50) jx jb dX9_branch_164 (by decide) ?_
                        exact ih50 (k + 1) q_15 g_13 _ _ _ hR14 (fun k hk => by show g_13 k = _; rw [eg_13, va_up_n (by omega), hfr50 k hk]) (by omega) (fun a ha => by rw [eq_15, va_up_n ha]; exact hsm a ha) (upto_step (fun i hi ne => (hqt i hi).flags (fun a h1 h2 => by rw [eq_15, va_up_n (by omega)]) (by rw [eq_15, va_up_s, pk_un ne]; exact (hqt i hi).2.2.2.2.1) (by rw [eq_15, va_up_n (by decide)]; exact (hqt i hi).2.2.2.2.2.1)) (hk0.flags (fun a h1 h2 => by rw [eq_15, va_up_n (by omega)]) (by rw [eq_15, va_up_s, pk_us]; rfl) (by rw [eq_15, va_up_n (by decide)]; exact hk0.2.2.2.2.2.1)))  (by omega) hW (lv_sub hl [1, 2, 0] rfl)
                      · refine lv_iload jx jb dX9_branch_150 (lv_at hl 3 rfl) ?_
                        refine lv_if_eq (tgt := 159) jx jb dX9_branch_152 (by decide) (fun c152 => ?_) (fun c152 => ?_)
                        · refine lv_iconst (v := 0) jx jb dX9_branch_159 (by decide) ?_
                          refine top_eq (y := bI ((tK kd (y k)).2.2.2.1 = true)) ((bI_f (by unfold tK; rw [Bool.or_eq_true, ← hfin]; exact fun z => z.elim (bI_0.mp c147) (bI_0.mp c152))).symm) ?_
                          refine w_zst X hW (by omega) m12 k rfl (by omega) (by decide) (by first | exact Or.inl rfl | exact Or.inr rfl | exact bI_01) dX9_branch_160 (fun H locs hW => ?_)
                          obtain ⟨g_16, eg_16⟩ : ∃ zz, zz = va_up gL50 78 (.inl (cy 1, 12, .inl (upd (qL50 78) k (bI ((tK kd (y k)).2.2.2.1 = true))))) := ⟨_, rfl⟩
                          have hW : Wd G A js.heap (N, ad, g_16) H locs := by rw [eg_16]; exact hW
                          obtain ⟨q_18, eq_18⟩ : ∃ zz, zz = va_up qL50 78 (upd (qL50 78) k (bI ((tK kd (y k)).2.2.2.1 = true))) := ⟨_, rfl⟩
                          have hR17 : MRaw cy N ad g_16 q_18 (nI lg.length) (nI T) to := by rw [eq_18]; exact hR50.put (by decide) (by decide) (fun k hk => by rw [eg_16, va_up_n hk]) (by rw [eg_16]; exact va_up_s)
                          refine lv_iinc (v := nI (k + 1)) (lv' := [(5, .int (nI (k + 1))), (0, .ref (ad 63)), (1, .int (nI kd)), (6, .int (bI ((c0 || anyK (gl (y k).1) kd (y k).1.length) = true))), (7, .int (nI (y k).1.length))]) jx jb dX9_branch_161 hl (k := 2) rfl (show nI k + 1 = nI (k + 1) from nI_1 _) (by decide) rfl (fun ls hl => ?_)
                          refine lv_goto (tgt := 50) jx jb dX9_branch_164 (by decide) ?_
                          exact ih50 (k + 1) q_18 g_16 _ _ _ hR17 (fun k hk => by show g_16 k = _; rw [eg_16, va_up_n (by omega), hfr50 k hk]) (by omega) (fun a ha => by rw [eq_18, va_up_n ha]; exact hsm a ha) (upto_step (fun i hi ne => (hqt i hi).flags (fun a h1 h2 => by rw [eq_18, va_up_n (by omega)]) (by rw [eq_18, va_up_s, pk_un ne]; exact (hqt i hi).2.2.2.2.1) (by rw [eq_18, va_up_n (by decide)]; exact (hqt i hi).2.2.2.2.2.1)) (hk0.flags (fun a h1 h2 => by rw [eq_18, va_up_n (by omega)]) (by rw [eq_18, va_up_s, pk_us]; rfl) (by rw [eq_18, va_up_n (by decide)]; exact hk0.2.2.2.2.2.1)))  (by omega) hW (lv_sub hl [1, 2, 0] rfl)
                        · refine lv_iconst (v := 1) jx jb dX9_branch_155 (by decide) ?_
                          refine lv_goto (tgt := 160) jx jb dX9_branch_156 (by decide) ?_
                          refine top_eq (y := bI ((tK kd (y k)).2.2.2.1 = true)) ((bI_t (by unfold tK; rw [Bool.or_eq_true, ← hfin]; exact Or.inr (bI_n0.mp c152))).symm) ?_
                          refine w_zst X hW (by omega) m12 k rfl (by omega) (by decide) (by first | exact Or.inl rfl | exact Or.inr rfl | exact bI_01) dX9_branch_160 (fun H locs hW => ?_)
                          obtain ⟨g_19, eg_19⟩ : ∃ zz, zz = va_up gL50 78 (.inl (cy 1, 12, .inl (upd (qL50 78) k (bI ((tK kd (y k)).2.2.2.1 = true))))) := ⟨_, rfl⟩
                          have hW : Wd G A js.heap (N, ad, g_19) H locs := by rw [eg_19]; exact hW
                          obtain ⟨q_21, eq_21⟩ : ∃ zz, zz = va_up qL50 78 (upd (qL50 78) k (bI ((tK kd (y k)).2.2.2.1 = true))) := ⟨_, rfl⟩
                          have hR20 : MRaw cy N ad g_19 q_21 (nI lg.length) (nI T) to := by rw [eq_21]; exact hR50.put (by decide) (by decide) (fun k hk => by rw [eg_19, va_up_n hk]) (by rw [eg_19]; exact va_up_s)
                          refine lv_iinc (v := nI (k + 1)) (lv' := [(5, .int (nI (k + 1))), (0, .ref (ad 63)), (1, .int (nI kd)), (6, .int (bI ((c0 || anyK (gl (y k).1) kd (y k).1.length) = true))), (7, .int (nI (y k).1.length))]) jx jb dX9_branch_161 hl (k := 2) rfl (show nI k + 1 = nI (k + 1) from nI_1 _) (by decide) rfl (fun ls hl => ?_)
                          refine lv_goto (tgt := 50) jx jb dX9_branch_164 (by decide) ?_
                          exact ih50 (k + 1) q_21 g_19 _ _ _ hR20 (fun k hk => by show g_19 k = _; rw [eg_19, va_up_n (by omega), hfr50 k hk]) (by omega) (fun a ha => by rw [eq_21, va_up_n ha]; exact hsm a ha) (upto_step (fun i hi ne => (hqt i hi).flags (fun a h1 h2 => by rw [eq_21, va_up_n (by omega)]) (by rw [eq_21, va_up_s, pk_un ne]; exact (hqt i hi).2.2.2.2.1) (by rw [eq_21, va_up_n (by decide)]; exact (hqt i hi).2.2.2.2.2.1)) (hk0.flags (fun a h1 h2 => by rw [eq_21, va_up_n (by omega)]) (by rw [eq_21, va_up_s, pk_us]; rfl) (by rw [eq_21, va_up_n (by decide)]; exact hk0.2.2.2.2.2.1)))  (by omega) hW (lv_sub hl [1, 2, 0] rfl)
                    · have hlm : m < (y k).1.length := n_nle (by omega) (by omega) c95
                      have h96 := hk0.1.2.1 _ (gl_mem hlm)
                      have hstep : (c0 || anyK (gl (y k).1) kd (m + 1)) = ((c0 || anyK (gl (y k).1) kd m) || decide (gl (y k).1 m / 16 = kd)) := by rw [Bool.or_assoc]; rfl
                      refine lv_iload jx jb dX9_branch_98 (lv_at hl 3 rfl) ?_
                      refine lv_if_ne (tgt := 121) jx jb dX9_branch_100 (by decide) (fun c100 => ?_) (fun c100 => ?_)
                      · refine lv_iconst (v := 1) jx jb dX9_branch_121 (by decide) ?_
                        refine lv_goto (tgt := 126) jx jb dX9_branch_122 (by decide) ?_
                        refine top_eq (y := bI ((c0 || anyK (gl (y k).1) kd (m + 1)) = true)) ((bI_t (by rw [hstep, Bool.or_eq_true]; exact Or.inl (bI_n0.mp c100))).symm) ?_
                        refine lv_istore (lv' := [(6, .int (bI ((c0 || anyK (gl (y k).1) kd (m + 1)) = true))), (0, .ref (ad 63)), (1, .int (nI kd)), (5, .int (nI k)), (7, .int (nI m))]) jx jb dX9_branch_126 hl (by decide) rfl (fun ls hl => ?_)
                        refine lv_iinc (v := nI (m + 1)) (lv' := [(7, .int (nI (m + 1))), (6, .int (bI ((c0 || anyK (gl (y k).1) kd (m + 1)) = true))), (0, .ref (ad 63)), (1, .int (nI kd)), (5, .int (nI k))]) jx jb dX9_branch_128 hl (k := 4) rfl (show nI m + 1 = nI (m + 1) from nI_1 _) (by decide) rfl (fun ls hl => ?_)
                        refine lv_goto (tgt := 86) jx jb dX9_branch_131 (by decide) ?_
                        exact ih86 (m + 1)  _ _ _ (by omega)  (by omega) hW (lv_sub hl [2, 3, 4, 1, 0] rfl)
                      · refine lv_aload_n jx jb dX9_branch_103 rfl (lv_at hl 0 rfl) ?_
                        refine w_get X hW K9 (by omega) m3 12 (by decide) fl_X9_40 rfl dX9_branch_104 ?_
                        refine lv_sipush (v := 200) jx jb dX9_branch_107 (by decide) ?_
                        refine lv_iload jx jb dX9_branch_110 (lv_at hl 2 rfl) ?_
                        refine lv_imul jx jb dX9_branch_112 ?_
                        refine top_eq (y := nI (200 * k)) (by rw [show (200 : Int32) = nI 200 from rfl, pk_mul]) ?_
                        refine lv_iload jx jb dX9_branch_113 (lv_at hl 4 rfl) ?_
                        refine lv_iadd jx jb dX9_branch_115 ?_
                        refine top_eq (y := nI (200 * k + m)) (nI_add _ _) ?_
                        have m22 : gL50 74 = .inl (cy 0, 2400, .inl (qL50 74)) := hR50.2.2 74 (by decide) (by decide)
                        refine w_ild X hW (by omega) m22 (200 * k + m) rfl (by omega) (by decide) dX9_branch_116 ?_
                        refine top_eq (y := nI (gl (y k).1 m / 16)) ((hk0.1.2.2 m hlm).1) ?_
                        refine lv_iload_n jx jb dX9_branch_117 rfl (lv_at hl 1 rfl) ?_
                        refine lv_icmp_ne (tgt := 125) jx jb dX9_branch_118 (by decide) (fun c118 => ?_) (fun c118 => ?_)
                        · refine lv_iconst (v := 0) jx jb dX9_branch_125 (by decide) ?_
                          refine top_eq (y := bI ((c0 || anyK (gl (y k).1) kd (m + 1)) = true)) ((bI_f (by rw [hstep, Bool.or_eq_true, decide_eq_true_eq]; exact fun z => z.elim (bI_0.mp c100) (n_ne (by omega) (by omega) c118))).symm) ?_
                          refine lv_istore (lv' := [(6, .int (bI ((c0 || anyK (gl (y k).1) kd (m + 1)) = true))), (0, .ref (ad 63)), (1, .int (nI kd)), (5, .int (nI k)), (7, .int (nI m))]) jx jb dX9_branch_126 hl (by decide) rfl (fun ls hl => ?_)
                          refine lv_iinc (v := nI (m + 1)) (lv' := [(7, .int (nI (m + 1))), (6, .int (bI ((c0 || anyK (gl (y k).1) kd (m + 1)) = true))), (0, .ref (ad 63)), (1, .int (nI kd)), (5, .int (nI k))]) jx jb dX9_branch_128 hl (k := 4) rfl (show nI m + 1 = nI (m + 1) from nI_1 _) (by decide) rfl (fun ls hl => ?_)
                          refine lv_goto (tgt := 86) jx jb dX9_branch_131 (by decide) ?_
                          exact ih86 (m + 1)  _ _ _ (by omega)  (by omega) hW (lv_sub hl [2, 3, 4, 1, 0] rfl)
                        · refine lv_iconst (v := 1) jx jb dX9_branch_121 (by decide) ?_
                          refine lv_goto (tgt := 126) jx jb dX9_branch_122 (by decide) ?_
                          refine top_eq (y := bI ((c0 || anyK (gl (y k).1) kd (m + 1)) = true)) ((bI_t (by rw [hstep, Bool.or_eq_true, decide_eq_true_eq]; exact Or.inr (n_eq (by omega) (by omega) c118))).symm) ?_
                          refine lv_istore (lv' := [(6, .int (bI ((c0 || anyK (gl (y k).1) kd (m + 1)) = true))), (0, .ref (ad 63)), (1, .int (nI kd)), (5, .int (nI k)), (7, .int (nI m))]) jx jb dX9_branch_126 hl (by decide) rfl (fun ls hl => ?_)
                          refine lv_iinc (v := nI (m + 1)) (lv' := [(7, .int (nI (m + 1))), (6, .int (bI ((c0 || anyK (gl (y k).1) kd (m + 1)) = true))), (0, .ref (ad 63)), (1, .int (nI kd)), (5, .int (nI k))]) jx jb dX9_branch_128 hl (k := 4) rfl (show nI m + 1 = nI (m + 1) from nI_1 _) (by decide) rfl (fun ls hl => ?_)
                          refine lv_goto (tgt := 86) jx jb dX9_branch_131 (by decide) ?_
                          exact ih86 (m + 1)  _ _ _ (by omega)  (by omega) hW (lv_sub hl [2, 3, 4, 1, 0] rfl)
                exact loop86 _ 0  _ _ _ (by omega)  (Nat.lt_succ_self _) hW (lv_sub hl [2, 3, 4, 1, 0] rfl)
              · refine lv_iconst (v := 1) jx jb dX9_branch_76 (by decide) ?_
                refine lv_goto (tgt := 81) jx jb dX9_branch_77 (by decide) ?_
                obtain ⟨c0, ec0⟩ : ∃ z : Bool, z = decide (¬ ((y k).2.2.1 >>> ((4 * nI kd) &&& 31)) &&& 15 = 0) := ⟨_, rfl⟩
                refine top_eq (y := bI ((c0 || anyK (gl (y k).1) kd 0) = true)) ((bI_t (by rw [ec0, show anyK (gl (y k).1) kd 0 = false from rfl, Bool.or_false, decide_eq_true_eq]; exact c73)).symm) ?_
                refine lv_istore (lv' := [(6, .int (bI ((c0 || anyK (gl (y k).1) kd 0) = true))), (0, .ref (ad 63)), (1, .int (nI kd)), (5, .int (nI k))]) jx jb dX9_branch_81 hl (by decide) rfl (fun ls hl => ?_)
                refine lv_iconst (v := 0) jx jb dX9_branch_83 (by decide) ?_
                refine lv_istore (lv' := [(7, .int 0), (6, .int (bI ((c0 || anyK (gl (y k).1) kd 0) = true))), (0, .ref (ad 63)), (1, .int (nI kd)), (5, .int (nI k))]) jx jb dX9_branch_84 hl (by decide) rfl (fun ls hl => ?_)
                have loop86 : ∀ (fuel86 : Nat) (m : Nat) (H : Heap) (locs : List Loc) (ls : Array Slot), (m ≤ (y k).1.length) → (y k).1.length - m < fuel86 → Wd G A js.heap (N, ad, gL50) H locs → lv_has ls 8 [(0, .ref (ad 63)), (1, .int (nI kd)), (5, .int (nI k)), (6, .int (bI ((c0 || anyK (gl (y k).1) kd m) = true))), (7, .int (nI m))] → W jp l je (rmN 2) js jm [.ref (ad 63), .int (nI kd), .int (nI w), .int (nI t), .int (nI r)].toArray below meth jc H locs 0 0 Q (F0 jm 86 ls []) := by
                  intro fuel86
                  induction fuel86 with
                  | zero => intro m H locs ls hm  hm86; exact absurd hm86 (Nat.not_lt_zero _)
                  | succ fuel86 ih86 =>
                    intro m H locs ls hm  hm86 hW hl
                    refine lv_iload jx jb dX9_branch_86 (lv_at hl 4 rfl) ?_
                    refine lv_aload_n jx jb dX9_branch_88 rfl (lv_at hl 0 rfl) ?_
                    refine w_get X hW K9 (by omega) m3 11 (by decide) fl_X9_37 rfl dX9_branch_89 ?_
                    refine lv_iload jx jb dX9_branch_92 (lv_at hl 2 rfl) ?_
                    have m23 : gL50 73 = .inl (cy 0, 12, .inl (qL50 73)) := hR50.2.2 73 (by decide) (by decide)
                    refine w_ild X hW (by omega) m23 k rfl (by omega) (by decide) dX9_branch_94 ?_
                    refine top_eq (y := nI (y k).1.length) (hk0.2.1) ?_
                    refine lv_icmp_ge (tgt := 134) jx jb dX9_branch_95 (by decide) (fun c95 => ?_) (fun c95 => ?_)
                    · have hml := n_le (by omega) (by omega) c95
                      have hmE : m = (y k).1.length := by omega
                      subst hmE
                      have hfin : (c0 || anyK (gl (y k).1) kd (y k).1.length) = anyK (gl (y k).1) kd (y k).1.length := by cases ha : anyK (gl (y k).1) kd (y k).1.length with | true => simp | false => (have := hk0.2.2.2.2.2.2 kd hk6 ha; rw [ec0]; simp [this])
                      refine lv_aload_n jx jb dX9_branch_134 rfl (lv_at hl 0 rfl) ?_
                      refine w_get X hW K9 (by omega) m3 16 (by decide) fl_X9_52 rfl dX9_branch_135 ?_
                      refine lv_iload jx jb dX9_branch_138 (lv_at hl 2 rfl) ?_
                      refine lv_aload_n jx jb dX9_branch_140 rfl (lv_at hl 0 rfl) ?_
                      refine w_get X hW K9 (by omega) m3 16 (by decide) fl_X9_52 rfl dX9_branch_141 ?_
                      refine lv_iload jx jb dX9_branch_144 (lv_at hl 2 rfl) ?_
                      have m24 : gL50 78 = .inl (cy 1, 12, .inl (qL50 78)) := hR50.2.2 78 (by decide) (by decide)
                      refine w_zld X hW (by omega) m24 k rfl (by omega) (by decide) dX9_branch_146 ?_
                      refine top_eq (y := bI ((y k).2.2.2.1 = true)) (hk0.2.2.2.2.1) ?_
                      refine lv_if_ne (tgt := 155) jx jb dX9_branch_147 (by decide) (fun c147 => ?_) (fun c147 => ?_)
                      · refine lv_iconst (v := 1) jx jb dX9_branch_155 (by decide) ?_
                        refine lv_goto (tgt := 160) jx jb dX9_branch_156 (by decide) ?_
                        refine top_eq (y := bI ((tK kd (y k)).2.2.2.1 = true)) ((bI_t (by unfold tK; rw [Bool.or_eq_true]; exact Or.inl (bI_n0.mp c147))).symm) ?_
                        refine w_zst X hW (by omega) m24 k rfl (by omega) (by decide) (by first | exact Or.inl rfl | exact Or.inr rfl | exact bI_01) dX9_branch_160 (fun H locs hW => ?_)
                        obtain ⟨g_25, eg_25⟩ : ∃ zz, zz = va_up gL50 78 (.inl (cy 1, 12, .inl (upd (qL50 78) k (bI ((tK kd (y k)).2.2.2.1 = true))))) := ⟨_, rfl⟩
                        have hW : Wd G A js.heap (N, ad, g_25) H locs := by rw [eg_25]; exact hW
                        obtain ⟨q_27, eq_27⟩ : ∃ zz, zz = va_up qL50 78 (upd (qL50 78) k (bI ((tK kd (y k)).2.2.2.1 = true))) := ⟨_, rfl⟩
                        have hR26 : MRaw cy N ad g_25 q_27 (nI lg.length) (nI T) to := by rw [eq_27]; exact hR50.put (by decide) (by decide) (fun k hk => by rw [eg_25, va_up_n hk]) (by rw [eg_25]; exact va_up_s)
                        refine lv_iinc (v := nI (k + 1)) (lv' := [(5, .int (nI (k + 1))), (0, .ref (ad 63)), (1, .int (nI kd)), (6, .int (bI ((c0 || anyK (gl (y k).1) kd (y k).1.length) = true))), (7, .int (nI (y k).1.length))]) jx jb dX9_branch_161 hl (k := 2) rfl (show nI k + 1 = nI (k + 1) from nI_1 _) (by decide) rfl (fun ls hl => ?_)
                        refine lv_goto (tgt := 50) jx jb dX9_branch_164 (by decide) ?_
                        exact ih50 (k + 1) q_27 g_25 _ _ _ hR26 (fun k hk => by show g_25 k = _; rw [eg_25, va_up_n (by omega), hfr50 k hk]) (by omega) (fun a ha => by rw [eq_27, va_up_n ha]; exact hsm a ha) (upto_step (fun i hi ne => (hqt i hi).flags (fun a h1 h2 => by rw [eq_27, va_up_n (by omega)]) (by rw [eq_27, va_up_s, pk_un ne]; exact (hqt i hi).2.2.2.2.1) (by rw [eq_27, va_up_n (by decide)]; exact (hqt i hi).2.2.2.2.2.1)) (hk0.flags (fun a h1 h2 => by rw [eq_27, va_up_n (by omega)]) (by rw [eq_27, va_up_s, pk_us]; rfl) (by rw [eq_27, va_up_n (by decide)]; exact hk0.2.2.2.2.2.1)))  (by omega) hW (lv_sub hl [1, 2, 0] rfl)
                      · refine lv_iload jx jb dX9_branch_150 (lv_at hl 3 rfl) ?_
                        refine lv_if_eq (tgt := 159) jx jb dX9_branch_152 (by decide) (fun c152 => ?_) (fun c152 => ?_)
                        · refine lv_iconst (v := 0) jx jb dX9_branch_159 (by decide) ?_
                          refine top_eq (y := bI ((tK kd (y k)).2.2.2.1 = true)) ((bI_f (by unfold tK; rw [Bool.or_eq_true, ← hfin]; exact fun z => z.elim (bI_0.mp c147) (bI_0.mp c152))).symm) ?_
                          refine w_zst X hW (by omega) m24 k rfl (by omega) (by decide) (by first | exact Or.inl rfl | exact Or.inr rfl | exact bI_01) dX9_branch_160 (fun H locs hW => ?_)
                          obtain ⟨g_28, eg_28⟩ : ∃ zz, zz = va_up gL50 78 (.inl (cy 1, 12, .inl (upd (qL50 78) k (bI ((tK kd (y k)).2.2.2.1 = true))))) := ⟨_, rfl⟩
                          have hW : Wd G A js.heap (N, ad, g_28) H locs := by rw [eg_28]; exact hW
                          obtain ⟨q_30, eq_30⟩ : ∃ zz, zz = va_up qL50 78 (upd (qL50 78) k (bI ((tK kd (y k)).2.2.2.1 = true))) := ⟨_, rfl⟩
                          have hR29 : MRaw cy N ad g_28 q_30 (nI lg.length) (nI T) to := by rw [eq_30]; exact hR50.put (by decide) (by decide) (fun k hk => by rw [eg_28, va_up_n hk]) (by rw [eg_28]; exact va_up_s)
                          refine lv_iinc (v := nI (k + 1)) (lv' := [(5, .int (nI (k + 1))), (0, .ref (ad 63)), (1, .int (nI kd)), (6, .int (bI ((c0 || anyK (gl (y k).1) kd (y k).1.length) = true))), (7, .int (nI (y k).1.length))]) jx jb dX9_branch_161 hl (k := 2) rfl (show nI k + 1 = nI (k + 1) from nI_1 _) (by decide) rfl (fun ls hl => ?_)
                          refine lv_goto (tgt := 50) jx jb dX9_branch_164 (by decide) ?_
                          exact ih50 (k + 1) q_30 g_28 _ _ _ hR29 (fun k hk => by show g_28 k = _; rw [eg_28, va_up_n (by omega), hfr50 k hk]) (by omega) (fun a ha => by rw [eq_30, va_up_n ha]; exact hsm a ha) (upto_step (fun i hi ne => (hqt i hi).flags (fun a h1 h2 => by rw [eq_30, va_up_n (by omega)]) (by rw [eq_30, va_up_s, pk_un ne]; exact (hqt i hi).2.2.2.2.1) (by rw [eq_30, va_up_n (by decide)]; exact (hqt i hi).2.2.2.2.2.1)) (hk0.flags (fun a h1 h2 => by rw [eq_30, va_up_n (by omega)]) (by rw [eq_30, va_up_s, pk_us]; rfl) (by rw [eq_30, va_up_n (by decide)]; exact hk0.2.2.2.2.2.1)))  (by omega) hW (lv_sub hl [1, 2, 0] rfl)
                        · refine lv_iconst (v := 1) jx jb dX9_branch_155 (by decide) ?_
                          refine lv_goto (tgt := 160) jx jb dX9_branch_156 (by decide) ?_
                          refine top_eq (y := bI ((tK kd (y k)).2.2.2.1 = true)) ((bI_t (by unfold tK; rw [Bool.or_eq_true, ← hfin]; exact Or.inr (bI_n0.mp c152))).symm) ?_
                          refine w_zst X hW (by omega) m24 k rfl (by omega) (by decide) (by first | exact Or.inl rfl | exact Or.inr rfl | exact bI_01) dX9_branch_160 (fun H locs hW => ?_)
                          obtain ⟨g_31, eg_31⟩ : ∃ zz, zz = va_up gL50 78 (.inl (cy 1, 12, .inl (upd (qL50 78) k (bI ((tK kd (y k)).2.2.2.1 = true))))) := ⟨_, rfl⟩
                          have hW : Wd G A js.heap (N, ad, g_31) H locs := by rw [eg_31]; exact hW
                          obtain ⟨q_33, eq_33⟩ : ∃ zz, zz = va_up qL50 78 (upd (qL50 78) k (bI ((tK kd (y k)).2.2.2.1 = true))) := ⟨_, rfl⟩
                          have hR32 : MRaw cy N ad g_31 q_33 (nI lg.length) (nI T) to := by rw [eq_33]; exact hR50.put (by decide) (by decide) (fun k hk => by rw [eg_31, va_up_n hk]) (by rw [eg_31]; exact va_up_s)
                          refine lv_iinc (v := nI (k + 1)) (lv' := [(5, .int (nI (k + 1))), (0, .ref (ad 63)), (1, .int (nI kd)), (6, .int (bI ((c0 || anyK (gl (y k).1) kd (y k).1.length) = true))), (7, .int (nI (y k).1.length))]) jx jb dX9_branch_161 hl (k := 2) rfl (show nI k + 1 = nI (k + 1) from nI_1 _) (by decide) rfl (fun ls hl => ?_)
                          refine lv_goto (tgt := 50) jx jb dX9_branch_164 (by decide) ?_
                          exact ih50 (k + 1) q_33 g_31 _ _ _ hR32 (fun k hk => by show g_31 k = _; rw [eg_31, va_up_n (by omega), hfr50 k hk]) (by omega) (fun a ha => by rw [eq_33, va_up_n ha]; exact hsm a ha) (upto_step (fun i hi ne => (hqt i hi).flags (fun a h1 h2 => by rw [eq_33, va_up_n (by omega)]) (by rw [eq_33, va_up_s, pk_un ne]; exact (hqt i hi).2.2.2.2.1) (by rw [eq_33, va_up_n (by decide)]; exact (hqt i hi).2.2.2.2.2.1)) (hk0.flags (fun a h1 h2 => by rw [eq_33, va_up_n (by omega)]) (by rw [eq_33, va_up_s, pk_us]; rfl) (by rw [eq_33, va_up_n (by decide)]; exact hk0.2.2.2.2.2.1)))  (by omega) hW (lv_sub hl [1, 2, 0] rfl)
                    · have hlm : m < (y k).1.length := n_nle (by omega) (by omega) c95
                      have h96 := hk0.1.2.1 _ (gl_mem hlm)
                      have hstep : (c0 || anyK (gl (y k).1) kd (m + 1)) = ((c0 || anyK (gl (y k).1) kd m) || decide (gl (y k).1 m / 16 = kd)) := by rw [Bool.or_assoc]; rfl
                      refine lv_iload jx jb dX9_branch_98 (lv_at hl 3 rfl) ?_
                      refine lv_if_ne (tgt := 121) jx jb dX9_branch_100 (by decide) (fun c100 => ?_) (fun c100 => ?_)
                      · refine lv_iconst (v := 1) jx jb dX9_branch_121 (by decide) ?_
                        refine lv_goto (tgt := 126) jx jb dX9_branch_122 (by decide) ?_
                        refine top_eq (y := bI ((c0 || anyK (gl (y k).1) kd (m + 1)) = true)) ((bI_t (by rw [hstep, Bool.or_eq_true]; exact Or.inl (bI_n0.mp c100))).symm) ?_
                        refine lv_istore (lv' := [(6, .int (bI ((c0 || anyK (gl (y k).1) kd (m + 1)) = true))), (0, .ref (ad 63)), (1, .int (nI kd)), (5, .int (nI k)), (7, .int (nI m))]) jx jb dX9_branch_126 hl (by decide) rfl (fun ls hl => ?_)
                        refine lv_iinc (v := nI (m + 1)) (lv' := [(7, .int (nI (m + 1))), (6, .int (bI ((c0 || anyK (gl (y k).1) kd (m + 1)) = true))), (0, .ref (ad 63)), (1, .int (nI kd)), (5, .int (nI k))]) jx jb dX9_branch_128 hl (k := 4) rfl (show nI m + 1 = nI (m + 1) from nI_1 _) (by decide) rfl (fun ls hl => ?_)
                        refine lv_goto (tgt := 86) jx jb dX9_branch_131 (by decide) ?_
                        exact ih86 (m + 1)  _ _ _ (by omega)  (by omega) hW (lv_sub hl [2, 3, 4, 1, 0] rfl)
                      · refine lv_aload_n jx jb dX9_branch_103 rfl (lv_at hl 0 rfl) ?_
                        refine w_get X hW K9 (by omega) m3 12 (by decide) fl_X9_40 rfl dX9_branch_104 ?_
                        refine lv_sipush (v := 200) jx jb dX9_branch_107 (by decide) ?_
                        refine lv_iload jx jb dX9_branch_110 (lv_at hl 2 rfl) ?_
                        refine lv_imul jx jb dX9_branch_112 ?_
                        refine top_eq (y := nI (200 * k)) (by rw [show (200 : Int32) = nI 200 from rfl, pk_mul]) ?_
                        refine lv_iload jx jb dX9_branch_113 (lv_at hl 4 rfl) ?_
                        refine lv_iadd jx jb dX9_branch_115 ?_
                        refine top_eq (y := nI (200 * k + m)) (nI_add _ _) ?_
                        have m34 : gL50 74 = .inl (cy 0, 2400, .inl (qL50 74)) := hR50.2.2 74 (by decide) (by decide)
                        refine w_ild X hW (by omega) m34 (200 * k + m) rfl (by omega) (by decide) dX9_branch_116 ?_
                        refine top_eq (y := nI (gl (y k).1 m / 16)) ((hk0.1.2.2 m hlm).1) ?_
                        refine lv_iload_n jx jb dX9_branch_117 rfl (lv_at hl 1 rfl) ?_
                        refine lv_icmp_ne (tgt := 125) jx jb dX9_branch_118 (by decide) (fun c118 => ?_) (fun c118 => ?_)
                        · refine lv_iconst (v := 0) jx jb dX9_branch_125 (by decide) ?_
                          refine top_eq (y := bI ((c0 || anyK (gl (y k).1) kd (m + 1)) = true)) ((bI_f (by rw [hstep, Bool.or_eq_true, decide_eq_true_eq]; exact fun z => z.elim (bI_0.mp c100) (n_ne (by omega) (by omega) c118))).symm) ?_
                          refine lv_istore (lv' := [(6, .int (bI ((c0 || anyK (gl (y k).1) kd (m + 1)) = true))), (0, .ref (ad 63)), (1, .int (nI kd)), (5, .int (nI k)), (7, .int (nI m))]) jx jb dX9_branch_126 hl (by decide) rfl (fun ls hl => ?_)
                          refine lv_iinc (v := nI (m + 1)) (lv' := [(7, .int (nI (m + 1))), (6, .int (bI ((c0 || anyK (gl (y k).1) kd (m + 1)) = true))), (0, .ref (ad 63)), (1, .int (nI kd)), (5, .int (nI k))]) jx jb dX9_branch_128 hl (k := 4) rfl (show nI m + 1 = nI (m + 1) from nI_1 _) (by decide) rfl (fun ls hl => ?_)
                          refine lv_goto (tgt := 86) jx jb dX9_branch_131 (by decide) ?_
                          exact ih86 (m + 1)  _ _ _ (by omega)  (by omega) hW (lv_sub hl [2, 3, 4, 1, 0] rfl)
                        · refine lv_iconst (v := 1) jx jb dX9_branch_121 (by decide) ?_
                          refine lv_goto (tgt := 126) jx jb dX9_branch_122 (by decide) ?_
                          refine top_eq (y := bI ((c0 || anyK (gl (y k).1) kd (m + 1)) = true)) ((bI_t (by rw [hstep, Bool.or_eq_true, decide_eq_true_eq]; exact Or.inr (n_eq (by omega) (by omega) c118))).symm) ?_
                          refine lv_istore (lv' := [(6, .int (bI ((c0 || anyK (gl (y k).1) kd (m + 1)) = true))), (0, .ref (ad 63)), (1, .int (nI kd)), (5, .int (nI k)), (7, .int (nI m))]) jx jb dX9_branch_126 hl (by decide) rfl (fun ls hl => ?_)
                          refine lv_iinc (v := nI (m + 1)) (lv' := [(7, .int (nI (m + 1))), (6, .int (bI ((c0 || anyK (gl (y k).1) kd (m + 1)) = true))), (0, .ref (ad 63)), (1, .int (nI kd)), (5, .int (nI k))]) jx jb dX9_branch_128 hl (k := 4) rfl (show nI m + 1 = nI (m + 1) from nI_1 _) (by decide) rfl (fun ls hl => ?_)
                          refine lv_goto (tgt := 86) jx jb dX9_branch_131 (by decide) ?_
                          exact ih86 (m + 1)  _ _ _ (by omega)  (by omega) hW (lv_sub hl [2, 3, 4, 1, 0] rfl)
                exact loop86 _ 0  _ _ _ (by omega)  (Nat.lt_succ_self _) hW (lv_sub hl [2, 3, 4, 1, 0] rfl)
        exact loop50 _ 0 qT gT _ _ _ hRT (fun k hk => by show gT k = _; rw [frT k hk]) (by omega) (fun a _ => rfl) (fun i hi => by rw [if_neg (by omega)]; exact (hQT i hi).of (fun a h1 h2 => hsT a (by omega) (by omega) (by omega)))  (Nat.lt_succ_self _) hW (lv_sub hl [1, 2, 0] rfl)
      · exact absurd (n_eq (b := 4) (by omega) (by decide) c24) (by omega)
