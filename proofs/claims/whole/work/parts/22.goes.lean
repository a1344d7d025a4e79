theorem QN_set {q80 : Nat → Int32} {st j v : Nat} (hN : ∀ i, i < 4 → q80 i = nI (nib st i)) (hj : j < 4) (hv : v < 16) : ∀ i, i < 4 → upd q80 j (nI v) i = nI (nib (setn st j v) i) := by
  intro i hi
  rw [nib_set hj hv hi]
  by_cases e : i = j
  · rw [e, pk_us, if_pos rfl]
  · rw [pk_un e, if_neg e]; exact hN i hi
theorem stq_congr {M : M4} {c c' : Nat → Nat} {s0 : Nat} : ∀ {k : Nat}, (∀ i, i < k → c i = c' i) → stq M c s0 k = stq M c' s0 k
  | 0, _ => rfl
  | k + 1, h => by
    show stp M (c k) (stq M c s0 k) = stp M (c' k) (stq M c' s0 k)
    rw [h k (by omega), stq_congr (fun i hi => h i (by omega))]

set_option maxHeartbeats 4000000 in
set_option maxRecDepth 100000 in
theorem c_goes {l : Launch} {G : va_G} {cy : Nat → ClassId} {N : Nat} {ad : Nat → Nat} {g : Nat → va_E} {q : Nat → Nat → Int32} {ca te to : Int32} {M : M4} {k num st : Nat} (hR : MRaw cy N ad g q ca te to) (hok : okM M) (hQ : QM q M) (hN : QN q st) (hk : k < 6) (hnum : num < 16) : MI l G cy (N, ad, g) yX9_goes cX9_goes 5 (some .int) (rmN 1) [.ref (ad 63), .int (nI k), .int (nI num)] (nA N ad (fun v g1 => v = rs M (tk M k st) (nx M (tk M k st) st num) ∧ ∃ q1, MRaw cy N ad g1 q1 ca te (tI (tk M k st)) ∧ QN q1 (nx M (tk M k st) st num) ∧ (∀ a, a ≠ 80 → q1 a = q a) ∧ ∀ k, ¬ (63 ≤ k ∧ k < 83) → g1 k = g k)) := by
  refine NI.mk (by decide) (by intros; first | rfl | (simp_all; done)) (Nat.le_of_ble_eq_true rfl) ?_
  intro jp je js jm below meth jc A Q X hW ret ls hl
  have jx := X.hx
  have jb := X.hb
  have hl : lv_has ls 5 [(0, .ref (ad 63)), (1, .int (nI k)), (2, .int (nI num))] := hl
  have X : Cx G cy jp js jm _ jc cX9_goes 5 RX9 A js.heap := X
  have h83 : 83 ≤ N := hR.1
  have hm4 := hok.1 k hk
  refine lv_aload_n jx jb dX9_goes_0 rfl (lv_at hl 0 rfl) ?_
  refine lv_iconst (v := -1) jx jb dX9_goes_1 (by decide) ?_
  have m1 : g 63 = .inr (9, [.ref (ad 64), .ref (ad 65), .ref (ad 66), .ref (ad 67), .int ca, .ref (ad 68), .ref (ad 69), .ref (ad 70), .ref (ad 71), .ref (ad 72), .int te, .ref (ad 73), .ref (ad 74), .ref (ad 75), .ref (ad 76), .ref (ad 77), .ref (ad 78), .ref (ad 79), .ref (ad 80), .int to, .ref (ad 81), .ref (ad 82)]) := hR.2.1
  refine w_put X hW K9 (by omega) m1 19 (by decide) fl_X9_90 rfl rfl rfl (Nat.le_of_ble_eq_true rfl) dX9_goes_2 (fun H locs hW => ?_)
  obtain ⟨g_2, eg_2⟩ : ∃ zz, zz = va_up g 63 (.inr (9, [.ref (ad 64), .ref (ad 65), .ref (ad 66), .ref (ad 67), .int ca, .ref (ad 68), .ref (ad 69), .ref (ad 70), .ref (ad 71), .ref (ad 72), .int te, .ref (ad 73), .ref (ad 74), .ref (ad 75), .ref (ad 76), .ref (ad 77), .ref (ad 78), .ref (ad 79), .ref (ad 80), .int (-1), .ref (ad 81), .ref (ad 82)])) := ⟨_, rfl⟩
  have hW : Wd G A js.heap (N, ad, g_2) H locs := by rw [eg_2]; exact hW
  have hR3 : MRaw cy N ad g_2 q ca te (-1) := hR.put63 (fun k hk => by rw [eg_2, va_up_n hk]) (by rw [eg_2]; exact va_up_s)
  refine lv_iconst (v := 0) jx jb dX9_goes_5 (by decide) ?_
  refine lv_istore_n (lv' := [(3, .int 0), (0, .ref (ad 63)), (1, .int (nI k)), (2, .int (nI num))]) jx jb dX9_goes_6 rfl hl (by decide) rfl (fun ls hl => ?_)
  have loop7 : ∀ (fuel7 : Nat) (i : Nat) (o : Option Nat) (qL7 : Nat → Nat → Int32) (gL7 : Nat → va_E) (H : Heap) (locs : List Loc) (ls : Array Slot), (MRaw cy N ad gL7 qL7 ca te (tI o)) → (∀ k, ¬ (63 ≤ k ∧ k < 83) → gL7 k = g k) → (qL7 = q) → (i ≤ M.1 k) → (o = none → fb (fun b => hold (M.2.1 b) st) k i (M.1 k - i) = tk M k st) → (∀ b, o = some b → tk M k st = some b) → (∀ b, o = some b → b < 24) → M.1 k - i < fuel7 → Wd G A js.heap (N, ad, gL7) H locs → lv_has ls 5 [(0, .ref (ad 63)), (1, .int (nI k)), (2, .int (nI num)), (3, .int (nI i))] → W jp l je (rmN 1) js jm [.ref (ad 63), .int (nI k), .int (nI num)].toArray below meth jc H locs 0 0 Q (F0 jm 7 ls []) := by
    intro fuel7
    induction fuel7 with
    | zero => intro i o qL7 gL7 H locs ls hR7 hfr7 hqe hi hfb hso hob  hm7; exact absurd hm7 (Nat.not_lt_zero _)
    | succ fuel7 ih7 =>
      intro i o qL7 gL7 H locs ls hR7 hfr7 hqe hi hfb hso hob  hm7 hW hl
      rw [hqe] at hR7
      refine lv_iload_n jx jb dX9_goes_7 rfl (lv_at hl 3 rfl) ?_
      refine lv_aload_n jx jb dX9_goes_8 rfl (lv_at hl 0 rfl) ?_
      have m4 : gL7 63 = .inr (9, [.ref (ad 64), .ref (ad 65), .ref (ad 66), .ref (ad 67), .int ca, .ref (ad 68), .ref (ad 69), .ref (ad 70), .ref (ad 71), .ref (ad 72), .int te, .ref (ad 73), .ref (ad 74), .ref (ad 75), .ref (ad 76), .ref (ad 77), .ref (ad 78), .ref (ad 79), .ref (ad 80), .int (tI o), .ref (ad 81), .ref (ad 82)]) := hR7.2.1
      refine w_get X hW K9 (by omega) m4 0 (by decide) fl_X9_9 rfl dX9_goes_9 ?_
      refine lv_iload_n jx jb dX9_goes_12 rfl (lv_at hl 1 rfl) ?_
      have m5 : gL7 64 = .inl (cy 0, 6, .inl (q 64)) := hR7.2.2 64 (by decide) (by decide)
      refine w_ild X hW (by omega) m5 k rfl hk (by decide) dX9_goes_13 ?_
      refine top_eq (y := nI (M.1 k)) (hQ.1 k hk) ?_
      refine lv_icmp_ge (tgt := 52) jx jb dX9_goes_14 (by decide) (fun c14 => ?_) (fun c14 => ?_)
      · have hge := n_le (by omega) (by omega) c14
        have hto : tk M k st = o := by cases o with | none => (rw [← hfb rfl, show M.1 k - i = 0 by omega]; rfl) | some b => exact hso b rfl
        refine lv_aload_n jx jb dX9_goes_52 rfl (lv_at hl 0 rfl) ?_
        refine w_get X hW K9 (by omega) m4 19 (by decide) fl_X9_90 rfl dX9_goes_53 ?_
        refine lv_iconst (v := -1) jx jb dX9_goes_56 (by decide) ?_
        refine lv_icmp_ne (tgt := 62) jx jb dX9_goes_57 (by decide) (fun c57 => ?_) (fun c57 => ?_)
        · obtain ⟨b, eb⟩ : ∃ b, o = some b := by cases o with | none => exact absurd rfl c57 | some b => exact ⟨b, rfl⟩
          subst eb
          obtain ⟨b1, b2, b3⟩ := tk_some hok hk hto
          obtain ⟨w1, w2, w3⟩ := hok.2 b b1 b3
          obtain ⟨e1, e2, e3⟩ := hQ.2 b b1 b3
          have hef := efn_lt (st := st) w2 hnum
          have h4 : M.2.2.1 b / 10000 < 4 := by have := w2.1; omega
          refine lv_aload_n jx jb dX9_goes_62 rfl (lv_at hl 0 rfl) ?_
          have m6 : gL7 63 = .inr (9, [.ref (ad 64), .ref (ad 65), .ref (ad 66), .ref (ad 67), .int ca, .ref (ad 68), .ref (ad 69), .ref (ad 70), .ref (ad 71), .ref (ad 72), .int te, .ref (ad 73), .ref (ad 74), .ref (ad 75), .ref (ad 76), .ref (ad 77), .ref (ad 78), .ref (ad 79), .ref (ad 80), .int (tI (some b)), .ref (ad 81), .ref (ad 82)]) := hR7.2.1
          refine w_get X hW K9 (by omega) m6 2 (by decide) fl_X9_16 rfl dX9_goes_63 ?_
          refine lv_aload_n jx jb dX9_goes_66 rfl (lv_at hl 0 rfl) ?_
          refine w_get X hW K9 (by omega) m6 19 (by decide) fl_X9_90 rfl dX9_goes_67 ?_
          have m7 : gL7 66 = .inl (cy 0, 24, .inl (q 66)) := hR7.2.2 66 (by decide) (by decide)
          refine w_ild X hW (by omega) m7 b rfl b1 (by decide) dX9_goes_70 ?_
          refine top_eq (y := nI (M.2.2.1 b)) (e2) ?_
          refine lv_istore_n (lv' := [(3, .int (nI (M.2.2.1 b))), (0, .ref (ad 63)), (1, .int (nI k)), (2, .int (nI num))]) jx jb dX9_goes_71 rfl hl (by decide) rfl (fun ls hl => ?_)
          refine lv_iload_n jx jb dX9_goes_72 rfl (lv_at hl 0 rfl) ?_
          refine lv_sipush (v := 10000) jx jb dX9_goes_73 (by decide) ?_
          refine lv_idiv jx jb dX9_goes_76 (by decide) ?_
          refine top_eq (y := nI (M.2.2.1 b / 10000)) (dv10000 (by omega)) ?_
          refine lv_istore (lv' := [(4, .int (nI (M.2.2.1 b / 10000))), (3, .int (nI (M.2.2.1 b))), (0, .ref (ad 63)), (1, .int (nI k)), (2, .int (nI num))]) jx jb dX9_goes_77 hl (by decide) rfl (fun ls hl => ?_)
          refine lv_aload_n jx jb dX9_goes_79 rfl (lv_at hl 2 rfl) ?_
          refine w_get X hW K9 (by omega) m6 18 (by decide) fl_X9_59 rfl dX9_goes_80 ?_
          refine lv_iload jx jb dX9_goes_83 (lv_at hl 0 rfl) ?_
          refine lv_iload_n jx jb dX9_goes_85 rfl (lv_at hl 1 rfl) ?_
          refine lv_sipush (v := 1000) jx jb dX9_goes_86 (by decide) ?_
          refine lv_idiv jx jb dX9_goes_89 (by decide) ?_
          refine lv_bipush (v := 10) jx jb dX9_goes_90 (by decide) ?_
          refine lv_irem jx jb dX9_goes_92 (by decide) ?_
          refine top_eq (y := nI (M.2.2.1 b / 1000 % 10)) (by rw [dv1000 (by omega), rm10 (by omega)]) ?_
          refine lv_aload_n jx jb dX9_goes_93 rfl (lv_at hl 2 rfl) ?_
          refine w_get X hW K9 (by omega) m6 18 (by decide) fl_X9_59 rfl dX9_goes_94 ?_
          refine lv_iload jx jb dX9_goes_97 (lv_at hl 0 rfl) ?_
          have m8 : gL7 80 = .inl (cy 0, 4, .inl (q 80)) := hR7.2.2 80 (by decide) (by decide)
          refine w_ild X hW (by omega) m8 (M.2.2.1 b / 10000) rfl h4 (by decide) dX9_goes_99 ?_
          refine top_eq (y := nI (nib st (M.2.2.1 b / 10000))) (hN _ h4) ?_
          refine lv_imul jx jb dX9_goes_100 ?_
          refine lv_iload_n jx jb dX9_goes_101 rfl (lv_at hl 1 rfl) ?_
          refine lv_bipush (v := 100) jx jb dX9_goes_102 (by decide) ?_
          refine lv_idiv jx jb dX9_goes_104 (by decide) ?_
          refine lv_bipush (v := 10) jx jb dX9_goes_105 (by decide) ?_
          refine lv_irem jx jb dX9_goes_107 (by decide) ?_
          refine top_eq (y := nI (M.2.2.1 b / 100 % 10)) (by rw [dv100 (by omega), rm10 (by omega)]) ?_
          refine lv_iload_n jx jb dX9_goes_108 rfl (lv_at hl 4 rfl) ?_
          refine lv_imul jx jb dX9_goes_109 ?_
          refine lv_iadd jx jb dX9_goes_110 ?_
          refine lv_iload_n jx jb dX9_goes_111 rfl (lv_at hl 1 rfl) ?_
          refine lv_bipush (v := 100) jx jb dX9_goes_112 (by decide) ?_
          refine lv_irem jx jb dX9_goes_114 (by decide) ?_
          refine top_eq (y := nI (M.2.2.1 b % 100)) (rm100 (by omega)) ?_
          refine lv_iadd jx jb dX9_goes_115 ?_
          refine top_eq (y := nI (efn (M.2.2.1 b) st num)) (by rw [pk_mul, pk_mul, nI_add, nI_add]; rfl) ?_
          refine lv_bipush (v := 16) jx jb dX9_goes_116 (by decide) ?_
          refine lv_irem jx jb dX9_goes_118 (by decide) ?_
          refine top_eq (y := nI (efn (M.2.2.1 b) st num % 16)) (rm16 (by omega)) ?_
          refine w_ist X hW (by omega) m8 (M.2.2.1 b / 10000) rfl h4 (by decide) dX9_goes_119 (fun H locs hW => ?_)
          obtain ⟨g_9, eg_9⟩ : ∃ zz, zz = va_up gL7 80 (.inl (cy 0, 4, .inl (upd (q 80) (M.2.2.1 b / 10000) (nI (efn (M.2.2.1 b) st num % 16))))) := ⟨_, rfl⟩
          have hW : Wd G A js.heap (N, ad, g_9) H locs := by rw [eg_9]; exact hW
          obtain ⟨q_11, eq_11⟩ : ∃ zz, zz = va_up q 80 (upd (q 80) (M.2.2.1 b / 10000) (nI (efn (M.2.2.1 b) st num % 16))) := ⟨_, rfl⟩
          have hR10 : MRaw cy N ad g_9 q_11 ca te (tI (some b)) := by rw [eq_11]; exact hR7.put (by decide) (by decide) (fun k hk => by rw [eg_9, va_up_n hk]) (by rw [eg_9]; exact va_up_s)
          refine lv_aload_n jx jb dX9_goes_120 rfl (lv_at hl 2 rfl) ?_
          have m12 : g_9 63 = .inr (9, [.ref (ad 64), .ref (ad 65), .ref (ad 66), .ref (ad 67), .int ca, .ref (ad 68), .ref (ad 69), .ref (ad 70), .ref (ad 71), .ref (ad 72), .int te, .ref (ad 73), .ref (ad 74), .ref (ad 75), .ref (ad 76), .ref (ad 77), .ref (ad 78), .ref (ad 79), .ref (ad 80), .int (tI (some b)), .ref (ad 81), .ref (ad 82)]) := hR10.2.1
          refine w_get X hW K9 (by omega) m12 18 (by decide) fl_X9_59 rfl dX9_goes_121 ?_
          refine lv_aload_n jx jb dX9_goes_124 rfl (lv_at hl 2 rfl) ?_
          refine w_get X hW K9 (by omega) m12 3 (by decide) fl_X9_19 rfl dX9_goes_125 ?_
          refine lv_aload_n jx jb dX9_goes_128 rfl (lv_at hl 2 rfl) ?_
          refine w_get X hW K9 (by omega) m12 19 (by decide) fl_X9_90 rfl dX9_goes_129 ?_
          have m13 : g_9 67 = .inl (cy 0, 24, .inl (q_11 67)) := hR10.2.2 67 (by decide) (by decide)
          refine w_ild X hW (by omega) m13 b rfl b1 (by decide) dX9_goes_132 ?_
          refine top_eq (y := nI (M.2.2.2 b)) (by rw [eq_11, va_up_n (by decide)]; exact e3) ?_
          have m14 : g_9 80 = .inl (cy 0, 4, .inl (q_11 80)) := hR10.2.2 80 (by decide) (by decide)
          refine w_ild X hW (by omega) m14 (M.2.2.2 b) rfl w3 (by decide) dX9_goes_133 ?_
          refine top_eq (y := nI (nib (setn st (M.2.2.1 b / 10000) (efn (M.2.2.1 b) st num % 16)) (M.2.2.2 b))) (by rw [eq_11, va_up_s]; exact QN_set hN h4 (Nat.mod_lt _ (by decide)) _ w3) ?_
          exact ret _ _ _ _ _ _ dX9_goes_134 hW (by rw [hto]; exact ⟨rfl, q_11, hR10, (fun i hi => by rw [eq_11, va_up_s]; exact QN_set hN h4 (Nat.mod_lt _ (by decide)) i hi), (fun a ha => by rw [eq_11, va_up_n ha]), (fun k hk => by show g_9 k = _; rw [eg_9, va_up_n (by omega), hfr7 k hk])⟩)
        · have ho := tI_m1 hob c57
          subst ho
          refine lv_iconst (v := -1) jx jb dX9_goes_60 (by decide) ?_
          exact ret _ _ _ _ _ _ dX9_goes_61 hW (by rw [hto]; exact ⟨rfl, q, hR7, hN, fun a ha => rfl, (fun k hk => by show gL7 k = _; rw [hfr7 k hk])⟩)
      · have hlt : i < M.1 k := n_nle (by omega) (by omega) c14
        refine lv_aload_n jx jb dX9_goes_17 rfl (lv_at hl 0 rfl) ?_
        refine w_get X hW K9 (by omega) m4 19 (by decide) fl_X9_90 rfl dX9_goes_18 ?_
        refine lv_iconst (v := -1) jx jb dX9_goes_21 (by decide) ?_
        refine lv_icmp_ne (tgt := 52) jx jb dX9_goes_22 (by decide) (fun c22 => ?_) (fun c22 => ?_)
        · have hto : tk M k st = o := by cases o with | none => exact absurd rfl c22 | some b => exact hso b rfl
          refine lv_aload_n jx jb dX9_goes_52 rfl (lv_at hl 0 rfl) ?_
          refine w_get X hW K9 (by omega) m4 19 (by decide) fl_X9_90 rfl dX9_goes_53 ?_
          refine lv_iconst (v := -1) jx jb dX9_goes_56 (by decide) ?_
          refine lv_icmp_ne (tgt := 62) jx jb dX9_goes_57 (by decide) (fun c57 => ?_) (fun c57 => ?_)
          · obtain ⟨b, eb⟩ : ∃ b, o = some b := by cases o with | none => exact absurd rfl c57 | some b => exact ⟨b, rfl⟩
            subst eb
            obtain ⟨b1, b2, b3⟩ := tk_some hok hk hto
            obtain ⟨w1, w2, w3⟩ := hok.2 b b1 b3
            obtain ⟨e1, e2, e3⟩ := hQ.2 b b1 b3
            have hef := efn_lt (st := st) w2 hnum
            have h4 : M.2.2.1 b / 10000 < 4 := by have := w2.1; omega
            refine lv_aload_n jx jb dX9_goes_62 rfl (lv_at hl 0 rfl) ?_
            have m15 : gL7 63 = .inr (9, [.ref (ad 64), .ref (ad 65), .ref (ad 66), .ref (ad 67), .int ca, .ref (ad 68), .ref (ad 69), .ref (ad 70), .ref (ad 71), .ref (ad 72), .int te, .ref (ad 73), .ref (ad 74), .ref (ad 75), .ref (ad 76), .ref (ad 77), .ref (ad 78), .ref (ad 79), .ref (ad 80), .int (tI (some b)), .ref (ad 81), .ref (ad 82)]) := hR7.2.1
            refine w_get X hW K9 (by omega) m15 2 (by decide) fl_X9_16 rfl dX9_goes_63 ?_
            refine lv_aload_n jx jb dX9_goes_66 rfl (lv_at hl 0 rfl) ?_
            refine w_get X hW K9 (by omega) m15 19 (by decide) fl_X9_90 rfl dX9_goes_67 ?_
            have m16 : gL7 66 = .inl (cy 0, 24, .inl (q 66)) := hR7.2.2 66 (by decide) (by decide)
            refine w_ild X hW (by omega) m16 b rfl b1 (by decide) dX9_goes_70 ?_
            refine top_eq (y := nI (M.2.2.1 b)) (e2) ?_
            refine lv_istore_n (lv' := [(3, .int (nI (M.2.2.1 b))), (0, .ref (ad 63)), (1, .int (nI k)), (2, .int (nI num))]) jx jb dX9_goes_71 rfl hl (by decide) rfl (fun ls hl => ?_)
            refine lv_iload_n jx jb dX9_goes_72 rfl (lv_at hl 0 rfl) ?_
            refine lv_sipush (v := 10000) jx jb dX9_goes_73 (by decide) ?_
            refine lv_idiv jx jb dX9_goes_76 (by decide) ?_
            refine top_eq (y := nI (M.2.2.1 b / 10000)) (dv10000 (by omega)) ?_
            refine lv_istore (lv' := [(4, .int (nI (M.2.2.1 b / 10000))), (3, .int (nI (M.2.2.1 b))), (0, .ref (ad 63)), (1, .int (nI k)), (2, .int (nI num))]) jx jb dX9_goes_77 hl (by decide) rfl (fun ls hl => ?_)
            refine lv_aload_n jx jb dX9_goes_79 rfl (lv_at hl 2 rfl) ?_
            refine w_get X hW K9 (by omega) m15 18 (by decide) fl_X9_59 rfl dX9_goes_80 ?_
            refine lv_iload jx jb dX9_goes_83 (lv_at hl 0 rfl) ?_
            refine lv_iload_n jx jb dX9_goes_85 rfl (lv_at hl 1 rfl) ?_
            refine lv_sipush (v := 1000) jx jb dX9_goes_86 (by decide) ?_
            refine lv_idiv jx jb dX9_goes_89 (by decide) ?_
            refine lv_bipush (v := 10) jx jb dX9_goes_90 (by decide) ?_
            refine lv_irem jx jb dX9_goes_92 (by decide) ?_
            refine top_eq (y := nI (M.2.2.1 b / 1000 % 10)) (by rw [dv1000 (by omega), rm10 (by omega)]) ?_
            refine lv_aload_n jx jb dX9_goes_93 rfl (lv_at hl 2 rfl) ?_
            refine w_get X hW K9 (by omega) m15 18 (by decide) fl_X9_59 rfl dX9_goes_94 ?_
            refine lv_iload jx jb dX9_goes_97 (lv_at hl 0 rfl) ?_
            have m17 : gL7 80 = .inl (cy 0, 4, .inl (q 80)) := hR7.2.2 80 (by decide) (by decide)
            refine w_ild X hW (by omega) m17 (M.2.2.1 b / 10000) rfl h4 (by decide) dX9_goes_99 ?_
            refine top_eq (y := nI (nib st (M.2.2.1 b / 10000))) (hN _ h4) ?_
            refine lv_imul jx jb dX9_goes_100 ?_
            refine lv_iload_n jx jb dX9_goes_101 rfl (lv_at hl 1 rfl) ?_
            refine lv_bipush (v := 100) jx jb dX9_goes_102 (by decide) ?_
            refine lv_idiv jx jb dX9_goes_104 (by decide) ?_
            refine lv_bipush (v := 10) jx jb dX9_goes_105 (by decide) ?_
            refine lv_irem jx jb dX9_goes_107 (by decide) ?_
            refine top_eq (y := nI (M.2.2.1 b / 100 % 10)) (by rw [dv100 (by omega), rm10 (by omega)]) ?_
            refine lv_iload_n jx jb dX9_goes_108 rfl (lv_at hl 4 rfl) ?_
            refine lv_imul jx jb dX9_goes_109 ?_
            refine lv_iadd jx jb dX9_goes_110 ?_
            refine lv_iload_n jx jb dX9_goes_111 rfl (lv_at hl 1 rfl) ?_
            refine lv_bipush (v := 100) jx jb dX9_goes_112 (by decide) ?_
            refine lv_irem jx jb dX9_goes_114 (by decide) ?_
            refine top_eq (y := nI (M.2.2.1 b % 100)) (rm100 (by omega)) ?_
            refine lv_iadd jx jb dX9_goes_115 ?_
            refine top_eq (y := nI (efn (M.2.2.1 b) st num)) (by rw [pk_mul, pk_mul, nI_add, nI_add]; rfl) ?_
            refine lv_bipush (v := 16) jx jb dX9_goes_116 (by decide) ?_
            refine lv_irem jx jb dX9_goes_118 (by decide) ?_
            refine top_eq (y := nI (efn (M.2.2.1 b) st num % 16)) (rm16 (by omega)) ?_
            refine w_ist X hW (by omega) m17 (M.2.2.1 b / 10000) rfl h4 (by decide) dX9_goes_119 (fun H locs hW => ?_)
            obtain ⟨g_18, eg_18⟩ : ∃ zz, zz = va_up gL7 80 (.inl (cy 0, 4, .inl (upd (q 80) (M.2.2.1 b / 10000) (nI (efn (M.2.2.1 b) st num % 16))))) := ⟨_, rfl⟩
            have hW : Wd G A js.heap (N, ad, g_18) H locs := by rw [eg_18]; exact hW
            obtain ⟨q_20, eq_20⟩ : ∃ zz, zz = va_up q 80 (upd (q 80) (M.2.2.1 b / 10000) (nI (efn (M.2.2.1 b) st num % 16))) := ⟨_, rfl⟩
            have hR19 : MRaw cy N ad g_18 q_20 ca te (tI (some b)) := by rw [eq_20]; exact hR7.put (by decide) (by decide) (fun k hk => by rw [eg_18, va_up_n hk]) (by rw [eg_18]; exact va_up_s)
            refine lv_aload_n jx jb dX9_goes_120 rfl (lv_at hl 2 rfl) ?_
            have m21 : g_18 63 = .inr (9, [.ref (ad 64), .ref (ad 65), .ref (ad 66), .ref (ad 67), .int ca, .ref (ad 68), .ref (ad 69), .ref (ad 70), .ref (ad 71), .ref (ad 72), .int te, .ref (ad 73), .ref (ad 74), .ref (ad 75), .ref (ad 76), .ref (ad 77), .ref (ad 78), .ref (ad 79), .ref (ad 80), .int (tI (some b)), .ref (ad 81), .ref (ad 82)]) := hR19.2.1
            refine w_get X hW K9 (by omega) m21 18 (by decide) fl_X9_59 rfl dX9_goes_121 ?_
            refine lv_aload_n jx jb dX9_goes_124 rfl (lv_at hl 2 rfl) ?_
            refine w_get X hW K9 (by omega) m21 3 (by decide) fl_X9_19 rfl dX9_goes_125 ?_
            refine lv_aload_n jx jb dX9_goes_128 rfl (lv_at hl 2 rfl) ?_
            refine w_get X hW K9 (by omega) m21 19 (by decide) fl_X9_90 rfl dX9_goes_129 ?_
            have m22 : g_18 67 = .inl (cy 0, 24, .inl (q_20 67)) := hR19.2.2 67 (by decide) (by decide)
            refine w_ild X hW (by omega) m22 b rfl b1 (by decide) dX9_goes_132 ?_
            refine top_eq (y := nI (M.2.2.2 b)) (by rw [eq_20, va_up_n (by decide)]; exact e3) ?_
            have m23 : g_18 80 = .inl (cy 0, 4, .inl (q_20 80)) := hR19.2.2 80 (by decide) (by decide)
            refine w_ild X hW (by omega) m23 (M.2.2.2 b) rfl w3 (by decide) dX9_goes_133 ?_
            refine top_eq (y := nI (nib (setn st (M.2.2.1 b / 10000) (efn (M.2.2.1 b) st num % 16)) (M.2.2.2 b))) (by rw [eq_20, va_up_s]; exact QN_set hN h4 (Nat.mod_lt _ (by decide)) _ w3) ?_
            exact ret _ _ _ _ _ _ dX9_goes_134 hW (by rw [hto]; exact ⟨rfl, q_20, hR19, (fun i hi => by rw [eq_20, va_up_s]; exact QN_set hN h4 (Nat.mod_lt _ (by decide)) i hi), (fun a ha => by rw [eq_20, va_up_n ha]), (fun k hk => by show g_18 k = _; rw [eg_18, va_up_n (by omega), hfr7 k hk])⟩)
          · have ho := tI_m1 hob c57
            subst ho
            refine lv_iconst (v := -1) jx jb dX9_goes_60 (by decide) ?_
            exact ret _ _ _ _ _ _ dX9_goes_61 hW (by rw [hto]; exact ⟨rfl, q, hR7, hN, fun a ha => rfl, (fun k hk => by show gL7 k = _; rw [hfr7 k hk])⟩)
        · have ho := tI_m1 hob c22
          subst ho
          have hbit : 4 * k + i < 24 := by omega
          have hth : (4 * k + i) % 4 < M.1 ((4 * k + i) / 4) := by rw [show (4 * k + i) / 4 = k by omega]; omega
          have hd : M.1 k - i = (M.1 k - i - 1) + 1 := by omega
          refine lv_aload_n jx jb dX9_goes_25 rfl (lv_at hl 0 rfl) ?_
          refine lv_iconst (v := 4) jx jb dX9_goes_26 (by decide) ?_
          refine lv_iload_n jx jb dX9_goes_27 rfl (lv_at hl 1 rfl) ?_
          refine lv_imul jx jb dX9_goes_28 ?_
          refine lv_iload_n jx jb dX9_goes_29 rfl (lv_at hl 3 rfl) ?_
          refine lv_iadd jx jb dX9_goes_30 ?_
          refine top_eq (y := nI (4 * k + i)) (by rw [show (4 : Int32) = nI 4 from rfl, pk_mul, nI_add]) ?_
          refine w_rV (As := [.int (nI (4 * k + i))]) X hW (c_mHolds hR7 hbit (hQ.2 _ hbit hth).1 (hok.2 _ hbit hth).1 hN) (by omega) m4 rfl rfl ml_X9_93 mf_X9_holds ⟨Nat.le_of_ble_eq_true rfl, Nat.le_of_ble_eq_true rfl⟩ hl.1 rfl (Nat.le_of_ble_eq_true rfl) ⟨Nat.le_of_ble_eq_true rfl, Nat.le_of_ble_eq_true rfl⟩ dX9_goes_31 (fun H locs hW => ?_)
          refine lv_if_eq (tgt := 46) jx jb dX9_goes_34 (by decide) (fun c34 => ?_) (fun c34 => ?_)
          · have hnh := bI_0.mp c34
            refine lv_iinc (v := nI (i + 1)) (lv' := [(3, .int (nI (i + 1))), (0, .ref (ad 63)), (1, .int (nI k)), (2, .int (nI num))]) jx jb dX9_goes_46 hl (k := 3) rfl (show nI i + 1 = nI (i + 1) from nI_1 _) (by decide) rfl (fun ls hl => ?_)
            refine lv_goto (tgt := 7) jx jb dX9_goes_49 (by decide) ?_
            exact ih7 (i + 1) none q gL7 _ _ _ hR7 (fun k hk => by show gL7 k = _; rw [hfr7 k hk]) rfl (by omega) (fun _ => by rw [← hfb rfl, hd, fb, if_neg hnh, show M.1 k - (i + 1) = M.1 k - i - 1 by omega]) (fun b hb => by cases hb) (fun b hb => by cases hb)  (by omega) hW (lv_sub hl [1, 2, 3, 0] rfl)
          · have hh := bI_n0.mp c34
            refine lv_aload_n jx jb dX9_goes_37 rfl (lv_at hl 0 rfl) ?_
            refine lv_iconst (v := 4) jx jb dX9_goes_38 (by decide) ?_
            refine lv_iload_n jx jb dX9_goes_39 rfl (lv_at hl 1 rfl) ?_
            refine lv_imul jx jb dX9_goes_40 ?_
            refine lv_iload_n jx jb dX9_goes_41 rfl (lv_at hl 3 rfl) ?_
            refine lv_iadd jx jb dX9_goes_42 ?_
            refine top_eq (y := tI (some (4 * k + i))) (by rw [show (4 : Int32) = nI 4 from rfl, pk_mul, nI_add]; rfl) ?_
            refine w_put X hW K9 (by omega) m4 19 (by decide) fl_X9_90 rfl rfl rfl (Nat.le_of_ble_eq_true rfl) dX9_goes_43 (fun H locs hW => ?_)
            obtain ⟨g_24, eg_24⟩ : ∃ zz, zz = va_up gL7 63 (.inr (9, [.ref (ad 64), .ref (ad 65), .ref (ad 66), .ref (ad 67), .int ca, .ref (ad 68), .ref (ad 69), .ref (ad 70), .ref (ad 71), .ref (ad 72), .int te, .ref (ad 73), .ref (ad 74), .ref (ad 75), .ref (ad 76), .ref (ad 77), .ref (ad 78), .ref (ad 79), .ref (ad 80), .int (tI (some (4 * k + i))), .ref (ad 81), .ref (ad 82)])) := ⟨_, rfl⟩
            have hW : Wd G A js.heap (N, ad, g_24) H locs := by rw [eg_24]; exact hW
            have hR25 : MRaw cy N ad g_24 q ca te (tI (some (4 * k + i))) := hR7.put63 (fun k hk => by rw [eg_24, va_up_n hk]) (by rw [eg_24]; exact va_up_s)
            refine lv_iinc (v := nI (i + 1)) (lv' := [(3, .int (nI (i + 1))), (0, .ref (ad 63)), (1, .int (nI k)), (2, .int (nI num))]) jx jb dX9_goes_46 hl (k := 3) rfl (show nI i + 1 = nI (i + 1) from nI_1 _) (by decide) rfl (fun ls hl => ?_)
            refine lv_goto (tgt := 7) jx jb dX9_goes_49 (by decide) ?_
            exact ih7 (i + 1) (some (4 * k + i)) q g_24 _ _ _ hR25 (fun k hk => by show g_24 k = _; rw [eg_24, va_up_n (by omega), hfr7 k hk]) rfl (by omega) (fun h => by cases h) (fun b hb => by cases hb; rw [← hfb rfl, hd, fb, if_pos hh]) (fun b hb => by cases hb; omega)  (by omega) hW (lv_sub hl [1, 2, 3, 0] rfl)
  exact loop7 _ 0 none q g_2 _ _ _ hR3 (fun k hk => by show g_2 k = _; rw [eg_2, va_up_n (by omega)]) rfl (by omega) (fun _ => rfl) (fun b hb => by cases hb) (fun b hb => by cases hb)  (Nat.lt_succ_self _) hW (lv_sub hl [1, 2, 3, 0] rfl)
