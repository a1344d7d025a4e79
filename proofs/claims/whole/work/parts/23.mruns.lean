def QL (q : Nat → Nat → Int32) (lg : List Nat) (lr lt : Nat → Int32) : Prop := lg.length ≤ 200 ∧ (∀ x, x ∈ lg → x < 96) ∧ ∀ i, i < lg.length → q 68 i = nI (gl lg i / 16) ∧ q 69 i = nI (gl lg i % 16) ∧ q 70 i = lr i ∧ q 71 i = lt i
theorem QL.of {q q' : Nat → Nat → Int32} {lg : List Nat} {lr lt : Nat → Int32} (h : QL q lg lr lt) (h1 : ∀ a, 68 ≤ a → a ≤ 71 → q' a = q a) : QL q' lg lr lt := ⟨h.1, h.2.1, fun i hi => by rw [h1 68 (by omega) (by omega), h1 69 (by omega) (by omega), h1 70 (by omega) (by omega), h1 71 (by omega) (by omega)]; exact h.2.2 i hi⟩
def QR (q : Nat → Nat → Int32) (i : Nat) (row : List Nat) : Prop := row.length ≤ 200 ∧ (∀ x, x ∈ row → x < 96) ∧ ∀ k, k < row.length → q 74 (200 * i + k) = nI (gl row k / 16) ∧ q 75 (200 * i + k) = nI (gl row k % 16)
def mOK (t : TT) : Prop := ∀ k, k < 6 → anyK (gl t.1) k t.1.length = false → (t.2.2.1 >>> ((4 * nI k) &&& 31)) &&& 15 = 0
def QT (q : Nat → Nat → Int32) (i : Nat) (t : TT) : Prop := QR q i t.1 ∧ q 73 i = nI t.1.length ∧ (∀ k, k < t.1.length → q 76 (200 * i + k) = t.2.1 k) ∧ q 77 i = t.2.2.1 ∧ q 78 i = bI (t.2.2.2.1 = true) ∧ q 79 i = bI (t.2.2.2.2 = true) ∧ mOK t
theorem QT.of {q q' : Nat → Nat → Int32} {i : Nat} {t : TT} (h : QT q i t) (h1 : ∀ a, 73 ≤ a → a ≤ 79 → q' a = q a) : QT q' i t := by
  obtain ⟨⟨a1, a2, a3⟩, b, c, d, e, f, m⟩ := h
  refine ⟨⟨a1, a2, fun k hk => ?_⟩, ?_, fun k hk => ?_, ?_, ?_, ?_, m⟩
  · rw [h1 74 (by omega) (by omega), h1 75 (by omega) (by omega)]; exact a3 k hk
  · rw [h1 73 (by omega) (by omega)]; exact b
  · rw [h1 76 (by omega) (by omega)]; exact c k hk
  · rw [h1 77 (by omega) (by omega)]; exact d
  · rw [h1 78 (by omega) (by omega)]; exact e
  · rw [h1 79 (by omega) (by omega)]; exact f
def gvq (M : M4) (c : Nat → Nat) : Nat → Int32
  | 0 => -1
  | k + 1 => rsq M c 0 k
theorem or0 (x : Int32) : x ||| 0 = x := Int32.or_zero
theorem mt_none {M : M4} {c : Nat → Nat} {k : Nat} (hb : ∀ b, tkq M c 0 k = some b → b < 24) (h : tI (tkq M c 0 k) = -1) : mtq M c (k + 1) = mtq M c k := by
  rw [show mtq M c (k + 1) = mtq M c k ||| btq (tkq M c 0 k) from rfl, ← bt_a hb h, or0]
theorem mt_some {M : M4} {c : Nat → Nat} {k : Nat} (h : ¬ tI (tkq M c 0 k) = -1) : mtq M c k ||| ((1 : Int32) <<< (tI (tkq M c 0 k) &&& 31)) = mtq M c (k + 1) := by
  rw [bt_b h]; rfl

set_option maxHeartbeats 4000000 in
set_option maxRecDepth 100000 in
theorem c_mMeets {l : Launch} {G : va_G} {cy : Nat → ClassId} {N : Nat} {ad : Nat → Nat} {g : Nat → va_E} {q : Nat → Nat → Int32} {ca te to : Int32} {M : M4} {i : Nat} {row : List Nat} (hR : MRaw cy N ad g q ca te to) (hok : okM M) (hQ : QM q M) (hT : QR q i row) (hlen : q 73 i = nI row.length) (hi : i < 12) : MI l G cy (N, ad, g) yX9_meets cX9_meets 4 (some .int) (rmN 2) [.ref (ad 63), .int (nI i)] (nA N ad (fun v g1 => v = mtq M (gl row) row.length ∧ ∃ q1 tv, MRaw cy N ad g1 q1 ca te tv ∧ (∀ a, a ≠ 80 → q1 a = q a) ∧ ∀ k, ¬ (63 ≤ k ∧ k < 83) → g1 k = g k)) := by
  refine NI.mk (by decide) (by intros; first | rfl | (simp_all; done)) (Nat.le_of_ble_eq_true rfl) ?_
  intro jp je js jm below meth jc A Q X hW ret ls hl
  have jx := X.hx
  have jb := X.hb
  have hl : lv_has ls 4 [(0, .ref (ad 63)), (1, .int (nI i))] := hl
  have X : Cx G cy jp js jm _ jc cX9_meets 4 RX9 A js.heap := X
  have h83 : 83 ≤ N := hR.1
  have hl200 := hT.1
  refine lv_aload_n jx jb dX9_meets_0 rfl (lv_at hl 0 rfl) ?_
  have m2 : g 63 = .inr (9, [.ref (ad 64), .ref (ad 65), .ref (ad 66), .ref (ad 67), .int ca, .ref (ad 68), .ref (ad 69), .ref (ad 70), .ref (ad 71), .ref (ad 72), .int te, .ref (ad 73), .ref (ad 74), .ref (ad 75), .ref (ad 76), .ref (ad 77), .ref (ad 78), .ref (ad 79), .ref (ad 80), .int to, .ref (ad 81), .ref (ad 82)]) := hR.2.1
  refine w_nVv (As := []) X hW (c_begins hR) (by omega) m2 rfl rfl ml_X9_103 mf_X9_begins ⟨Nat.le_of_ble_eq_true rfl, Nat.le_of_ble_eq_true rfl⟩ hl.1 rfl (Nat.le_of_ble_eq_true rfl) ⟨Nat.le_of_ble_eq_true rfl, Nat.le_of_ble_eq_true rfl⟩ dX9_meets_1 (fun gBb1 H locs hp hW => ?_)
  obtain ⟨qBb1, hRBb1, hNBb1, hsBb1, frBb1⟩ := hp
  refine lv_iconst (v := 0) jx jb dX9_meets_4 (by decide) ?_
  refine lv_istore_n (lv' := [(2, .int 0), (0, .ref (ad 63)), (1, .int (nI i))]) jx jb dX9_meets_5 rfl hl (by decide) rfl (fun ls hl => ?_)
  refine lv_sipush (v := 200) jx jb dX9_meets_6 (by decide) ?_
  refine lv_iload_n jx jb dX9_meets_9 rfl (lv_at hl 2 rfl) ?_
  refine lv_imul jx jb dX9_meets_10 ?_
  refine top_eq (y := nI (200 * i + 0)) (by rw [show (200 : Int32) = nI 200 from rfl, pk_mul]; rfl) ?_
  refine lv_istore_n (lv' := [(3, .int (nI (200 * i + 0))), (2, .int 0), (0, .ref (ad 63)), (1, .int (nI i))]) jx jb dX9_meets_11 rfl hl (by decide) rfl (fun ls hl => ?_)
  have loop12 : ∀ (fuel12 : Nat) (k : Nat) (tv : Int32) (qL12 : Nat → Nat → Int32) (gL12 : Nat → va_E) (H : Heap) (locs : List Loc) (ls : Array Slot), (MRaw cy N ad gL12 qL12 ca te tv) → (∀ k, ¬ (63 ≤ k ∧ k < 83) → gL12 k = g k) → (k ≤ row.length) → (∀ a, a ≠ 80 → qL12 a = q a) → (QN qL12 (stq M (gl row) 0 k)) → row.length - k < fuel12 → Wd G A js.heap (N, ad, gL12) H locs → lv_has ls 4 [(0, .ref (ad 63)), (1, .int (nI i)), (2, .int (mtq M (gl row) k)), (3, .int (nI (200 * i + k)))] → W jp l je (rmN 2) js jm [.ref (ad 63), .int (nI i)].toArray below meth jc H locs 0 0 Q (F0 jm 12 ls []) := by
    intro fuel12
    induction fuel12 with
    | zero => intro k tv qL12 gL12 H locs ls hR12 hfr12 hk hsm hN  hm12; exact absurd hm12 (Nat.not_lt_zero _)
    | succ fuel12 ih12 =>
      intro k tv qL12 gL12 H locs ls hR12 hfr12 hk hsm hN  hm12 hW hl
      refine lv_iload_n jx jb dX9_meets_12 rfl (lv_at hl 3 rfl) ?_
      refine lv_sipush (v := 200) jx jb dX9_meets_13 (by decide) ?_
      refine lv_iload_n jx jb dX9_meets_16 rfl (lv_at hl 1 rfl) ?_
      refine lv_imul jx jb dX9_meets_17 ?_
      refine top_eq (y := nI (200 * i)) (by rw [show (200 : Int32) = nI 200 from rfl, pk_mul]) ?_
      refine lv_aload_n jx jb dX9_meets_18 rfl (lv_at hl 0 rfl) ?_
      have m3 : gL12 63 = .inr (9, [.ref (ad 64), .ref (ad 65), .ref (ad 66), .ref (ad 67), .int ca, .ref (ad 68), .ref (ad 69), .ref (ad 70), .ref (ad 71), .ref (ad 72), .int te, .ref (ad 73), .ref (ad 74), .ref (ad 75), .ref (ad 76), .ref (ad 77), .ref (ad 78), .ref (ad 79), .ref (ad 80), .int tv, .ref (ad 81), .ref (ad 82)]) := hR12.2.1
      refine w_get X hW K9 (by omega) m3 11 (by decide) fl_X9_37 rfl dX9_meets_19 ?_
      refine lv_iload_n jx jb dX9_meets_22 rfl (lv_at hl 1 rfl) ?_
      have m4 : gL12 73 = .inl (cy 0, 12, .inl (qL12 73)) := hR12.2.2 73 (by decide) (by decide)
      refine w_ild X hW (by omega) m4 i rfl hi (by decide) dX9_meets_23 ?_
      refine lv_iadd jx jb dX9_meets_24 ?_
      refine top_eq (y := nI (200 * i + row.length)) (by rw [hsm 73 (by decide), hlen, nI_add]) ?_
      refine lv_icmp_ge (tgt := 68) jx jb dX9_meets_25 (by decide) (fun c25 => ?_) (fun c25 => ?_)
      · refine lv_iload_n jx jb dX9_meets_68 rfl (lv_at hl 2 rfl) ?_
        exact ret _ _ _ _ _ _ dX9_meets_69 hW (by have := n_le (by omega) (by omega) c25; have e : k = row.length := (by omega); rw [e]; exact ⟨rfl, _, _, hR12, hsm, (fun k hk => by show gL12 k = _; rw [hfr12 k hk])⟩)
      · have hlt : k < row.length := by have := n_nle (by omega) (by omega) c25; omega
        have h96 := hT.2.1 _ (gl_mem hlt)
        refine lv_aload_n jx jb dX9_meets_28 rfl (lv_at hl 0 rfl) ?_
        refine lv_aload_n jx jb dX9_meets_29 rfl (lv_at hl 0 rfl) ?_
        refine w_get X hW K9 (by omega) m3 12 (by decide) fl_X9_40 rfl dX9_meets_30 ?_
        refine lv_iload_n jx jb dX9_meets_33 rfl (lv_at hl 3 rfl) ?_
        have m5 : gL12 74 = .inl (cy 0, 2400, .inl (qL12 74)) := hR12.2.2 74 (by decide) (by decide)
        refine w_ild X hW (by omega) m5 (200 * i + k) rfl (by omega) (by decide) dX9_meets_34 ?_
        refine top_eq (y := nI (gl row k / 16)) (by rw [hsm 74 (by decide)]; exact (hT.2.2 k hlt).1) ?_
        refine lv_aload_n jx jb dX9_meets_35 rfl (lv_at hl 0 rfl) ?_
        refine w_get X hW K9 (by omega) m3 13 (by decide) fl_X9_43 rfl dX9_meets_36 ?_
        refine lv_iload_n jx jb dX9_meets_39 rfl (lv_at hl 3 rfl) ?_
        have m6 : gL12 75 = .inl (cy 0, 2400, .inl (qL12 75)) := hR12.2.2 75 (by decide) (by decide)
        refine w_ild X hW (by omega) m6 (200 * i + k) rfl (by omega) (by decide) dX9_meets_40 ?_
        refine top_eq (y := nI (gl row k % 16)) (by rw [hsm 75 (by decide)]; exact (hT.2.2 k hlt).2) ?_
        refine w_nV (As := [.int (nI (gl row k / 16)), .int (nI (gl row k % 16))]) X hW (c_goes hR12 hok (hQ.of (fun a h1 h2 => hsm a (by omega))) hN (by omega) (Nat.mod_lt _ (by decide))) (by omega) m3 rfl rfl ml_X9_99 mf_X9_goes ⟨Nat.le_of_ble_eq_true rfl, Nat.le_of_ble_eq_true rfl⟩ hl.1 rfl (Nat.le_of_ble_eq_true rfl) ⟨Nat.le_of_ble_eq_true rfl, Nat.le_of_ble_eq_true rfl⟩ dX9_meets_41 (fun rx7 gGx7 H locs hp hW => ?_)
        obtain ⟨erx7, qGx7, hRGx7, hNGx7, hsGx7, frGx7⟩ := hp
        refine lv_pop jx jb dX9_meets_44 rfl ?_
        refine lv_aload_n jx jb dX9_meets_45 rfl (lv_at hl 0 rfl) ?_
        have m8 : gGx7 63 = .inr (9, [.ref (ad 64), .ref (ad 65), .ref (ad 66), .ref (ad 67), .int ca, .ref (ad 68), .ref (ad 69), .ref (ad 70), .ref (ad 71), .ref (ad 72), .int te, .ref (ad 73), .ref (ad 74), .ref (ad 75), .ref (ad 76), .ref (ad 77), .ref (ad 78), .ref (ad 79), .ref (ad 80), .int (tI (tk M (gl row k / 16) (stq M (gl row) 0 k))), .ref (ad 81), .ref (ad 82)]) := hRGx7.2.1
        refine w_get X hW K9 (by omega) m8 19 (by decide) fl_X9_90 rfl dX9_meets_46 ?_
        refine top_eq (y := tI (tkq M (gl row) 0 k)) (rfl) ?_
        refine lv_iconst (v := -1) jx jb dX9_meets_49 (by decide) ?_
        refine lv_icmp_eq (tgt := 62) jx jb dX9_meets_50 (by decide) (fun c50 => ?_) (fun c50 => ?_)
        · have hl : lv_has ls 4 [(0, .ref (ad 63)), (1, .int (nI i)), (2, .int (mtq M (gl row) (k + 1))), (3, .int (nI (200 * i + k)))] := by rw [show mtq M (gl row) (k + 1) = mtq M (gl row) k from mt_none (tkq_b hok h96) c50]; exact hl
          refine lv_iinc (v := nI ((200 * i + k) + 1)) (lv' := [(3, .int (nI ((200 * i + k) + 1))), (0, .ref (ad 63)), (1, .int (nI i)), (2, .int (mtq M (gl row) (k + 1)))]) jx jb dX9_meets_62 hl (k := 3) rfl (show nI (200 * i + k) + 1 = nI ((200 * i + k) + 1) from nI_1 _) (by decide) rfl (fun ls hl => ?_)
          refine lv_goto (tgt := 12) jx jb dX9_meets_65 (by decide) ?_
          exact ih12 (k + 1) _ qGx7 gGx7 _ _ _ hRGx7 (fun k hk => by show gGx7 k = _; rw [frGx7 k hk, hfr12 k hk]) (by omega) (fun a ha => (hsGx7 a ha).trans (hsm a ha)) hNGx7  (by omega) hW (lv_sub hl [1, 2, 3, 0] rfl)
        · refine lv_iload_n jx jb dX9_meets_53 rfl (lv_at hl 2 rfl) ?_
          refine lv_iconst (v := 1) jx jb dX9_meets_54 (by decide) ?_
          refine lv_aload_n jx jb dX9_meets_55 rfl (lv_at hl 0 rfl) ?_
          refine w_get X hW K9 (by omega) m8 19 (by decide) fl_X9_90 rfl dX9_meets_56 ?_
          refine top_eq (y := tI (tkq M (gl row) 0 k)) (rfl) ?_
          refine lv_ishl jx jb dX9_meets_59 ?_
          refine lv_ior jx jb dX9_meets_60 ?_
          refine top_eq (y := mtq M (gl row) (k + 1)) (mt_some c50) ?_
          refine lv_istore_n (lv' := [(2, .int (mtq M (gl row) (k + 1))), (0, .ref (ad 63)), (1, .int (nI i)), (3, .int (nI (200 * i + k)))]) jx jb dX9_meets_61 rfl hl (by decide) rfl (fun ls hl => ?_)
          refine lv_iinc (v := nI ((200 * i + k) + 1)) (lv' := [(3, .int (nI ((200 * i + k) + 1))), (2, .int (mtq M (gl row) (k + 1))), (0, .ref (ad 63)), (1, .int (nI i))]) jx jb dX9_meets_62 hl (k := 3) rfl (show nI (200 * i + k) + 1 = nI ((200 * i + k) + 1) from nI_1 _) (by decide) rfl (fun ls hl => ?_)
          refine lv_goto (tgt := 12) jx jb dX9_meets_65 (by decide) ?_
          exact ih12 (k + 1) _ qGx7 gGx7 _ _ _ hRGx7 (fun k hk => by show gGx7 k = _; rw [frGx7 k hk, hfr12 k hk]) (by omega) (fun a ha => (hsGx7 a ha).trans (hsm a ha)) hNGx7  (by omega) hW (lv_sub hl [2, 3, 1, 0] rfl)
  exact loop12 _ 0 _ qBb1 gBb1 _ _ _ hRBb1 (fun k hk => by show gBb1 k = _; rw [frBb1 k hk]) (by omega) hsBb1 hNBb1  (Nat.lt_succ_self _) hW (lv_sub hl [2, 3, 1, 0] rfl)

set_option maxHeartbeats 4000000 in
set_option maxRecDepth 100000 in
theorem c_mReached {l : Launch} {G : va_G} {cy : Nat → ClassId} {N : Nat} {ad : Nat → Nat} {g : Nat → va_E} {q : Nat → Nat → Int32} {te to : Int32} {M : M4} {lg : List Nat} {lr lt : Nat → Int32} (hR : MRaw cy N ad g q (nI lg.length) te to) (hok : okM M) (hQ : QM q M) (hL : QL q lg lr lt) : MI l G cy (N, ad, g) yX9_reached cX9_reached 3 (some .int) (rmN 2) [.ref (ad 63)] (nA N ad (fun v g1 => v = mtq M (gl lg) lg.length ∧ ∃ q1 tv, MRaw cy N ad g1 q1 (nI lg.length) te tv ∧ (∀ a, a ≠ 80 → q1 a = q a) ∧ ∀ k, ¬ (63 ≤ k ∧ k < 83) → g1 k = g k)) := by
  refine NI.mk (by decide) (by intros; first | rfl | (simp_all; done)) (Nat.le_of_ble_eq_true rfl) ?_
  intro jp je js jm below meth jc A Q X hW ret ls hl
  have jx := X.hx
  have jb := X.hb
  have hl : lv_has ls 3 [(0, .ref (ad 63))] := hl
  have X : Cx G cy jp js jm _ jc cX9_reached 3 RX9 A js.heap := X
  have h83 : 83 ≤ N := hR.1
  have hl200 := hL.1
  refine lv_aload_n jx jb dX9_reached_0 rfl (lv_at hl 0 rfl) ?_
  have m2 : g 63 = .inr (9, [.ref (ad 64), .ref (ad 65), .ref (ad 66), .ref (ad 67), .int (nI lg.length), .ref (ad 68), .ref (ad 69), .ref (ad 70), .ref (ad 71), .ref (ad 72), .int te, .ref (ad 73), .ref (ad 74), .ref (ad 75), .ref (ad 76), .ref (ad 77), .ref (ad 78), .ref (ad 79), .ref (ad 80), .int to, .ref (ad 81), .ref (ad 82)]) := hR.2.1
  refine w_nVv (As := []) X hW (c_begins hR) (by omega) m2 rfl rfl ml_X9_103 mf_X9_begins ⟨Nat.le_of_ble_eq_true rfl, Nat.le_of_ble_eq_true rfl⟩ hl.1 rfl (Nat.le_of_ble_eq_true rfl) ⟨Nat.le_of_ble_eq_true rfl, Nat.le_of_ble_eq_true rfl⟩ dX9_reached_1 (fun gBb1 H locs hp hW => ?_)
  obtain ⟨qBb1, hRBb1, hNBb1, hsBb1, frBb1⟩ := hp
  refine lv_iconst (v := 0) jx jb dX9_reached_4 (by decide) ?_
  refine lv_istore_n (lv' := [(1, .int 0), (0, .ref (ad 63))]) jx jb dX9_reached_5 rfl hl (by decide) rfl (fun ls hl => ?_)
  refine lv_iconst (v := 0) jx jb dX9_reached_6 (by decide) ?_
  refine lv_istore_n (lv' := [(2, .int 0), (1, .int 0), (0, .ref (ad 63))]) jx jb dX9_reached_7 rfl hl (by decide) rfl (fun ls hl => ?_)
  have loop8 : ∀ (fuel8 : Nat) (k : Nat) (tv : Int32) (qL8 : Nat → Nat → Int32) (gL8 : Nat → va_E) (H : Heap) (locs : List Loc) (ls : Array Slot), (MRaw cy N ad gL8 qL8 (nI lg.length) te tv) → (∀ k, ¬ (63 ≤ k ∧ k < 83) → gL8 k = g k) → (k ≤ lg.length) → (∀ a, a ≠ 80 → qL8 a = q a) → (QN qL8 (stq M (gl lg) 0 k)) → lg.length - k < fuel8 → Wd G A js.heap (N, ad, gL8) H locs → lv_has ls 3 [(0, .ref (ad 63)), (1, .int (mtq M (gl lg) k)), (2, .int (nI k))] → W jp l je (rmN 2) js jm [.ref (ad 63)].toArray below meth jc H locs 0 0 Q (F0 jm 8 ls []) := by
    intro fuel8
    induction fuel8 with
    | zero => intro k tv qL8 gL8 H locs ls hR8 hfr8 hk hsm hN  hm8; exact absurd hm8 (Nat.not_lt_zero _)
    | succ fuel8 ih8 =>
      intro k tv qL8 gL8 H locs ls hR8 hfr8 hk hsm hN  hm8 hW hl
      refine lv_iload_n jx jb dX9_reached_8 rfl (lv_at hl 2 rfl) ?_
      refine lv_aload_n jx jb dX9_reached_9 rfl (lv_at hl 0 rfl) ?_
      have m3 : gL8 63 = .inr (9, [.ref (ad 64), .ref (ad 65), .ref (ad 66), .ref (ad 67), .int (nI lg.length), .ref (ad 68), .ref (ad 69), .ref (ad 70), .ref (ad 71), .ref (ad 72), .int te, .ref (ad 73), .ref (ad 74), .ref (ad 75), .ref (ad 76), .ref (ad 77), .ref (ad 78), .ref (ad 79), .ref (ad 80), .int tv, .ref (ad 81), .ref (ad 82)]) := hR8.2.1
      refine w_get X hW K9 (by omega) m3 4 (by decide) fl_X9_96 rfl dX9_reached_10 ?_
      refine lv_icmp_ge (tgt := 56) jx jb dX9_reached_13 (by decide) (fun c13 => ?_) (fun c13 => ?_)
      · refine lv_iload_n jx jb dX9_reached_56 rfl (lv_at hl 1 rfl) ?_
        exact ret _ _ _ _ _ _ dX9_reached_57 hW (by have := n_le (by omega) (by omega) c13; have e : k = lg.length := (by omega); rw [e]; exact ⟨rfl, _, _, hR8, hsm, (fun k hk => by show gL8 k = _; rw [hfr8 k hk])⟩)
      · have hlt : k < lg.length := n_nle (by omega) (by omega) c13
        have h96 := hL.2.1 _ (gl_mem hlt)
        refine lv_aload_n jx jb dX9_reached_16 rfl (lv_at hl 0 rfl) ?_
        refine lv_aload_n jx jb dX9_reached_17 rfl (lv_at hl 0 rfl) ?_
        refine w_get X hW K9 (by omega) m3 5 (by decide) fl_X9_22 rfl dX9_reached_18 ?_
        refine lv_iload_n jx jb dX9_reached_21 rfl (lv_at hl 2 rfl) ?_
        have m4 : gL8 68 = .inl (cy 0, 200, .inl (qL8 68)) := hR8.2.2 68 (by decide) (by decide)
        refine w_ild X hW (by omega) m4 k rfl (by omega) (by decide) dX9_reached_22 ?_
        refine top_eq (y := nI (gl lg k / 16)) (by rw [hsm 68 (by decide)]; exact (hL.2.2 k hlt).1) ?_
        refine lv_aload_n jx jb dX9_reached_23 rfl (lv_at hl 0 rfl) ?_
        refine w_get X hW K9 (by omega) m3 6 (by decide) fl_X9_25 rfl dX9_reached_24 ?_
        refine lv_iload_n jx jb dX9_reached_27 rfl (lv_at hl 2 rfl) ?_
        have m5 : gL8 69 = .inl (cy 0, 200, .inl (qL8 69)) := hR8.2.2 69 (by decide) (by decide)
        refine w_ild X hW (by omega) m5 k rfl (by omega) (by decide) dX9_reached_28 ?_
        refine top_eq (y := nI (gl lg k % 16)) (by rw [hsm 69 (by decide)]; exact (hL.2.2 k hlt).2.1) ?_
        refine w_nV (As := [.int (nI (gl lg k / 16)), .int (nI (gl lg k % 16))]) X hW (c_goes hR8 hok (hQ.of (fun a h1 h2 => hsm a (by omega))) hN (by omega) (Nat.mod_lt _ (by decide))) (by omega) m3 rfl rfl ml_X9_99 mf_X9_goes ⟨Nat.le_of_ble_eq_true rfl, Nat.le_of_ble_eq_true rfl⟩ hl.1 rfl (Nat.le_of_ble_eq_true rfl) ⟨Nat.le_of_ble_eq_true rfl, Nat.le_of_ble_eq_true rfl⟩ dX9_reached_29 (fun rx6 gGx6 H locs hp hW => ?_)
        obtain ⟨erx6, qGx6, hRGx6, hNGx6, hsGx6, frGx6⟩ := hp
        refine lv_pop jx jb dX9_reached_32 rfl ?_
        refine lv_aload_n jx jb dX9_reached_33 rfl (lv_at hl 0 rfl) ?_
        have m7 : gGx6 63 = .inr (9, [.ref (ad 64), .ref (ad 65), .ref (ad 66), .ref (ad 67), .int (nI lg.length), .ref (ad 68), .ref (ad 69), .ref (ad 70), .ref (ad 71), .ref (ad 72), .int te, .ref (ad 73), .ref (ad 74), .ref (ad 75), .ref (ad 76), .ref (ad 77), .ref (ad 78), .ref (ad 79), .ref (ad 80), .int (tI (tk M (gl lg k / 16) (stq M (gl lg) 0 k))), .ref (ad 81), .ref (ad 82)]) := hRGx6.2.1
        refine w_get X hW K9 (by omega) m7 19 (by decide) fl_X9_90 rfl dX9_reached_34 ?_
        refine top_eq (y := tI (tkq M (gl lg) 0 k)) (rfl) ?_
        refine lv_iconst (v := -1) jx jb dX9_reached_37 (by decide) ?_
        refine lv_icmp_eq (tgt := 50) jx jb dX9_reached_38 (by decide) (fun c38 => ?_) (fun c38 => ?_)
        · have hl : lv_has ls 3 [(0, .ref (ad 63)), (1, .int (mtq M (gl lg) (k + 1))), (2, .int (nI k))] := by rw [show mtq M (gl lg) (k + 1) = mtq M (gl lg) k from mt_none (tkq_b hok h96) c38]; exact hl
          refine lv_iinc (v := nI (k + 1)) (lv' := [(2, .int (nI (k + 1))), (0, .ref (ad 63)), (1, .int (mtq M (gl lg) (k + 1)))]) jx jb dX9_reached_50 hl (k := 2) rfl (show nI k + 1 = nI (k + 1) from nI_1 _) (by decide) rfl (fun ls hl => ?_)
          refine lv_goto (tgt := 8) jx jb dX9_reached_53 (by decide) ?_
          exact ih8 (k + 1) _ qGx6 gGx6 _ _ _ hRGx6 (fun k hk => by show gGx6 k = _; rw [frGx6 k hk, hfr8 k hk]) (by omega) (fun a ha => (hsGx6 a ha).trans (hsm a ha)) hNGx6  (by omega) hW (lv_sub hl [1, 2, 0] rfl)
        · refine lv_iload_n jx jb dX9_reached_41 rfl (lv_at hl 1 rfl) ?_
          refine lv_iconst (v := 1) jx jb dX9_reached_42 (by decide) ?_
          refine lv_aload_n jx jb dX9_reached_43 rfl (lv_at hl 0 rfl) ?_
          refine w_get X hW K9 (by omega) m7 19 (by decide) fl_X9_90 rfl dX9_reached_44 ?_
          refine top_eq (y := tI (tkq M (gl lg) 0 k)) (rfl) ?_
          refine lv_ishl jx jb dX9_reached_47 ?_
          refine lv_ior jx jb dX9_reached_48 ?_
          refine top_eq (y := mtq M (gl lg) (k + 1)) (mt_some c38) ?_
          refine lv_istore_n (lv' := [(1, .int (mtq M (gl lg) (k + 1))), (0, .ref (ad 63)), (2, .int (nI k))]) jx jb dX9_reached_49 rfl hl (by decide) rfl (fun ls hl => ?_)
          refine lv_iinc (v := nI (k + 1)) (lv' := [(2, .int (nI (k + 1))), (1, .int (mtq M (gl lg) (k + 1))), (0, .ref (ad 63))]) jx jb dX9_reached_50 hl (k := 2) rfl (show nI k + 1 = nI (k + 1) from nI_1 _) (by decide) rfl (fun ls hl => ?_)
          refine lv_goto (tgt := 8) jx jb dX9_reached_53 (by decide) ?_
          exact ih8 (k + 1) _ qGx6 gGx6 _ _ _ hRGx6 (fun k hk => by show gGx6 k = _; rw [frGx6 k hk, hfr8 k hk]) (by omega) (fun a ha => (hsGx6 a ha).trans (hsm a ha)) hNGx6  (by omega) hW (lv_sub hl [2, 1, 0] rfl)
  exact loop8 _ 0 _ qBb1 gBb1 _ _ _ hRBb1 (fun k hk => by show gBb1 k = _; rw [frBb1 k hk]) (by omega) hsBb1 hNBb1  (Nat.lt_succ_self _) hW (lv_sub hl [2, 1, 0] rfl)

set_option maxHeartbeats 4000000 in
set_option maxRecDepth 100000 in
theorem c_givesNow {l : Launch} {G : va_G} {cy : Nat → ClassId} {N : Nat} {ad : Nat → Nat} {g : Nat → va_E} {q : Nat → Nat → Int32} {ca te to : Int32} {M : M4} {i j : Nat} {row : List Nat} (hR : MRaw cy N ad g q ca te to) (hok : okM M) (hQ : QM q M) (hT : QR q i row) (hi : i < 12) (hj : j < row.length) : MI l G cy (N, ad, g) yX9_givesNow cX9_givesNow 5 (some .int) (rmN 2) [.ref (ad 63), .int (nI i), .int (nI j)] (nA N ad (fun v g1 => v = rsq M (gl row) 0 j ∧ ∃ q1 tv, MRaw cy N ad g1 q1 ca te tv ∧ (∀ a, a ≠ 80 → q1 a = q a) ∧ ∀ k, ¬ (63 ≤ k ∧ k < 83) → g1 k = g k)) := by
  refine NI.mk (by decide) (by intros; first | rfl | (simp_all; done)) (Nat.le_of_ble_eq_true rfl) ?_
  intro jp je js jm below meth jc A Q X hW ret ls hl
  have jx := X.hx
  have jb := X.hb
  have hl : lv_has ls 5 [(0, .ref (ad 63)), (1, .int (nI i)), (2, .int (nI j))] := hl
  have X : Cx G cy jp js jm _ jc cX9_givesNow 5 RX9 A js.heap := X
  have h83 : 83 ≤ N := hR.1
  have hl200 := hT.1
  refine lv_aload_n jx jb dX9_givesNow_0 rfl (lv_at hl 0 rfl) ?_
  have m2 : g 63 = .inr (9, [.ref (ad 64), .ref (ad 65), .ref (ad 66), .ref (ad 67), .int ca, .ref (ad 68), .ref (ad 69), .ref (ad 70), .ref (ad 71), .ref (ad 72), .int te, .ref (ad 73), .ref (ad 74), .ref (ad 75), .ref (ad 76), .ref (ad 77), .ref (ad 78), .ref (ad 79), .ref (ad 80), .int to, .ref (ad 81), .ref (ad 82)]) := hR.2.1
  refine w_nVv (As := []) X hW (c_begins hR) (by omega) m2 rfl rfl ml_X9_103 mf_X9_begins ⟨Nat.le_of_ble_eq_true rfl, Nat.le_of_ble_eq_true rfl⟩ hl.1 rfl (Nat.le_of_ble_eq_true rfl) ⟨Nat.le_of_ble_eq_true rfl, Nat.le_of_ble_eq_true rfl⟩ dX9_givesNow_1 (fun gBb1 H locs hp hW => ?_)
  obtain ⟨qBb1, hRBb1, hNBb1, hsBb1, frBb1⟩ := hp
  refine lv_iconst (v := -1) jx jb dX9_givesNow_4 (by decide) ?_
  refine lv_istore_n (lv' := [(3, .int (-1)), (0, .ref (ad 63)), (1, .int (nI i)), (2, .int (nI j))]) jx jb dX9_givesNow_5 rfl hl (by decide) rfl (fun ls hl => ?_)
  refine lv_sipush (v := 200) jx jb dX9_givesNow_6 (by decide) ?_
  refine lv_iload_n jx jb dX9_givesNow_9 rfl (lv_at hl 2 rfl) ?_
  refine lv_imul jx jb dX9_givesNow_10 ?_
  refine top_eq (y := nI (200 * i + 0)) (by rw [show (200 : Int32) = nI 200 from rfl, pk_mul]; rfl) ?_
  refine lv_istore (lv' := [(4, .int (nI (200 * i + 0))), (3, .int (-1)), (0, .ref (ad 63)), (1, .int (nI i)), (2, .int (nI j))]) jx jb dX9_givesNow_11 hl (by decide) rfl (fun ls hl => ?_)
  have loop13 : ∀ (fuel13 : Nat) (k : Nat) (tv : Int32) (qL13 : Nat → Nat → Int32) (gL13 : Nat → va_E) (H : Heap) (locs : List Loc) (ls : Array Slot), (MRaw cy N ad gL13 qL13 ca te tv) → (∀ k, ¬ (63 ≤ k ∧ k < 83) → gL13 k = g k) → (k ≤ j + 1) → (∀ a, a ≠ 80 → qL13 a = q a) → (QN qL13 (stq M (gl row) 0 k)) → j + 1 - k < fuel13 → Wd G A js.heap (N, ad, gL13) H locs → lv_has ls 5 [(0, .ref (ad 63)), (1, .int (nI i)), (2, .int (nI j)), (3, .int (gvq M (gl row) k)), (4, .int (nI (200 * i + k)))] → W jp l je (rmN 2) js jm [.ref (ad 63), .int (nI i), .int (nI j)].toArray below meth jc H locs 0 0 Q (F0 jm 13 ls []) := by
    intro fuel13
    induction fuel13 with
    | zero => intro k tv qL13 gL13 H locs ls hR13 hfr13 hk hsm hN  hm13; exact absurd hm13 (Nat.not_lt_zero _)
    | succ fuel13 ih13 =>
      intro k tv qL13 gL13 H locs ls hR13 hfr13 hk hsm hN  hm13 hW hl
      refine lv_iload jx jb dX9_givesNow_13 (lv_at hl 4 rfl) ?_
      refine lv_sipush (v := 200) jx jb dX9_givesNow_15 (by decide) ?_
      refine lv_iload_n jx jb dX9_givesNow_18 rfl (lv_at hl 1 rfl) ?_
      refine lv_imul jx jb dX9_givesNow_19 ?_
      refine top_eq (y := nI (200 * i)) (by rw [show (200 : Int32) = nI 200 from rfl, pk_mul]) ?_
      refine lv_iload_n jx jb dX9_givesNow_20 rfl (lv_at hl 2 rfl) ?_
      refine lv_iadd jx jb dX9_givesNow_21 ?_
      refine top_eq (y := nI (200 * i + j)) (nI_add _ _) ?_
      refine lv_icmp_gt (tgt := 50) jx jb dX9_givesNow_22 (by decide) (fun c22 => ?_) (fun c22 => ?_)
      · refine lv_iload_n jx jb dX9_givesNow_50 rfl (lv_at hl 3 rfl) ?_
        exact ret _ _ _ _ _ _ dX9_givesNow_51 hW (by have := n_lt (by omega) (by omega) c22; have e : k = j + 1 := (by omega); rw [e]; exact ⟨rfl, _, _, hR13, hsm, (fun k hk => by show gL13 k = _; rw [hfr13 k hk])⟩)
      · have hkj : k ≤ j := by have := n_nlt (by omega) (by omega) c22; omega
        have hlt : k < row.length := by omega
        have h96 := hT.2.1 _ (gl_mem hlt)
        refine lv_aload_n jx jb dX9_givesNow_25 rfl (lv_at hl 0 rfl) ?_
        refine lv_aload_n jx jb dX9_givesNow_26 rfl (lv_at hl 0 rfl) ?_
        have m3 : gL13 63 = .inr (9, [.ref (ad 64), .ref (ad 65), .ref (ad 66), .ref (ad 67), .int ca, .ref (ad 68), .ref (ad 69), .ref (ad 70), .ref (ad 71), .ref (ad 72), .int te, .ref (ad 73), .ref (ad 74), .ref (ad 75), .ref (ad 76), .ref (ad 77), .ref (ad 78), .ref (ad 79), .ref (ad 80), .int tv, .ref (ad 81), .ref (ad 82)]) := hR13.2.1
        refine w_get X hW K9 (by omega) m3 12 (by decide) fl_X9_40 rfl dX9_givesNow_27 ?_
        refine lv_iload jx jb dX9_givesNow_30 (lv_at hl 4 rfl) ?_
        have m4 : gL13 74 = .inl (cy 0, 2400, .inl (qL13 74)) := hR13.2.2 74 (by decide) (by decide)
        refine w_ild X hW (by omega) m4 (200 * i + k) rfl (by omega) (by decide) dX9_givesNow_32 ?_
        refine top_eq (y := nI (gl row k / 16)) (by rw [hsm 74 (by decide)]; exact (hT.2.2 k hlt).1) ?_
        refine lv_aload_n jx jb dX9_givesNow_33 rfl (lv_at hl 0 rfl) ?_
        refine w_get X hW K9 (by omega) m3 13 (by decide) fl_X9_43 rfl dX9_givesNow_34 ?_
        refine lv_iload jx jb dX9_givesNow_37 (lv_at hl 4 rfl) ?_
        have m5 : gL13 75 = .inl (cy 0, 2400, .inl (qL13 75)) := hR13.2.2 75 (by decide) (by decide)
        refine w_ild X hW (by omega) m5 (200 * i + k) rfl (by omega) (by decide) dX9_givesNow_39 ?_
        refine top_eq (y := nI (gl row k % 16)) (by rw [hsm 75 (by decide)]; exact (hT.2.2 k hlt).2) ?_
        refine w_nV (As := [.int (nI (gl row k / 16)), .int (nI (gl row k % 16))]) X hW (c_goes hR13 hok (hQ.of (fun a h1 h2 => hsm a (by omega))) hN (by omega) (Nat.mod_lt _ (by decide))) (by omega) m3 rfl rfl ml_X9_99 mf_X9_goes ⟨Nat.le_of_ble_eq_true rfl, Nat.le_of_ble_eq_true rfl⟩ hl.1 rfl (Nat.le_of_ble_eq_true rfl) ⟨Nat.le_of_ble_eq_true rfl, Nat.le_of_ble_eq_true rfl⟩ dX9_givesNow_40 (fun rx6 gGx6 H locs hp hW => ?_)
        obtain ⟨erx6, qGx6, hRGx6, hNGx6, hsGx6, frGx6⟩ := hp
        refine top_eq (y := gvq M (gl row) (k + 1)) (erx6) ?_
        refine lv_istore_n (lv' := [(3, .int (gvq M (gl row) (k + 1))), (0, .ref (ad 63)), (1, .int (nI i)), (2, .int (nI j)), (4, .int (nI (200 * i + k)))]) jx jb dX9_givesNow_43 rfl hl (by decide) rfl (fun ls hl => ?_)
        refine lv_iinc (v := nI ((200 * i + k) + 1)) (lv' := [(4, .int (nI ((200 * i + k) + 1))), (3, .int (gvq M (gl row) (k + 1))), (0, .ref (ad 63)), (1, .int (nI i)), (2, .int (nI j))]) jx jb dX9_givesNow_44 hl (k := 4) rfl (show nI (200 * i + k) + 1 = nI ((200 * i + k) + 1) from nI_1 _) (by decide) rfl (fun ls hl => ?_)
        refine lv_goto (tgt := 13) jx jb dX9_givesNow_47 (by decide) ?_
        exact ih13 (k + 1) _ qGx6 gGx6 _ _ _ hRGx6 (fun k hk => by show gGx6 k = _; rw [frGx6 k hk, hfr13 k hk]) (by omega) (fun a ha => (hsGx6 a ha).trans (hsm a ha)) hNGx6  (by omega) hW (lv_sub hl [2, 3, 4, 1, 0] rfl)
  exact loop13 _ 0 _ qBb1 gBb1 _ _ _ hRBb1 (fun k hk => by show gBb1 k = _; rw [frBb1 k hk]) (by omega) hsBb1 hNBb1  (Nat.lt_succ_self _) hW (lv_sub hl [2, 3, 4, 1, 0] rfl)

set_option maxHeartbeats 4000000 in
set_option maxRecDepth 100000 in
theorem c_isTest {l : Launch} {G : va_G} {cy : Nat → ClassId} {N : Nat} {ad : Nat → Nat} {g : Nat → va_E} {q : Nat → Nat → Int32} {ca to : Int32} {T : Nat} {v : Int32} (hR : MRaw cy N ad g q ca (nI T) to) (hT12 : T ≤ 12) : RI l G cy (N, ad, g) yX9_isTest cX9_isTest 2 (some .boolean) (rmN 1) [.ref (ad 63), .int v] (bI (0 ≤ v ∧ v < nI T)) := by
  refine RI.mk (by decide) (by first | rfl | exact bI_nar) (Nat.le_of_ble_eq_true rfl) ?_
  intro jp je js jm below meth jc A Q X hW ret ls hl
  have jx := X.hx
  have jb := X.hb
  have hl : lv_has ls 2 [(0, .ref (ad 63)), (1, .int v)] := hl
  have X : Cx G cy jp js jm _ jc cX9_isTest 2 RX9 A js.heap := X
  have h83 : 83 ≤ N := hR.1
  refine lv_iload_n jx jb dX9_isTest_0 rfl (lv_at hl 1 rfl) ?_
  refine lv_iconst (v := 0) jx jb dX9_isTest_1 (by decide) ?_
  refine lv_aload_n jx jb dX9_isTest_2 rfl (lv_at hl 0 rfl) ?_
  have m1 : g 63 = .inr (9, [.ref (ad 64), .ref (ad 65), .ref (ad 66), .ref (ad 67), .int ca, .ref (ad 68), .ref (ad 69), .ref (ad 70), .ref (ad 71), .ref (ad 72), .int (nI T), .ref (ad 73), .ref (ad 74), .ref (ad 75), .ref (ad 76), .ref (ad 77), .ref (ad 78), .ref (ad 79), .ref (ad 80), .int to, .ref (ad 81), .ref (ad 82)]) := hR.2.1
  refine w_get X hW K9 (by omega) m1 10 (by decide) fl_X9_83 rfl dX9_isTest_3 ?_
  refine lv_iconst (v := 1) jx jb dX9_isTest_6 (by decide) ?_
  refine lv_isub jx jb dX9_isTest_7 ?_
  refine w_rS (As := [.int v, .int 0, .int ((nI T) - 1)]) X hW (c_in) ml_X9_68 mf_X9_in ⟨Nat.le_of_ble_eq_true rfl, Nat.le_of_ble_eq_true rfl⟩ hl.1 rfl (Nat.le_of_ble_eq_true rfl) ⟨Nat.le_of_ble_eq_true rfl, Nat.le_of_ble_eq_true rfl⟩ dX9_isTest_8 (fun H locs hW => ?_)
  refine top_eq (y := bI (0 ≤ v ∧ v < nI T)) (bI_iff (in_below (by omega))) ?_
  exact ret _ _ _ _ _ dX9_isTest_11 hW rfl

set_option maxHeartbeats 4000000 in
set_option maxRecDepth 100000 in
theorem c_mDiffersNo {l : Launch} {G : va_G} {cy : Nat → ClassId} {N : Nat} {ad : Nat → Nat} {g : Nat → va_E} {q : Nat → Nat → Int32} {ca to : Int32} {T : Nat} {v : Int32} (hR : MRaw cy N ad g q ca (nI T) to) (hT12 : T ≤ 12) (hno : ¬ (0 ≤ v ∧ v < nI T)) : RI l G cy (N, ad, g) yX9_differs cX9_differs 4 (some .int) (rmN 2) [.ref (ad 63), .int v] (-1) := by
  refine RI.mk (by decide) (by first | rfl | exact bI_nar) (Nat.le_of_ble_eq_true rfl) ?_
  intro jp je js jm below meth jc A Q X hW ret ls hl
  have jx := X.hx
  have jb := X.hb
  have hl : lv_has ls 4 [(0, .ref (ad 63)), (1, .int v)] := hl
  have X : Cx G cy jp js jm _ jc cX9_differs 4 RX9 A js.heap := X
  have h83 : 83 ≤ N := hR.1
  refine lv_aload_n jx jb dX9_differs_0 rfl (lv_at hl 0 rfl) ?_
  refine lv_iload_n jx jb dX9_differs_1 rfl (lv_at hl 1 rfl) ?_
  have m1 : g 63 = .inr (9, [.ref (ad 64), .ref (ad 65), .ref (ad 66), .ref (ad 67), .int ca, .ref (ad 68), .ref (ad 69), .ref (ad 70), .ref (ad 71), .ref (ad 72), .int (nI T), .ref (ad 73), .ref (ad 74), .ref (ad 75), .ref (ad 76), .ref (ad 77), .ref (ad 78), .ref (ad 79), .ref (ad 80), .int to, .ref (ad 81), .ref (ad 82)]) := hR.2.1
  refine w_rV (As := [.int v]) X hW (c_isTest hR hT12) (by omega) m1 rfl rfl ml_X9_121 mf_X9_isTest ⟨Nat.le_of_ble_eq_true rfl, Nat.le_of_ble_eq_true rfl⟩ hl.1 rfl (Nat.le_of_ble_eq_true rfl) ⟨Nat.le_of_ble_eq_true rfl, Nat.le_of_ble_eq_true rfl⟩ dX9_differs_2 (fun H locs hW => ?_)
  refine lv_if_ne (tgt := 10) jx jb dX9_differs_5 (by decide) (fun c5 => ?_) (fun c5 => ?_)
  · exact absurd (bI_n0.mp c5) hno
  · refine lv_iconst (v := -1) jx jb dX9_differs_8 (by decide) ?_
    exact ret _ _ _ _ _ dX9_differs_9 hW rfl

set_option maxHeartbeats 4000000 in
set_option maxRecDepth 100000 in
theorem c_mDiffers {l : Launch} {G : va_G} {cy : Nat → ClassId} {N : Nat} {ad : Nat → Nat} {g : Nat → va_E} {q : Nat → Nat → Int32} {ca to : Int32} {T : Nat} {M : M4} {i : Nat} {row : List Nat} {asks : Nat → Int32} (hR : MRaw cy N ad g q ca (nI T) to) (hT12 : T ≤ 12) (hok : okM M) (hQ : QM q M) (hT : QR q i row) (hlen : q 73 i = nI row.length) (hask : ∀ k, k < row.length → q 76 (200 * i + k) = asks k) (hiT : i < T) : MI l G cy (N, ad, g) yX9_differs cX9_differs 4 (some .int) (rmN 2) [.ref (ad 63), .int (nI i)] (nA N ad (fun v g1 => v = fdq (rsq M (gl row) 0) asks 0 row.length ∧ ∃ q1 tv, MRaw cy N ad g1 q1 ca (nI T) tv ∧ (∀ a, a ≠ 80 → q1 a = q a) ∧ ∀ k, ¬ (63 ≤ k ∧ k < 83) → g1 k = g k)) := by
  refine NI.mk (by decide) (by intros; first | rfl | (simp_all; done)) (Nat.le_of_ble_eq_true rfl) ?_
  intro jp je js jm below meth jc A Q X hW ret ls hl
  have jx := X.hx
  have jb := X.hb
  have hl : lv_has ls 4 [(0, .ref (ad 63)), (1, .int (nI i))] := hl
  have X : Cx G cy jp js jm _ jc cX9_differs 4 RX9 A js.heap := X
  have h83 : 83 ≤ N := hR.1
  have hl200 := hT.1
  have hi : i < 12 := by omega
  refine lv_aload_n jx jb dX9_differs_0 rfl (lv_at hl 0 rfl) ?_
  refine lv_iload_n jx jb dX9_differs_1 rfl (lv_at hl 1 rfl) ?_
  have m1 : g 63 = .inr (9, [.ref (ad 64), .ref (ad 65), .ref (ad 66), .ref (ad 67), .int ca, .ref (ad 68), .ref (ad 69), .ref (ad 70), .ref (ad 71), .ref (ad 72), .int (nI T), .ref (ad 73), .ref (ad 74), .ref (ad 75), .ref (ad 76), .ref (ad 77), .ref (ad 78), .ref (ad 79), .ref (ad 80), .int to, .ref (ad 81), .ref (ad 82)]) := hR.2.1
  refine w_rV (As := [.int (nI i)]) X hW (c_isTest hR hT12) (by omega) m1 rfl rfl ml_X9_121 mf_X9_isTest ⟨Nat.le_of_ble_eq_true rfl, Nat.le_of_ble_eq_true rfl⟩ hl.1 rfl (Nat.le_of_ble_eq_true rfl) ⟨Nat.le_of_ble_eq_true rfl, Nat.le_of_ble_eq_true rfl⟩ dX9_differs_2 (fun H locs hW => ?_)
  refine lv_if_ne (tgt := 10) jx jb dX9_differs_5 (by decide) (fun c5 => ?_) (fun c5 => ?_)
  · refine lv_aload_n jx jb dX9_differs_10 rfl (lv_at hl 0 rfl) ?_
    refine w_nVv (As := []) X hW (c_begins hR) (by omega) m1 rfl rfl ml_X9_103 mf_X9_begins ⟨Nat.le_of_ble_eq_true rfl, Nat.le_of_ble_eq_true rfl⟩ hl.1 rfl (Nat.le_of_ble_eq_true rfl) ⟨Nat.le_of_ble_eq_true rfl, Nat.le_of_ble_eq_true rfl⟩ dX9_differs_11 (fun gBb2 H locs hp hW => ?_)
    obtain ⟨qBb2, hRBb2, hNBb2, hsBb2, frBb2⟩ := hp
    refine lv_iconst (v := 0) jx jb dX9_differs_14 (by decide) ?_
    refine lv_istore_n (lv' := [(2, .int 0), (0, .ref (ad 63)), (1, .int (nI i))]) jx jb dX9_differs_15 rfl hl (by decide) rfl (fun ls hl => ?_)
    have loop16 : ∀ (fuel16 : Nat) (k : Nat) (tv : Int32) (qL16 : Nat → Nat → Int32) (gL16 : Nat → va_E) (H : Heap) (locs : List Loc) (ls : Array Slot), (MRaw cy N ad gL16 qL16 ca (nI T) tv) → (∀ k, ¬ (63 ≤ k ∧ k < 83) → gL16 k = g k) → (k ≤ row.length) → (∀ a, a ≠ 80 → qL16 a = q a) → (QN qL16 (stq M (gl row) 0 k)) → (fdq (rsq M (gl row) 0) asks k (row.length - k) = fdq (rsq M (gl row) 0) asks 0 row.length) → row.length - k < fuel16 → Wd G A js.heap (N, ad, gL16) H locs → lv_has ls 4 [(0, .ref (ad 63)), (1, .int (nI i)), (2, .int (nI k))] → W jp l je (rmN 2) js jm [.ref (ad 63), .int (nI i)].toArray below meth jc H locs 0 0 Q (F0 jm 16 ls []) := by
      intro fuel16
      induction fuel16 with
      | zero => intro k tv qL16 gL16 H locs ls hR16 hfr16 hk hsm hN hfd  hm16; exact absurd hm16 (Nat.not_lt_zero _)
      | succ fuel16 ih16 =>
        intro k tv qL16 gL16 H locs ls hR16 hfr16 hk hsm hN hfd  hm16 hW hl
        refine lv_iload_n jx jb dX9_differs_16 rfl (lv_at hl 2 rfl) ?_
        refine lv_aload_n jx jb dX9_differs_17 rfl (lv_at hl 0 rfl) ?_
        have m3 : gL16 63 = .inr (9, [.ref (ad 64), .ref (ad 65), .ref (ad 66), .ref (ad 67), .int ca, .ref (ad 68), .ref (ad 69), .ref (ad 70), .ref (ad 71), .ref (ad 72), .int (nI T), .ref (ad 73), .ref (ad 74), .ref (ad 75), .ref (ad 76), .ref (ad 77), .ref (ad 78), .ref (ad 79), .ref (ad 80), .int tv, .ref (ad 81), .ref (ad 82)]) := hR16.2.1
        refine w_get X hW K9 (by omega) m3 11 (by decide) fl_X9_37 rfl dX9_differs_18 ?_
        refine lv_iload_n jx jb dX9_differs_21 rfl (lv_at hl 1 rfl) ?_
        have m4 : gL16 73 = .inl (cy 0, 12, .inl (qL16 73)) := hR16.2.2 73 (by decide) (by decide)
        refine w_ild X hW (by omega) m4 i rfl (by omega) (by decide) dX9_differs_22 ?_
        refine top_eq (y := nI row.length) (by rw [hsm 73 (by decide)]; exact hlen) ?_
        refine lv_icmp_ge (tgt := 67) jx jb dX9_differs_23 (by decide) (fun c23 => ?_) (fun c23 => ?_)
        · refine lv_iconst (v := -1) jx jb dX9_differs_67 (by decide) ?_
          exact ret _ _ _ _ _ _ dX9_differs_68 hW ⟨(by have := n_le (by omega) (by omega) c23; rw [← hfd, show row.length - k = 0 by omega]; rfl), _, _, hR16, hsm, (fun k hk => by show gL16 k = _; rw [hfr16 k hk])⟩
        · have hlt : k < row.length := n_nle (by omega) (by omega) c23
          have h96 := hT.2.1 _ (gl_mem hlt)
          have hd1 : row.length - k = (row.length - k - 1) + 1 := by omega
          refine lv_sipush (v := 200) jx jb dX9_differs_26 (by decide) ?_
          refine lv_iload_n jx jb dX9_differs_29 rfl (lv_at hl 1 rfl) ?_
          refine lv_imul jx jb dX9_differs_30 ?_
          refine top_eq (y := nI (200 * i)) (by rw [show (200 : Int32) = nI 200 from rfl, pk_mul]) ?_
          refine lv_iload_n jx jb dX9_differs_31 rfl (lv_at hl 2 rfl) ?_
          refine lv_iadd jx jb dX9_differs_32 ?_
          refine top_eq (y := nI (200 * i + k)) (nI_add _ _) ?_
          refine lv_istore_n (lv' := [(3, .int (nI (200 * i + k))), (0, .ref (ad 63)), (1, .int (nI i)), (2, .int (nI k))]) jx jb dX9_differs_33 rfl hl (by decide) rfl (fun ls hl => ?_)
          refine lv_aload_n jx jb dX9_differs_34 rfl (lv_at hl 1 rfl) ?_
          refine lv_aload_n jx jb dX9_differs_35 rfl (lv_at hl 1 rfl) ?_
          refine w_get X hW K9 (by omega) m3 12 (by decide) fl_X9_40 rfl dX9_differs_36 ?_
          refine lv_iload_n jx jb dX9_differs_39 rfl (lv_at hl 0 rfl) ?_
          have m5 : gL16 74 = .inl (cy 0, 2400, .inl (qL16 74)) := hR16.2.2 74 (by decide) (by decide)
          refine w_ild X hW (by omega) m5 (200 * i + k) rfl (by omega) (by decide) dX9_differs_40 ?_
          refine top_eq (y := nI (gl row k / 16)) (by rw [hsm 74 (by decide)]; exact (hT.2.2 k hlt).1) ?_
          refine lv_aload_n jx jb dX9_differs_41 rfl (lv_at hl 1 rfl) ?_
          refine w_get X hW K9 (by omega) m3 13 (by decide) fl_X9_43 rfl dX9_differs_42 ?_
          refine lv_iload_n jx jb dX9_differs_45 rfl (lv_at hl 0 rfl) ?_
          have m6 : gL16 75 = .inl (cy 0, 2400, .inl (qL16 75)) := hR16.2.2 75 (by decide) (by decide)
          refine w_ild X hW (by omega) m6 (200 * i + k) rfl (by omega) (by decide) dX9_differs_46 ?_
          refine top_eq (y := nI (gl row k % 16)) (by rw [hsm 75 (by decide)]; exact (hT.2.2 k hlt).2) ?_
          refine w_nV (As := [.int (nI (gl row k / 16)), .int (nI (gl row k % 16))]) X hW (c_goes hR16 hok (hQ.of (fun a h1 h2 => hsm a (by omega))) hN (by omega) (Nat.mod_lt _ (by decide))) (by omega) m3 rfl rfl ml_X9_99 mf_X9_goes ⟨Nat.le_of_ble_eq_true rfl, Nat.le_of_ble_eq_true rfl⟩ hl.1 rfl (Nat.le_of_ble_eq_true rfl) ⟨Nat.le_of_ble_eq_true rfl, Nat.le_of_ble_eq_true rfl⟩ dX9_differs_47 (fun rx7 gGx7 H locs hp hW => ?_)
          obtain ⟨erx7, qGx7, hRGx7, hNGx7, hsGx7, frGx7⟩ := hp
          refine top_eq (y := rsq M (gl row) 0 k) (erx7) ?_
          refine lv_aload_n jx jb dX9_differs_50 rfl (lv_at hl 1 rfl) ?_
          have m8 : gGx7 63 = .inr (9, [.ref (ad 64), .ref (ad 65), .ref (ad 66), .ref (ad 67), .int ca, .ref (ad 68), .ref (ad 69), .ref (ad 70), .ref (ad 71), .ref (ad 72), .int (nI T), .ref (ad 73), .ref (ad 74), .ref (ad 75), .ref (ad 76), .ref (ad 77), .ref (ad 78), .ref (ad 79), .ref (ad 80), .int (tI (tk M (gl row k / 16) (stq M (gl row) 0 k))), .ref (ad 81), .ref (ad 82)]) := hRGx7.2.1
          refine w_get X hW K9 (by omega) m8 14 (by decide) fl_X9_46 rfl dX9_differs_51 ?_
          refine lv_iload_n jx jb dX9_differs_54 rfl (lv_at hl 0 rfl) ?_
          have m9 : gGx7 76 = .inl (cy 0, 2400, .inl (qGx7 76)) := hRGx7.2.2 76 (by decide) (by decide)
          refine w_ild X hW (by omega) m9 (200 * i + k) rfl (by omega) (by decide) dX9_differs_55 ?_
          refine top_eq (y := asks k) (by rw [hsGx7 76 (by decide), hsm 76 (by decide)]; exact hask k hlt) ?_
          refine lv_icmp_eq (tgt := 61) jx jb dX9_differs_56 (by decide) (fun c56 => ?_) (fun c56 => ?_)
          · refine lv_iinc (v := nI (k + 1)) (lv' := [(2, .int (nI (k + 1))), (3, .int (nI (200 * i + k))), (0, .ref (ad 63)), (1, .int (nI i))]) jx jb dX9_differs_61 hl (k := 3) rfl (show nI k + 1 = nI (k + 1) from nI_1 _) (by decide) rfl (fun ls hl => ?_)
            refine lv_goto (tgt := 16) jx jb dX9_differs_64 (by decide) ?_
            exact ih16 (k + 1) _ qGx7 gGx7 _ _ _ hRGx7 (fun k hk => by show gGx7 k = _; rw [frGx7 k hk, hfr16 k hk]) (by omega) (fun a ha => (hsGx7 a ha).trans (hsm a ha)) hNGx7 (by rw [← hfd, hd1, fdq, if_pos c56, show row.length - (k + 1) = row.length - k - 1 by omega])  (by omega) hW (lv_sub hl [2, 3, 0] rfl)
          · refine lv_iload_n jx jb dX9_differs_59 rfl (lv_at hl 3 rfl) ?_
            exact ret _ _ _ _ _ _ dX9_differs_60 hW ⟨(by rw [← hfd, hd1, fdq, if_neg c56]), _, _, hRGx7, (fun a ha => (hsGx7 a ha).trans (hsm a ha)), (fun k hk => by show gGx7 k = _; rw [frGx7 k hk, hfr16 k hk])⟩
    exact loop16 _ 0 _ qBb2 gBb2 _ _ _ hRBb2 (fun k hk => by show gBb2 k = _; rw [frBb2 k hk]) (by omega) hsBb2 hNBb2 rfl  (Nat.lt_succ_self _) hW (lv_sub hl [1, 2, 0] rfl)
  · exact absurd (c5.symm.trans (bel_t hiT (by omega))) (by decide)
