/-- the replay's cells: the object 60, its results 61 -/
def RepAt (cy : Nat → ClassId) (N : Nat) (ad : Nat → Nat) (g : Nat → va_E) (sz : Nat) (fr : Nat → Int32) (mt lt : Int32) : Prop := 83 ≤ N ∧ sz ≤ 200 ∧ g 60 = .inr (4, [.ref (ad 1), .ref (ad 61), .int (nI sz), .int mt, .int lt]) ∧ g 61 = .inl (cy 0, 200, .inl fr)
def ltq (M : M4) (c : Nat → Nat) : Nat → Int32
  | 0 => -1
  | k + 1 => tI (tkq M c 0 k)
def fdq (f f' : Nat → Int32) : Nat → Nat → Int32
  | _, 0 => -1
  | k, d + 1 => if f k = f' k then fdq f f' (k + 1) d else nI k
def dfq (f f' : Nat → Int32) : Nat → Nat
  | 0 => 0
  | n + 1 => dfq f f' n + (if f n = f' n then 0 else 1)
theorem dfq_le {f f' : Nat → Int32} : ∀ {n : Nat}, dfq f f' n ≤ n
  | 0 => Nat.le_refl _
  | n + 1 => by
    have := dfq_le (f := f) (f' := f') (n := n)
    unfold dfq
    split <;> omega
theorem tI_m1 {t : Option Nat} (hb : ∀ b, t = some b → b < 24) (h : tI t = -1) : t = none := by
  cases t with
  | none => rfl
  | some b =>
    have h1 := hb b rfl
    have h2 : (nI b).toInt = (-1 : Int32).toInt := congrArg Int32.toInt h
    rw [nI_toInt (by omega)] at h2
    have h3 : (-1 : Int32).toInt = -1 := by decide
    omega
theorem bt_a {t : Option Nat} (hb : ∀ b, t = some b → b < 24) (h : tI t = -1) : (0 : Int32) = btq t := by rw [tI_m1 hb h]; rfl
theorem bt_b {t : Option Nat} (h : ¬ tI t = -1) : (1 : Int32) <<< (tI t &&& 31) = btq t := by
  cases t with
  | none => exact absurd rfl h
  | some b => rfl
theorem tkq_b {M : M4} (hM : okM M) {c : Nat → Nat} {s0 k : Nat} (h : c k < 96) : ∀ b, tkq M c s0 k = some b → b < 24 := fun b hb => (tk_some hM (by omega) hb).1
theorem sw_cases (x : Int32) (n : Nat) (hn : n < 2 ^ 31) : (∃ k, k < n ∧ x = nI k) ∨ (x.toInt < 0 ∨ ((n : Int) - 1) < x.toInt) := by
  by_cases h0 : x.toInt < 0
  · exact Or.inr (Or.inl h0)
  · by_cases h1 : ((n : Int) - 1) < x.toInt
    · exact Or.inr (Or.inr h1)
    · exact Or.inl (vp_in_of (vp_in_iff.mpr ⟨by omega, by omega⟩) hn)

set_option maxHeartbeats 4000000 in
set_option maxRecDepth 100000 in
theorem c_pResultAt {l : Launch} {G : va_G} {cy : Nat → ClassId} {N : Nat} {ad : Nat → Nat} {g : Nat → va_E} {psz : Nat} {pf : Nat → Int32} {mt lt : Int32} {j : Nat} (hP : RepAt cy N ad g psz pf mt lt) (hj : j < psz) : RI l G cy (N, ad, g) yX4_resultAt cX4_resultAt 2 (some .int) (rmN 1) [.ref (ad 60), .int (nI j)] (pf j) := by
  refine RI.mk (by decide) (by first | rfl | exact bI_nar) (Nat.le_of_ble_eq_true rfl) ?_
  intro jp je js jm below meth jc A Q X hW ret ls hl
  have jx := X.hx
  have jb := X.hb
  have hl : lv_has ls 2 [(0, .ref (ad 60)), (1, .int (nI j))] := hl
  have X : Cx G cy jp js jm _ jc cX4_resultAt 2 RX4 A js.heap := X
  obtain ⟨h83, hpsz, f60, f61⟩ := id hP
  refine lv_iload_n jx jb dX4_resultAt_0 rfl (lv_at hl 1 rfl) ?_
  refine lv_aload_n jx jb dX4_resultAt_1 rfl (lv_at hl 0 rfl) ?_
  refine w_get X hW K4 (by omega) f60 2 (by decide) fl_X4_15 rfl dX4_resultAt_2 ?_
  refine w_rN (As := [.int (nI j), .int (nI psz)]) X hW (c_isBelow) mn_X4_61 mf_X8_isBelow ⟨Nat.le_of_ble_eq_true rfl, Nat.le_of_ble_eq_true rfl⟩ hl.1 rfl (Nat.le_of_ble_eq_true rfl) ⟨Nat.le_of_ble_eq_true rfl, Nat.le_of_ble_eq_true rfl⟩ dX4_resultAt_5 (fun H locs hW => ?_)
  refine lv_if_eq (tgt := 27) jx jb dX4_resultAt_8 (by decide) (fun c8 => ?_) (fun c8 => ?_)
  · exact absurd (c8.symm.trans (bel_t hj (by omega))) (by decide)
  · refine lv_iload_n jx jb dX4_resultAt_11 rfl (lv_at hl 1 rfl) ?_
    refine lv_sipush (v := 200) jx jb dX4_resultAt_12 (by decide) ?_
    refine lv_icmp_ge (tgt := 27) jx jb dX4_resultAt_15 (by decide) (fun c15 => ?_) (fun c15 => ?_)
    · exact absurd (n_le (a := 200) (by decide) (by omega) c15) (by omega)
    · refine lv_aload_n jx jb dX4_resultAt_18 rfl (lv_at hl 0 rfl) ?_
      refine w_get X hW K4 (by omega) f60 1 (by decide) fl_X4_9 rfl dX4_resultAt_19 ?_
      refine lv_iload_n jx jb dX4_resultAt_22 rfl (lv_at hl 1 rfl) ?_
      refine w_ild X hW (by omega) f61 j rfl (by omega) (by decide) dX4_resultAt_23 ?_
      refine lv_goto (tgt := 28) jx jb dX4_resultAt_24 (by decide) ?_
      exact ret _ _ _ _ _ dX4_resultAt_28 hW rfl

set_option maxHeartbeats 4000000 in
set_option maxRecDepth 100000 in
theorem c_met {l : Launch} {G : va_G} {cy : Nat → ClassId} {N : Nat} {ad : Nat → Nat} {g : Nat → va_E} {psz : Nat} {pf : Nat → Int32} {mt lt : Int32} (hP : RepAt cy N ad g psz pf mt lt) : RI l G cy (N, ad, g) yX4_met cX4_met 1 (some .int) (rmN 0) [.ref (ad 60)] mt := by
  refine RI.mk (by decide) (by first | rfl | exact bI_nar) (Nat.le_of_ble_eq_true rfl) ?_
  intro jp je js jm below meth jc A Q X hW ret ls hl
  have jx := X.hx
  have jb := X.hb
  have hl : lv_has ls 1 [(0, .ref (ad 60))] := hl
  have X : Cx G cy jp js jm _ jc cX4_met 1 RX4 A js.heap := X
  obtain ⟨h83, hpsz, f60, f61⟩ := id hP
  refine lv_aload_n jx jb dX4_met_0 rfl (lv_at hl 0 rfl) ?_
  refine w_get X hW K4 (by omega) f60 3 (by decide) fl_X4_19 rfl dX4_met_1 ?_
  exact ret _ _ _ _ _ dX4_met_4 hW rfl

set_option maxHeartbeats 4000000 in
set_option maxRecDepth 100000 in
theorem c_lastTaken {l : Launch} {G : va_G} {cy : Nat → ClassId} {N : Nat} {ad : Nat → Nat} {g : Nat → va_E} {psz : Nat} {pf : Nat → Int32} {mt lt : Int32} (hP : RepAt cy N ad g psz pf mt lt) : RI l G cy (N, ad, g) yX4_lastTaken cX4_lastTaken 1 (some .int) (rmN 0) [.ref (ad 60)] lt := by
  refine RI.mk (by decide) (by first | rfl | exact bI_nar) (Nat.le_of_ble_eq_true rfl) ?_
  intro jp je js jm below meth jc A Q X hW ret ls hl
  have jx := X.hx
  have jb := X.hb
  have hl : lv_has ls 1 [(0, .ref (ad 60))] := hl
  have X : Cx G cy jp js jm _ jc cX4_lastTaken 1 RX4 A js.heap := X
  obtain ⟨h83, hpsz, f60, f61⟩ := id hP
  refine lv_aload_n jx jb dX4_lastTaken_0 rfl (lv_at hl 0 rfl) ?_
  refine w_get X hW K4 (by omega) f60 4 (by decide) fl_X4_22 rfl dX4_lastTaken_1 ?_
  exact ret _ _ _ _ _ dX4_lastTaken_4 hW rfl

set_option maxHeartbeats 4000000 in
set_option maxRecDepth 100000 in
theorem c_lastResult {l : Launch} {G : va_G} {cy : Nat → ClassId} {N : Nat} {ad : Nat → Nat} {g : Nat → va_E} {psz : Nat} {pf : Nat → Int32} {mt lt : Int32} (hP : RepAt cy N ad g psz pf mt lt) (h1 : 1 ≤ psz) : RI l G cy (N, ad, g) yX4_lastResult cX4_lastResult 1 (some .int) (rmN 2) [.ref (ad 60)] (pf (psz - 1)) := by
  refine RI.mk (by decide) (by first | rfl | exact bI_nar) (Nat.le_of_ble_eq_true rfl) ?_
  intro jp je js jm below meth jc A Q X hW ret ls hl
  have jx := X.hx
  have jb := X.hb
  have hl : lv_has ls 1 [(0, .ref (ad 60))] := hl
  have X : Cx G cy jp js jm _ jc cX4_lastResult 1 RX4 A js.heap := X
  obtain ⟨h83, hpsz, f60, f61⟩ := id hP
  refine lv_aload_n jx jb dX4_lastResult_0 rfl (lv_at hl 0 rfl) ?_
  refine lv_aload_n jx jb dX4_lastResult_1 rfl (lv_at hl 0 rfl) ?_
  refine w_get X hW K4 (by omega) f60 2 (by decide) fl_X4_15 rfl dX4_lastResult_2 ?_
  refine lv_iconst (v := 1) jx jb dX4_lastResult_5 (by decide) ?_
  refine lv_isub jx jb dX4_lastResult_6 ?_
  refine top_eq (y := nI (psz - 1)) (pk_sub (b := 1) h1) ?_
  refine w_rV (As := [.int (nI (psz - 1))]) X hW (c_pResultAt hP (by omega)) (by omega) f60 rfl rfl ml_X4_58 mf_X4_resultAt ⟨Nat.le_of_ble_eq_true rfl, Nat.le_of_ble_eq_true rfl⟩ hl.1 rfl (Nat.le_of_ble_eq_true rfl) ⟨Nat.le_of_ble_eq_true rfl, Nat.le_of_ble_eq_true rfl⟩ dX4_lastResult_7 (fun H locs hW => ?_)
  exact ret _ _ _ _ _ dX4_lastResult_10 hW rfl

set_option maxHeartbeats 4000000 in
set_option maxRecDepth 100000 in
theorem c_firstDiff {l : Launch} {G : va_G} {cy : Nat → ClassId} {N : Nat} {ad : Nat → Nat} {g : Nat → va_E} {n c r sz : Nat} {fc fr : Nat → Int32} {pf : Nat → Int32} {mt lt : Int32} (hP : RepAt cy N ad g sz pf mt lt) (hR : RowAt cy N ad g n c r sz fc fr) : RI l G cy (N, ad, g) yX4_firstDifference cX4_firstDifference 3 (some .int) (rmN 2) [.ref (ad 60), .ref (ad n)] (fdq pf fr 0 sz) := by
  refine RI.mk (by decide) (by first | rfl | exact bI_nar) (Nat.le_of_ble_eq_true rfl) ?_
  intro jp je js jm below meth jc A Q X hW ret ls hl
  have jx := X.hx
  have jb := X.hb
  have hl : lv_has ls 3 [(0, .ref (ad 60)), (1, .ref (ad n))] := hl
  have X : Cx G cy jp js jm _ jc cX4_firstDifference 3 RX4 A js.heap := X
  obtain ⟨h83, hpsz, f60, f61⟩ := id hP
  obtain ⟨hn, hc, hr, q1, q2, q3, hsz, fn, fc_, fr_⟩ := id hR
  refine lv_iconst (v := 0) jx jb dX4_firstDifference_0 (by decide) ?_
  refine lv_istore_n (lv' := [(2, .int 0), (0, .ref (ad 60)), (1, .ref (ad n))]) jx jb dX4_firstDifference_1 rfl hl (by decide) rfl (fun ls hl => ?_)
  have loop2 : ∀ (fuel2 : Nat) (k : Nat) (H : Heap) (locs : List Loc) (ls : Array Slot), (k ≤ sz) → (fdq pf fr k (sz - k) = fdq pf fr 0 sz) → sz - k < fuel2 → Wd G A js.heap (N, ad, g) H locs → lv_has ls 3 [(0, .ref (ad 60)), (1, .ref (ad n)), (2, .int (nI k))] → W jp l je (rmN 2) js jm [.ref (ad 60), .ref (ad n)].toArray below meth jc H locs 0 0 Q (F0 jm 2 ls []) := by
    intro fuel2
    induction fuel2 with
    | zero => intro k H locs ls hk hfd  hm2; exact absurd hm2 (Nat.not_lt_zero _)
    | succ fuel2 ih2 =>
      intro k H locs ls hk hfd  hm2 hW hl
      refine lv_iload_n jx jb dX4_firstDifference_2 rfl (lv_at hl 2 rfl) ?_
      refine lv_aload_n jx jb dX4_firstDifference_3 rfl (lv_at hl 0 rfl) ?_
      refine w_get X hW K4 (by omega) f60 2 (by decide) fl_X4_15 rfl dX4_firstDifference_4 ?_
      refine lv_icmp_ge (tgt := 31) jx jb dX4_firstDifference_7 (by decide) (fun c7 => ?_) (fun c7 => ?_)
      · refine lv_iconst (v := -1) jx jb dX4_firstDifference_31 (by decide) ?_
        exact ret _ _ _ _ _ dX4_firstDifference_32 hW (by have := n_le (by omega) (by omega) c7; rw [← hfd, show sz - k = 0 by omega]; rfl)
      · have hlt : k < sz := n_nle (by omega) (by omega) c7
        have hd1 : sz - k = (sz - k - 1) + 1 := by omega
        refine lv_aload_n jx jb dX4_firstDifference_10 rfl (lv_at hl 0 rfl) ?_
        refine lv_iload_n jx jb dX4_firstDifference_11 rfl (lv_at hl 2 rfl) ?_
        refine w_rV (As := [.int (nI k)]) X hW (c_pResultAt hP hlt) (by omega) f60 rfl rfl ml_X4_58 mf_X4_resultAt ⟨Nat.le_of_ble_eq_true rfl, Nat.le_of_ble_eq_true rfl⟩ hl.1 rfl (Nat.le_of_ble_eq_true rfl) ⟨Nat.le_of_ble_eq_true rfl, Nat.le_of_ble_eq_true rfl⟩ dX4_firstDifference_12 (fun H locs hW => ?_)
        refine lv_aload_n jx jb dX4_firstDifference_15 rfl (lv_at hl 1 rfl) ?_
        refine lv_iload_n jx jb dX4_firstDifference_16 rfl (lv_at hl 2 rfl) ?_
        refine w_rV (As := [.int (nI k)]) X hW (c_resultAt hR hlt) hn fn rfl rfl ml_X4_65 mf_X5_resultAt ⟨Nat.le_of_ble_eq_true rfl, Nat.le_of_ble_eq_true rfl⟩ hl.1 rfl (Nat.le_of_ble_eq_true rfl) ⟨Nat.le_of_ble_eq_true rfl, Nat.le_of_ble_eq_true rfl⟩ dX4_firstDifference_17 (fun H locs hW => ?_)
        refine lv_icmp_eq (tgt := 25) jx jb dX4_firstDifference_20 (by decide) (fun c20 => ?_) (fun c20 => ?_)
        · refine lv_iinc (v := nI (k + 1)) (lv' := [(2, .int (nI (k + 1))), (0, .ref (ad 60)), (1, .ref (ad n))]) jx jb dX4_firstDifference_25 hl (k := 2) rfl (show nI k + 1 = nI (k + 1) from nI_1 _) (by decide) rfl (fun ls hl => ?_)
          refine lv_goto (tgt := 2) jx jb dX4_firstDifference_28 (by decide) ?_
          exact ih2 (k + 1)  _ _ _ (by omega) (by rw [← hfd, hd1, fdq, if_pos c20, show sz - (k + 1) = sz - k - 1 by omega])  (by omega) hW (lv_sub hl [1, 2, 0] rfl)
        · refine lv_iload_n jx jb dX4_firstDifference_23 rfl (lv_at hl 2 rfl) ?_
          exact ret _ _ _ _ _ dX4_firstDifference_24 hW (by rw [← hfd, hd1, fdq, if_neg c20])
  exact loop2 _ 0  _ _ _ (by omega) rfl  (Nat.lt_succ_self _) hW (lv_sub hl [1, 2, 0] rfl)

set_option maxHeartbeats 4000000 in
set_option maxRecDepth 100000 in
theorem c_differences {l : Launch} {G : va_G} {cy : Nat → ClassId} {N : Nat} {ad : Nat → Nat} {g : Nat → va_E} {n c r sz : Nat} {fc fr : Nat → Int32} {pf : Nat → Int32} {mt lt : Int32} (hP : RepAt cy N ad g sz pf mt lt) (hR : RowAt cy N ad g n c r sz fc fr) : RI l G cy (N, ad, g) yX4_differences cX4_differences 4 (some .int) (rmN 2) [.ref (ad 60), .ref (ad n)] (nI (dfq pf fr sz)) := by
  refine RI.mk (by decide) (by first | rfl | exact bI_nar) (Nat.le_of_ble_eq_true rfl) ?_
  intro jp je js jm below meth jc A Q X hW ret ls hl
  have jx := X.hx
  have jb := X.hb
  have hl : lv_has ls 4 [(0, .ref (ad 60)), (1, .ref (ad n))] := hl
  have X : Cx G cy jp js jm _ jc cX4_differences 4 RX4 A js.heap := X
  obtain ⟨h83, hpsz, f60, f61⟩ := id hP
  obtain ⟨hn, hc, hr, q1, q2, q3, hsz, fn, fc_, fr_⟩ := id hR
  refine lv_iconst (v := 0) jx jb dX4_differences_0 (by decide) ?_
  refine lv_istore_n (lv' := [(2, .int 0), (0, .ref (ad 60)), (1, .ref (ad n))]) jx jb dX4_differences_1 rfl hl (by decide) rfl (fun ls hl => ?_)
  refine lv_iconst (v := 0) jx jb dX4_differences_2 (by decide) ?_
  refine lv_istore_n (lv' := [(3, .int 0), (2, .int 0), (0, .ref (ad 60)), (1, .ref (ad n))]) jx jb dX4_differences_3 rfl hl (by decide) rfl (fun ls hl => ?_)
  have loop4 : ∀ (fuel4 : Nat) (k : Nat) (H : Heap) (locs : List Loc) (ls : Array Slot), (k ≤ sz) → sz - k < fuel4 → Wd G A js.heap (N, ad, g) H locs → lv_has ls 4 [(0, .ref (ad 60)), (1, .ref (ad n)), (2, .int (nI (dfq pf fr k))), (3, .int (nI k))] → W jp l je (rmN 2) js jm [.ref (ad 60), .ref (ad n)].toArray below meth jc H locs 0 0 Q (F0 jm 4 ls []) := by
    intro fuel4
    induction fuel4 with
    | zero => intro k H locs ls hk  hm4; exact absurd hm4 (Nat.not_lt_zero _)
    | succ fuel4 ih4 =>
      intro k H locs ls hk  hm4 hW hl
      refine lv_iload_n jx jb dX4_differences_4 rfl (lv_at hl 3 rfl) ?_
      refine lv_aload_n jx jb dX4_differences_5 rfl (lv_at hl 0 rfl) ?_
      refine w_get X hW K4 (by omega) f60 2 (by decide) fl_X4_15 rfl dX4_differences_6 ?_
      refine lv_icmp_ge (tgt := 39) jx jb dX4_differences_9 (by decide) (fun c9 => ?_) (fun c9 => ?_)
      · refine lv_iload_n jx jb dX4_differences_39 rfl (lv_at hl 2 rfl) ?_
        exact ret _ _ _ _ _ dX4_differences_40 hW (by have := n_le (by omega) (by omega) c9; rw [show k = sz by omega])
      · have hlt : k < sz := n_nle (by omega) (by omega) c9
        refine lv_iload_n jx jb dX4_differences_12 rfl (lv_at hl 2 rfl) ?_
        refine lv_aload_n jx jb dX4_differences_13 rfl (lv_at hl 0 rfl) ?_
        refine lv_iload_n jx jb dX4_differences_14 rfl (lv_at hl 3 rfl) ?_
        refine w_rV (As := [.int (nI k)]) X hW (c_pResultAt hP hlt) (by omega) f60 rfl rfl ml_X4_58 mf_X4_resultAt ⟨Nat.le_of_ble_eq_true rfl, Nat.le_of_ble_eq_true rfl⟩ hl.1 rfl (Nat.le_of_ble_eq_true rfl) ⟨Nat.le_of_ble_eq_true rfl, Nat.le_of_ble_eq_true rfl⟩ dX4_differences_15 (fun H locs hW => ?_)
        refine lv_aload_n jx jb dX4_differences_18 rfl (lv_at hl 1 rfl) ?_
        refine lv_iload_n jx jb dX4_differences_19 rfl (lv_at hl 3 rfl) ?_
        refine w_rV (As := [.int (nI k)]) X hW (c_resultAt hR hlt) hn fn rfl rfl ml_X4_65 mf_X5_resultAt ⟨Nat.le_of_ble_eq_true rfl, Nat.le_of_ble_eq_true rfl⟩ hl.1 rfl (Nat.le_of_ble_eq_true rfl) ⟨Nat.le_of_ble_eq_true rfl, Nat.le_of_ble_eq_true rfl⟩ dX4_differences_20 (fun H locs hW => ?_)
        refine lv_icmp_ne (tgt := 30) jx jb dX4_differences_23 (by decide) (fun c23 => ?_) (fun c23 => ?_)
        · refine lv_iconst (v := 1) jx jb dX4_differences_30 (by decide) ?_
          refine lv_iadd jx jb dX4_differences_31 ?_
          refine top_eq (y := nI (dfq pf fr (k + 1))) (by rw [show dfq pf fr (k + 1) = dfq pf fr k + (if pf k = fr k then 0 else 1) from rfl, if_neg c23, ← nI_add]; rfl) ?_
          refine lv_istore_n (lv' := [(2, .int (nI (dfq pf fr (k + 1)))), (0, .ref (ad 60)), (1, .ref (ad n)), (3, .int (nI k))]) jx jb dX4_differences_32 rfl hl (by decide) rfl (fun ls hl => ?_)
          refine lv_iinc (v := nI (k + 1)) (lv' := [(3, .int (nI (k + 1))), (2, .int (nI (dfq pf fr (k + 1)))), (0, .ref (ad 60)), (1, .ref (ad n))]) jx jb dX4_differences_33 hl (k := 3) rfl (show nI k + 1 = nI (k + 1) from nI_1 _) (by decide) rfl (fun ls hl => ?_)
          refine lv_goto (tgt := 4) jx jb dX4_differences_36 (by decide) ?_
          exact ih4 (k + 1)  _ _ _ (by omega)  (by omega) hW (lv_sub hl [2, 3, 1, 0] rfl)
        · refine lv_iconst (v := 0) jx jb dX4_differences_26 (by decide) ?_
          refine lv_goto (tgt := 31) jx jb dX4_differences_27 (by decide) ?_
          refine lv_iadd jx jb dX4_differences_31 ?_
          refine top_eq (y := nI (dfq pf fr (k + 1))) (by rw [show dfq pf fr (k + 1) = dfq pf fr k + (if pf k = fr k then 0 else 1) from rfl, if_pos c23, ← nI_add]; rfl) ?_
          refine lv_istore_n (lv' := [(2, .int (nI (dfq pf fr (k + 1)))), (0, .ref (ad 60)), (1, .ref (ad n)), (3, .int (nI k))]) jx jb dX4_differences_32 rfl hl (by decide) rfl (fun ls hl => ?_)
          refine lv_iinc (v := nI (k + 1)) (lv' := [(3, .int (nI (k + 1))), (2, .int (nI (dfq pf fr (k + 1)))), (0, .ref (ad 60)), (1, .ref (ad n))]) jx jb dX4_differences_33 hl (k := 3) rfl (show nI k + 1 = nI (k + 1) from nI_1 _) (by decide) rfl (fun ls hl => ?_)
          refine lv_goto (tgt := 4) jx jb dX4_differences_36 (by decide) ?_
          exact ih4 (k + 1)  _ _ _ (by omega)  (by omega) hW (lv_sub hl [2, 3, 1, 0] rfl)
  exact loop4 _ 0  _ _ _ (by omega)  (Nat.lt_succ_self _) hW (lv_sub hl [2, 3, 1, 0] rfl)

set_option maxHeartbeats 4000000 in
set_option maxRecDepth 100000 in
theorem c_play {l : Launch} {G : va_G} {cy : Nat → ClassId} {N : Nat} {ad : Nat → Nat} {g : Nat → va_E} {n c r sz : Nat} {fc fr : Nat → Int32} {psz : Nat} {pf : Nat → Int32} {mt lt : Int32} {M : M4} {cl : Nat → Nat} (hM : MachAt cy N ad g M) (hP : RepAt cy N ad g psz pf mt lt) (hR : RowAt cy N ad g n c r sz fc fr) (hC : ∀ k, k < sz → fc k = nI (cl k) ∧ cl k < 96) (hd : n ≠ 60 ∧ n ≠ 61 ∧ c ≠ 60 ∧ c ≠ 61 ∧ r ≠ 60 ∧ r ≠ 61) : MV l G cy (N, ad, g) yX4_play cX4_play 5 none (rmN 3) [.ref (ad 60), .ref (ad n)] (nV N ad (fun g1 => ∃ f1, RepAt cy N ad g1 sz f1 (mtq M cl sz) (ltq M cl sz) ∧ (∀ i, i < sz → f1 i = rsq M cl 0 i) ∧ Fr g g1 [60, 61])) := by
  refine NV.mk (by decide) (Nat.le_of_ble_eq_true rfl) ?_
  intro jp je js jm below meth jc A Q X hW ret ls hl
  have jx := X.hx
  have jb := X.hb
  have hl : lv_has ls 5 [(0, .ref (ad 60)), (1, .ref (ad n))] := hl
  have X : Cx G cy jp js jm _ jc cX4_play 5 RX4 A js.heap := X
  have hok := hM.1
  obtain ⟨-, -, bc_, fs_, f1_, -⟩ := id hM
  obtain ⟨h83, hpsz, f60, f61⟩ := id hP
  obtain ⟨hn, hc, hr, q1, q2, q3, hsz, fn, fc_, fr_⟩ := id hR
  refine lv_iconst (v := 0) jx jb dX4_play_0 (by decide) ?_
  refine lv_istore_n (lv' := [(2, .int 0), (0, .ref (ad 60)), (1, .ref (ad n))]) jx jb dX4_play_1 rfl hl (by decide) rfl (fun ls hl => ?_)
  refine lv_aload_n jx jb dX4_play_2 rfl (lv_at hl 1 rfl) ?_
  refine lv_aload_n jx jb dX4_play_3 rfl (lv_at hl 2 rfl) ?_
  refine w_rV (As := []) X hW (c_rSize hR) hn fn rfl rfl ml_X4_29 mf_X5_size ⟨Nat.le_of_ble_eq_true rfl, Nat.le_of_ble_eq_true rfl⟩ hl.1 rfl (Nat.le_of_ble_eq_true rfl) ⟨Nat.le_of_ble_eq_true rfl, Nat.le_of_ble_eq_true rfl⟩ dX4_play_4 (fun H locs hW => ?_)
  refine w_put X hW K4 (by omega) f60 2 (by decide) fl_X4_15 rfl rfl rfl (Nat.le_of_ble_eq_true rfl) dX4_play_7 (fun H locs hW => ?_)
  obtain ⟨g_1, eg_1⟩ : ∃ zz, zz = va_up g 60 (.inr (4, [.ref (ad 1), .ref (ad 61), .int (nI sz), .int mt, .int lt])) := ⟨_, rfl⟩
  have hW : Wd G A js.heap (N, ad, g_1) H locs := by rw [eg_1]; exact hW
  have hf2 : g_1 60 = .inr (4, [.ref (ad 1), .ref (ad 61), .int (nI sz), .int mt, .int lt]) := by rw [eg_1]; exact va_up_s
  have hf3 : g_1 61 = .inl (cy 0, 200, .inl pf) := by rw [eg_1]; exact (va_up_n (by decide)).trans f61
  have hf4 : g_1 n = .inr (5, [.ref (ad c), .ref (ad r), .int (nI sz)]) := by rw [eg_1]; exact (va_up_n (by omega)).trans fn
  have hf5 : g_1 c = .inl (cy 0, 200, .inl fc) := by rw [eg_1]; exact (va_up_n (by omega)).trans fc_
  have hf6 : g_1 r = .inl (cy 0, 200, .inl fr) := by rw [eg_1]; exact (va_up_n (by omega)).trans fr_
  have hf7 : g_1 1 = .inr (2, [.ref (ad 2), .ref (ad 3)]) := by rw [eg_1]; exact (va_up_n (by decide)).trans f1_
  refine lv_aload_n jx jb dX4_play_10 rfl (lv_at hl 1 rfl) ?_
  refine lv_iconst (v := 0) jx jb dX4_play_11 (by decide) ?_
  refine w_put X hW K4 (by omega) hf2 3 (by decide) fl_X4_19 rfl rfl rfl (Nat.le_of_ble_eq_true rfl) dX4_play_12 (fun H locs hW => ?_)
  obtain ⟨g_8, eg_8⟩ : ∃ zz, zz = va_up g_1 60 (.inr (4, [.ref (ad 1), .ref (ad 61), .int (nI sz), .int 0, .int lt])) := ⟨_, rfl⟩
  have hW : Wd G A js.heap (N, ad, g_8) H locs := by rw [eg_8]; exact hW
  have hf9 : g_8 60 = .inr (4, [.ref (ad 1), .ref (ad 61), .int (nI sz), .int 0, .int lt]) := by rw [eg_8]; exact va_up_s
  have hf10 : g_8 61 = .inl (cy 0, 200, .inl pf) := by rw [eg_8]; exact (va_up_n (by decide)).trans hf3
  have hf11 : g_8 n = .inr (5, [.ref (ad c), .ref (ad r), .int (nI sz)]) := by rw [eg_8]; exact (va_up_n (by omega)).trans hf4
  have hf12 : g_8 c = .inl (cy 0, 200, .inl fc) := by rw [eg_8]; exact (va_up_n (by omega)).trans hf5
  have hf13 : g_8 r = .inl (cy 0, 200, .inl fr) := by rw [eg_8]; exact (va_up_n (by omega)).trans hf6
  have hf14 : g_8 1 = .inr (2, [.ref (ad 2), .ref (ad 3)]) := by rw [eg_8]; exact (va_up_n (by decide)).trans hf7
  refine lv_aload_n jx jb dX4_play_15 rfl (lv_at hl 1 rfl) ?_
  refine lv_iconst (v := -1) jx jb dX4_play_16 (by decide) ?_
  refine w_put X hW K4 (by omega) hf9 4 (by decide) fl_X4_22 rfl rfl rfl (Nat.le_of_ble_eq_true rfl) dX4_play_17 (fun H locs hW => ?_)
  obtain ⟨g_15, eg_15⟩ : ∃ zz, zz = va_up g_8 60 (.inr (4, [.ref (ad 1), .ref (ad 61), .int (nI sz), .int 0, .int (-1)])) := ⟨_, rfl⟩
  have hW : Wd G A js.heap (N, ad, g_15) H locs := by rw [eg_15]; exact hW
  have hf16 : g_15 60 = .inr (4, [.ref (ad 1), .ref (ad 61), .int (nI sz), .int 0, .int (-1)]) := by rw [eg_15]; exact va_up_s
  have hf17 : g_15 61 = .inl (cy 0, 200, .inl pf) := by rw [eg_15]; exact (va_up_n (by decide)).trans hf10
  have hf18 : g_15 n = .inr (5, [.ref (ad c), .ref (ad r), .int (nI sz)]) := by rw [eg_15]; exact (va_up_n (by omega)).trans hf11
  have hf19 : g_15 c = .inl (cy 0, 200, .inl fc) := by rw [eg_15]; exact (va_up_n (by omega)).trans hf12
  have hf20 : g_15 r = .inl (cy 0, 200, .inl fr) := by rw [eg_15]; exact (va_up_n (by omega)).trans hf13
  have hf21 : g_15 1 = .inr (2, [.ref (ad 2), .ref (ad 3)]) := by rw [eg_15]; exact (va_up_n (by decide)).trans hf14
  refine lv_iconst (v := 0) jx jb dX4_play_20 (by decide) ?_
  refine lv_istore_n (lv' := [(3, .int 0), (2, .int 0), (0, .ref (ad 60)), (1, .ref (ad n))]) jx jb dX4_play_21 rfl hl (by decide) rfl (fun ls hl => ?_)
  have loop22 : ∀ (fuel22 : Nat) (k : Nat) (f1 : Nat → Int32) (gL22 : Nat → va_E) (H : Heap) (locs : List Loc) (ls : Array Slot), (k ≤ sz) → (∀ i, i < k → f1 i = rsq M cl 0 i) → gL22 60 = .inr (4, [.ref (ad 1), .ref (ad 61), .int (nI sz), .int (mtq M cl k), .int (ltq M cl k)]) → gL22 61 = .inl (cy 0, 200, .inl f1) → gL22 n = .inr (5, [.ref (ad c), .ref (ad r), .int (nI sz)]) → gL22 c = .inl (cy 0, 200, .inl fc) → gL22 r = .inl (cy 0, 200, .inl fr) → gL22 1 = .inr (2, [.ref (ad 2), .ref (ad 3)]) → Fr g gL22 [60, 61] → sz - k < fuel22 → Wd G A js.heap (N, ad, gL22) H locs → lv_has ls 5 [(0, .ref (ad 60)), (1, .ref (ad n)), (2, .int (nI (stq M cl 0 k))), (3, .int (nI k))] → W jp l je (rmN 3) js jm [.ref (ad 60), .ref (ad n)].toArray below meth jc H locs 0 0 Q (F0 jm 22 ls []) := by
    intro fuel22
    induction fuel22 with
    | zero => intro k f1 gL22 H locs ls hk hres fL22_0 fL22_1 fL22_2 fL22_3 fL22_4 fL22_5 hfr22 hm22; exact absurd hm22 (Nat.not_lt_zero _)
    | succ fuel22 ih22 =>
      intro k f1 gL22 H locs ls hk hres fL22_0 fL22_1 fL22_2 fL22_3 fL22_4 fL22_5 hfr22 hm22 hW hl
      refine lv_iload_n jx jb dX4_play_22 rfl (lv_at hl 3 rfl) ?_
      refine lv_aload_n jx jb dX4_play_23 rfl (lv_at hl 0 rfl) ?_
      refine w_get X hW K4 (by omega) fL22_0 2 (by decide) fl_X4_15 rfl dX4_play_24 ?_
      refine lv_icmp_ge (tgt := 127) jx jb dX4_play_27 (by decide) (fun c27 => ?_) (fun c27 => ?_)
      · exact ret _ _ _ _ _ dX4_play_127 hW (by have := n_le (by omega) (by omega) c27; have e : k = sz := (by omega); rw [e] at hres fL22_0; exact ⟨f1, ⟨h83, hsz, fL22_0, fL22_1⟩, hres, (fun k hk => by show gL22 k = _; simp only [List.mem_cons, List.not_mem_nil, or_false, not_or] at hk; rw [hfr22 k (by simp only [List.mem_cons, List.not_mem_nil, or_false, not_or] <;> omega)])⟩)
      · refine lv_iload_n jx jb dX4_play_30 rfl (lv_at hl 3 rfl) ?_
        refine lv_sipush (v := 200) jx jb dX4_play_31 (by decide) ?_
        refine lv_icmp_ge (tgt := 127) jx jb dX4_play_34 (by decide) (fun c34 => ?_) (fun c34 => ?_)
        · exact absurd (n_le (a := 200) (by decide) (by omega) c34) (by have := n_nle (by omega) (by omega) c27; omega)
        · have hlt : k < sz := n_nle (by omega) (by omega) c27
          have h96 := (hC k hlt).2
          have hst : stq M cl 0 k < 65536 := stq_lt hok (by decide) (fun i hi => (hC i (by omega)).2)
          have hst1 : stq M cl 0 (k + 1) < 65536 := stq_lt hok (by decide) (fun i hi => (hC i (by omega)).2)
          refine lv_aload_n jx jb dX4_play_37 rfl (lv_at hl 1 rfl) ?_
          refine lv_iload_n jx jb dX4_play_38 rfl (lv_at hl 3 rfl) ?_
          refine w_rV (As := [.int (nI k)]) X hW (c_callAt ⟨hn, hc, hr, q1, q2, q3, hsz, fL22_2, fL22_3, fL22_4⟩ hlt) hn fL22_2 rfl rfl ml_X4_34 mf_X5_callAt ⟨Nat.le_of_ble_eq_true rfl, Nat.le_of_ble_eq_true rfl⟩ hl.1 rfl (Nat.le_of_ble_eq_true rfl) ⟨Nat.le_of_ble_eq_true rfl, Nat.le_of_ble_eq_true rfl⟩ dX4_play_39 (fun H locs hW => ?_)
          refine top_eq (y := nI (cl k)) ((hC k hlt).1) ?_
          refine lv_istore (lv' := [(4, .int (nI (cl k))), (0, .ref (ad 60)), (1, .ref (ad n)), (2, .int (nI (stq M cl 0 k))), (3, .int (nI k))]) jx jb dX4_play_42 hl (by decide) rfl (fun ls hl => ?_)
          refine lv_aload_n jx jb dX4_play_44 rfl (lv_at hl 1 rfl) ?_
          refine lv_aload_n jx jb dX4_play_45 rfl (lv_at hl 1 rfl) ?_
          refine w_get X hW K4 (by omega) fL22_0 0 (by decide) fl_X4_25 rfl dX4_play_46 ?_
          refine lv_iload jx jb dX4_play_49 (lv_at hl 0 rfl) ?_
          refine lv_iload_n jx jb dX4_play_51 rfl (lv_at hl 3 rfl) ?_
          refine w_rV (As := [.int (nI (cl k)), .int (nI (stq M cl 0 k))]) X hW (c_takenBy (hM.fr (fun k hk => by show gL22 k = _; rw [hfr22 k (by simp only [List.mem_cons, List.not_mem_nil, or_false, not_or] <;> omega)])) h96 hst) (by omega) fL22_5 rfl rfl ml_X4_38 mf_X2_takenBy ⟨Nat.le_of_ble_eq_true rfl, Nat.le_of_ble_eq_true rfl⟩ hl.1 rfl (Nat.le_of_ble_eq_true rfl) ⟨Nat.le_of_ble_eq_true rfl, Nat.le_of_ble_eq_true rfl⟩ dX4_play_52 (fun H locs hW => ?_)
          refine top_eq (y := tI (tkq M cl 0 k)) (rfl) ?_
          refine w_put X hW K4 (by omega) fL22_0 4 (by decide) fl_X4_22 rfl rfl rfl (Nat.le_of_ble_eq_true rfl) dX4_play_55 (fun H locs hW => ?_)
          obtain ⟨g_22, eg_22⟩ : ∃ zz, zz = va_up gL22 60 (.inr (4, [.ref (ad 1), .ref (ad 61), .int (nI sz), .int (mtq M cl k), .int (tI (tkq M cl 0 k))])) := ⟨_, rfl⟩
          have hW : Wd G A js.heap (N, ad, g_22) H locs := by rw [eg_22]; exact hW
          have hf23 : g_22 60 = .inr (4, [.ref (ad 1), .ref (ad 61), .int (nI sz), .int (mtq M cl k), .int (tI (tkq M cl 0 k))]) := by rw [eg_22]; exact va_up_s
          have hf24 : g_22 61 = .inl (cy 0, 200, .inl f1) := by rw [eg_22]; exact (va_up_n (by decide)).trans fL22_1
          have hf25 : g_22 n = .inr (5, [.ref (ad c), .ref (ad r), .int (nI sz)]) := by rw [eg_22]; exact (va_up_n (by omega)).trans fL22_2
          have hf26 : g_22 c = .inl (cy 0, 200, .inl fc) := by rw [eg_22]; exact (va_up_n (by omega)).trans fL22_3
          have hf27 : g_22 r = .inl (cy 0, 200, .inl fr) := by rw [eg_22]; exact (va_up_n (by omega)).trans fL22_4
          have hf28 : g_22 1 = .inr (2, [.ref (ad 2), .ref (ad 3)]) := by rw [eg_22]; exact (va_up_n (by decide)).trans fL22_5
          refine lv_aload_n jx jb dX4_play_58 rfl (lv_at hl 1 rfl) ?_
          refine w_get X hW K4 (by omega) hf23 0 (by decide) fl_X4_25 rfl dX4_play_59 ?_
          refine lv_aload_n jx jb dX4_play_62 rfl (lv_at hl 1 rfl) ?_
          refine w_get X hW K4 (by omega) hf23 4 (by decide) fl_X4_22 rfl dX4_play_63 ?_
          refine lv_iload_n jx jb dX4_play_66 rfl (lv_at hl 3 rfl) ?_
          refine lv_iload jx jb dX4_play_67 (lv_at hl 0 rfl) ?_
          refine w_rN (As := [.int (nI (cl k))]) X hW (c_numberOf (by omega)) mn_X4_44 mf_X8_numberOf ⟨Nat.le_of_ble_eq_true rfl, Nat.le_of_ble_eq_true rfl⟩ hl.1 rfl (Nat.le_of_ble_eq_true rfl) ⟨Nat.le_of_ble_eq_true rfl, Nat.le_of_ble_eq_true rfl⟩ dX4_play_69 (fun H locs hW => ?_)
          refine w_rV (As := [.int (tI (tkq M cl 0 k)), .int (nI (stq M cl 0 k)), .int (nI (cl k % 16))]) X hW (c_mStateBehind (k := cl k / 16) (st := stq M cl 0 k) (hM.fr (fun k hk => by show g_22 k = _; rw [eg_22, va_up_n (by omega), hfr22 k (by simp only [List.mem_cons, List.not_mem_nil, or_false, not_or] <;> omega)])) (by omega) hst (Nat.mod_lt _ (by decide))) (by omega) hf28 rfl rfl ml_X4_47 mf_X2_stateBehind ⟨Nat.le_of_ble_eq_true rfl, Nat.le_of_ble_eq_true rfl⟩ hl.1 rfl (Nat.le_of_ble_eq_true rfl) ⟨Nat.le_of_ble_eq_true rfl, Nat.le_of_ble_eq_true rfl⟩ dX4_play_72 (fun H locs hW => ?_)
          refine top_eq (y := nI (stq M cl 0 (k + 1))) (rfl) ?_
          refine lv_istore_n (lv' := [(2, .int (nI (stq M cl 0 (k + 1)))), (4, .int (nI (cl k))), (0, .ref (ad 60)), (1, .ref (ad n)), (3, .int (nI k))]) jx jb dX4_play_75 rfl hl (by decide) rfl (fun ls hl => ?_)
          refine lv_aload_n jx jb dX4_play_76 rfl (lv_at hl 2 rfl) ?_
          refine w_get X hW K4 (by omega) hf23 1 (by decide) fl_X4_9 rfl dX4_play_77 ?_
          refine lv_iload_n jx jb dX4_play_80 rfl (lv_at hl 4 rfl) ?_
          refine lv_aload_n jx jb dX4_play_81 rfl (lv_at hl 2 rfl) ?_
          refine w_get X hW K4 (by omega) hf23 0 (by decide) fl_X4_25 rfl dX4_play_82 ?_
          refine lv_aload_n jx jb dX4_play_85 rfl (lv_at hl 2 rfl) ?_
          refine w_get X hW K4 (by omega) hf23 4 (by decide) fl_X4_22 rfl dX4_play_86 ?_
          refine lv_iload_n jx jb dX4_play_89 rfl (lv_at hl 0 rfl) ?_
          refine w_rV (As := [.int (tI (tkq M cl 0 k)), .int (nI (stq M cl 0 (k + 1)))]) X hW (c_resultOf (k := cl k / 16) (st := stq M cl 0 k) (hM.fr (fun k hk => by show g_22 k = _; rw [eg_22, va_up_n (by omega), hfr22 k (by simp only [List.mem_cons, List.not_mem_nil, or_false, not_or] <;> omega)])) (by omega) hst1) (by omega) hf28 rfl rfl ml_X4_51 mf_X2_resultOf ⟨Nat.le_of_ble_eq_true rfl, Nat.le_of_ble_eq_true rfl⟩ hl.1 rfl (Nat.le_of_ble_eq_true rfl) ⟨Nat.le_of_ble_eq_true rfl, Nat.le_of_ble_eq_true rfl⟩ dX4_play_90 (fun H locs hW => ?_)
          refine top_eq (y := rsq M cl 0 k) (rfl) ?_
          refine w_ist X hW (by omega) hf24 k rfl (by omega) (by decide) dX4_play_93 (fun H locs hW => ?_)
          obtain ⟨g_29, eg_29⟩ : ∃ zz, zz = va_up g_22 61 (.inl (cy 0, 200, .inl (upd f1 k (rsq M cl 0 k)))) := ⟨_, rfl⟩
          have hW : Wd G A js.heap (N, ad, g_29) H locs := by rw [eg_29]; exact hW
          have hf30 : g_29 60 = .inr (4, [.ref (ad 1), .ref (ad 61), .int (nI sz), .int (mtq M cl k), .int (tI (tkq M cl 0 k))]) := by rw [eg_29]; exact (va_up_n (by decide)).trans hf23
          have hf31 : g_29 61 = .inl (cy 0, 200, .inl (upd f1 k (rsq M cl 0 k))) := by rw [eg_29]; exact va_up_s
          have hf32 : g_29 n = .inr (5, [.ref (ad c), .ref (ad r), .int (nI sz)]) := by rw [eg_29]; exact (va_up_n (by omega)).trans hf25
          have hf33 : g_29 c = .inl (cy 0, 200, .inl fc) := by rw [eg_29]; exact (va_up_n (by omega)).trans hf26
          have hf34 : g_29 r = .inl (cy 0, 200, .inl fr) := by rw [eg_29]; exact (va_up_n (by omega)).trans hf27
          have hf35 : g_29 1 = .inr (2, [.ref (ad 2), .ref (ad 3)]) := by rw [eg_29]; exact (va_up_n (by decide)).trans hf28
          refine lv_aload_n jx jb dX4_play_94 rfl (lv_at hl 2 rfl) ?_
          refine lv_dup jx jb dX4_play_95 rfl ?_
          refine w_get X hW K4 (by omega) hf30 3 (by decide) fl_X4_19 rfl dX4_play_96 ?_
          refine lv_aload_n jx jb dX4_play_99 rfl (lv_at hl 2 rfl) ?_
          refine w_get X hW K4 (by omega) hf30 4 (by decide) fl_X4_22 rfl dX4_play_100 ?_
          refine lv_iconst (v := -1) jx jb dX4_play_103 (by decide) ?_
          refine lv_icmp_ne (tgt := 111) jx jb dX4_play_104 (by decide) (fun c104 => ?_) (fun c104 => ?_)
          · refine lv_iconst (v := 1) jx jb dX4_play_111 (by decide) ?_
            refine lv_aload_n jx jb dX4_play_112 rfl (lv_at hl 2 rfl) ?_
            refine w_get X hW K4 (by omega) hf30 4 (by decide) fl_X4_22 rfl dX4_play_113 ?_
            refine lv_ishl jx jb dX4_play_116 ?_
            refine lv_ior jx jb dX4_play_117 ?_
            refine top_eq (y := mtq M cl (k + 1)) (by rw [bt_b c104]; rfl) ?_
            refine w_put X hW K4 (by omega) hf30 3 (by decide) fl_X4_19 rfl rfl rfl (Nat.le_of_ble_eq_true rfl) dX4_play_118 (fun H locs hW => ?_)
            obtain ⟨g_36, eg_36⟩ : ∃ zz, zz = va_up g_29 60 (.inr (4, [.ref (ad 1), .ref (ad 61), .int (nI sz), .int (mtq M cl (k + 1)), .int (tI (tkq M cl 0 k))])) := ⟨_, rfl⟩
            have hW : Wd G A js.heap (N, ad, g_36) H locs := by rw [eg_36]; exact hW
            have hf37 : g_36 60 = .inr (4, [.ref (ad 1), .ref (ad 61), .int (nI sz), .int (mtq M cl (k + 1)), .int (tI (tkq M cl 0 k))]) := by rw [eg_36]; exact va_up_s
            have hf38 : g_36 61 = .inl (cy 0, 200, .inl (upd f1 k (rsq M cl 0 k))) := by rw [eg_36]; exact (va_up_n (by decide)).trans hf31
            have hf39 : g_36 n = .inr (5, [.ref (ad c), .ref (ad r), .int (nI sz)]) := by rw [eg_36]; exact (va_up_n (by omega)).trans hf32
            have hf40 : g_36 c = .inl (cy 0, 200, .inl fc) := by rw [eg_36]; exact (va_up_n (by omega)).trans hf33
            have hf41 : g_36 r = .inl (cy 0, 200, .inl fr) := by rw [eg_36]; exact (va_up_n (by omega)).trans hf34
            have hf42 : g_36 1 = .inr (2, [.ref (ad 2), .ref (ad 3)]) := by rw [eg_36]; exact (va_up_n (by decide)).trans hf35
            refine lv_iinc (v := nI (k + 1)) (lv' := [(3, .int (nI (k + 1))), (2, .int (nI (stq M cl 0 (k + 1)))), (4, .int (nI (cl k))), (0, .ref (ad 60)), (1, .ref (ad n))]) jx jb dX4_play_121 hl (k := 4) rfl (show nI k + 1 = nI (k + 1) from nI_1 _) (by decide) rfl (fun ls hl => ?_)
            refine lv_goto (tgt := 22) jx jb dX4_play_124 (by decide) ?_
            exact ih22 (k + 1) _ g_36 _ _ _ (by omega) (fun i hi => by by_cases e : i = k; (rw [e, pk_us]); (rw [pk_un e]; exact hres i (by omega))) hf37 hf38 hf39 hf40 hf41 hf42 (fun k hk => by show g_36 k = _; simp only [List.mem_cons, List.not_mem_nil, or_false, not_or] at hk; rw [eg_36, va_up_n (by omega), eg_29, va_up_n (by omega), eg_22, va_up_n (by omega), hfr22 k (by simp only [List.mem_cons, List.not_mem_nil, or_false, not_or] <;> omega)]) (by omega) hW (lv_sub hl [3, 4, 1, 0] rfl)
          · refine lv_iconst (v := 0) jx jb dX4_play_107 (by decide) ?_
            refine lv_goto (tgt := 117) jx jb dX4_play_108 (by decide) ?_
            refine lv_ior jx jb dX4_play_117 ?_
            refine top_eq (y := mtq M cl (k + 1)) (by rw [bt_a (tkq_b hok h96) c104]; rfl) ?_
            refine w_put X hW K4 (by omega) hf30 3 (by decide) fl_X4_19 rfl rfl rfl (Nat.le_of_ble_eq_true rfl) dX4_play_118 (fun H locs hW => ?_)
            obtain ⟨g_43, eg_43⟩ : ∃ zz, zz = va_up g_29 60 (.inr (4, [.ref (ad 1), .ref (ad 61), .int (nI sz), .int (mtq M cl (k + 1)), .int (tI (tkq M cl 0 k))])) := ⟨_, rfl⟩
            have hW : Wd G A js.heap (N, ad, g_43) H locs := by rw [eg_43]; exact hW
            have hf44 : g_43 60 = .inr (4, [.ref (ad 1), .ref (ad 61), .int (nI sz), .int (mtq M cl (k + 1)), .int (tI (tkq M cl 0 k))]) := by rw [eg_43]; exact va_up_s
            have hf45 : g_43 61 = .inl (cy 0, 200, .inl (upd f1 k (rsq M cl 0 k))) := by rw [eg_43]; exact (va_up_n (by decide)).trans hf31
            have hf46 : g_43 n = .inr (5, [.ref (ad c), .ref (ad r), .int (nI sz)]) := by rw [eg_43]; exact (va_up_n (by omega)).trans hf32
            have hf47 : g_43 c = .inl (cy 0, 200, .inl fc) := by rw [eg_43]; exact (va_up_n (by omega)).trans hf33
            have hf48 : g_43 r = .inl (cy 0, 200, .inl fr) := by rw [eg_43]; exact (va_up_n (by omega)).trans hf34
            have hf49 : g_43 1 = .inr (2, [.ref (ad 2), .ref (ad 3)]) := by rw [eg_43]; exact (va_up_n (by decide)).trans hf35
            refine lv_iinc (v := nI (k + 1)) (lv' := [(3, .int (nI (k + 1))), (2, .int (nI (stq M cl 0 (k + 1)))), (4, .int (nI (cl k))), (0, .ref (ad 60)), (1, .ref (ad n))]) jx jb dX4_play_121 hl (k := 4) rfl (show nI k + 1 = nI (k + 1) from nI_1 _) (by decide) rfl (fun ls hl => ?_)
            refine lv_goto (tgt := 22) jx jb dX4_play_124 (by decide) ?_
            exact ih22 (k + 1) _ g_43 _ _ _ (by omega) (fun i hi => by by_cases e : i = k; (rw [e, pk_us]); (rw [pk_un e]; exact hres i (by omega))) hf44 hf45 hf46 hf47 hf48 hf49 (fun k hk => by show g_43 k = _; simp only [List.mem_cons, List.not_mem_nil, or_false, not_or] at hk; rw [eg_43, va_up_n (by omega), eg_29, va_up_n (by omega), eg_22, va_up_n (by omega), hfr22 k (by simp only [List.mem_cons, List.not_mem_nil, or_false, not_or] <;> omega)]) (by omega) hW (lv_sub hl [3, 4, 1, 0] rfl)
  exact loop22 _ 0 _ g_15 _ _ _ (by omega) (fun i hi => absurd hi (by omega)) hf16 hf17 hf18 hf19 hf20 hf21 (fun k hk => by show g_15 k = _; simp only [List.mem_cons, List.not_mem_nil, or_false, not_or] at hk; rw [eg_15, va_up_n (by omega), eg_8, va_up_n (by omega), eg_1, va_up_n (by omega)]) (Nat.lt_succ_self _) hW (lv_sub hl [2, 3, 1, 0] rfl)

set_option maxHeartbeats 4000000 in
set_option maxRecDepth 100000 in
theorem c_meets {l : Launch} {G : va_G} {cy : Nat → ClassId} {N : Nat} {ad : Nat → Nat} {g : Nat → va_E} {n c r sz : Nat} {fc fr : Nat → Int32} {psz : Nat} {pf : Nat → Int32} {mt lt : Int32} {M : M4} {cl : Nat → Nat} (hM : MachAt cy N ad g M) (hP : RepAt cy N ad g psz pf mt lt) (hR : RowAt cy N ad g n c r sz fc fr) (hC : ∀ k, k < sz → fc k = nI (cl k) ∧ cl k < 96) (hd : n ≠ 60 ∧ n ≠ 61 ∧ c ≠ 60 ∧ c ≠ 61 ∧ r ≠ 60 ∧ r ≠ 61) : MI l G cy (N, ad, g) yX4_meets cX4_meets 2 (some .int) (rmN 4) [.ref (ad 60), .ref (ad n)] (nA N ad (fun v g1 => v = mtq M cl sz ∧ ∃ f1, RepAt cy N ad g1 sz f1 (mtq M cl sz) (ltq M cl sz) ∧ (∀ i, i < sz → f1 i = rsq M cl 0 i) ∧ Fr g g1 [60, 61])) := by
  refine NI.mk (by decide) (by intros; first | rfl | (simp_all; done)) (Nat.le_of_ble_eq_true rfl) ?_
  intro jp je js jm below meth jc A Q X hW ret ls hl
  have jx := X.hx
  have jb := X.hb
  have hl : lv_has ls 2 [(0, .ref (ad 60)), (1, .ref (ad n))] := hl
  have X : Cx G cy jp js jm _ jc cX4_meets 2 RX4 A js.heap := X
  obtain ⟨h83, hpsz, f60, f61⟩ := id hP
  refine lv_aload_n jx jb dX4_meets_0 rfl (lv_at hl 0 rfl) ?_
  refine lv_aload_n jx jb dX4_meets_1 rfl (lv_at hl 1 rfl) ?_
  refine w_nVv (As := [.ref (ad n)]) X hW (c_play hM hP hR hC hd) (by omega) f60 rfl rfl ml_X4_54 mf_X4_play ⟨Nat.le_of_ble_eq_true rfl, Nat.le_of_ble_eq_true rfl⟩ hl.1 rfl (Nat.le_of_ble_eq_true rfl) ⟨Nat.le_of_ble_eq_true rfl, Nat.le_of_ble_eq_true rfl⟩ dX4_meets_2 (fun g1 H locs hp hW => ?_)
  obtain ⟨f1, hP1, hres, pfr⟩ := hp
  obtain ⟨-, -, p60, p61⟩ := id hP1
  refine lv_aload_n jx jb dX4_meets_5 rfl (lv_at hl 0 rfl) ?_
  refine w_get X hW K4 (by omega) p60 3 (by decide) fl_X4_19 rfl dX4_meets_6 ?_
  exact ret _ _ _ _ _ _ dX4_meets_9 hW ⟨rfl, f1, hP1, hres, pfr⟩

set_option maxHeartbeats 4000000 in
set_option maxRecDepth 100000 in
theorem c_takeResults {l : Launch} {G : va_G} {cy : Nat → ClassId} {N : Nat} {ad : Nat → Nat} {g : Nat → va_E} {n c r sz : Nat} {fc fr : Nat → Int32} {pf : Nat → Int32} {mt lt : Int32} (hP : RepAt cy N ad g sz pf mt lt) (hR : RowAt cy N ad g n c r sz fc fr) (hd : n ≠ 60 ∧ n ≠ 61 ∧ c ≠ 60 ∧ c ≠ 61 ∧ r ≠ 60 ∧ r ≠ 61) : MV l G cy (N, ad, g) yX5_takeResults cX5_takeResults 3 none (rmN 2) [.ref (ad n), .ref (ad 60)] (nV N ad (fun g1 => ∃ f1, RowAt cy N ad g1 n c r sz fc f1 ∧ (∀ i, i < sz → f1 i = pf i) ∧ Fr g g1 [n, c, r])) := by
  refine NV.mk (by decide) (Nat.le_of_ble_eq_true rfl) ?_
  intro jp je js jm below meth jc A Q X hW ret ls hl
  have jx := X.hx
  have jb := X.hb
  have hl : lv_has ls 3 [(0, .ref (ad n)), (1, .ref (ad 60))] := hl
  have X : Cx G cy jp js jm _ jc cX5_takeResults 3 RX5 A js.heap := X
  obtain ⟨h83, hpsz, f60, f61⟩ := id hP
  obtain ⟨hn, hc, hr, q1, q2, q3, hsz, fn, fc_, fr_⟩ := id hR
  refine lv_iconst (v := 0) jx jb dX5_takeResults_0 (by decide) ?_
  refine lv_istore_n (lv' := [(2, .int 0), (0, .ref (ad n)), (1, .ref (ad 60))]) jx jb dX5_takeResults_1 rfl hl (by decide) rfl (fun ls hl => ?_)
  have loop2 : ∀ (fuel2 : Nat) (k : Nat) (f1 : Nat → Int32) (gL2 : Nat → va_E) (H : Heap) (locs : List Loc) (ls : Array Slot), (k ≤ sz) → (∀ i, i < k → f1 i = pf i) → gL2 n = .inr (5, [.ref (ad c), .ref (ad r), .int (nI sz)]) → gL2 c = .inl (cy 0, 200, .inl fc) → gL2 r = .inl (cy 0, 200, .inl f1) → gL2 60 = .inr (4, [.ref (ad 1), .ref (ad 61), .int (nI sz), .int mt, .int lt]) → gL2 61 = .inl (cy 0, 200, .inl pf) → Fr g gL2 [n, c, r] → sz - k < fuel2 → Wd G A js.heap (N, ad, gL2) H locs → lv_has ls 3 [(0, .ref (ad n)), (1, .ref (ad 60)), (2, .int (nI k))] → W jp l je (rmN 2) js jm [.ref (ad n), .ref (ad 60)].toArray below meth jc H locs 0 0 Q (F0 jm 2 ls []) := by
    intro fuel2
    induction fuel2 with
    | zero => intro k f1 gL2 H locs ls hk hres fL2_0 fL2_1 fL2_2 fL2_3 fL2_4 hfr2 hm2; exact absurd hm2 (Nat.not_lt_zero _)
    | succ fuel2 ih2 =>
      intro k f1 gL2 H locs ls hk hres fL2_0 fL2_1 fL2_2 fL2_3 fL2_4 hfr2 hm2 hW hl
      refine lv_iload_n jx jb dX5_takeResults_2 rfl (lv_at hl 2 rfl) ?_
      refine lv_aload_n jx jb dX5_takeResults_3 rfl (lv_at hl 0 rfl) ?_
      refine w_get X hW K5 hn fL2_0 2 (by decide) fl_X5_18 rfl dX5_takeResults_4 ?_
      refine lv_icmp_ge (tgt := 27) jx jb dX5_takeResults_7 (by decide) (fun c7 => ?_) (fun c7 => ?_)
      · exact ret _ _ _ _ _ dX5_takeResults_27 hW ⟨f1, ⟨hn, hc, hr, q1, q2, q3, hsz, fL2_0, fL2_1, fL2_2⟩, (by have := n_le (by omega) (by omega) c7; have e : k = sz := (by omega); rw [← e]; exact hres), (fun k hk => by show gL2 k = _; simp only [List.mem_cons, List.not_mem_nil, or_false, not_or] at hk; rw [hfr2 k (by simp only [List.mem_cons, List.not_mem_nil, or_false, not_or] <;> omega)])⟩
      · have hlt : k < sz := n_nle (by omega) (by omega) c7
        refine lv_aload_n jx jb dX5_takeResults_10 rfl (lv_at hl 0 rfl) ?_
        refine w_get X hW K5 hn fL2_0 1 (by decide) fl_X5_15 rfl dX5_takeResults_11 ?_
        refine lv_iload_n jx jb dX5_takeResults_14 rfl (lv_at hl 2 rfl) ?_
        refine lv_aload_n jx jb dX5_takeResults_15 rfl (lv_at hl 1 rfl) ?_
        refine lv_iload_n jx jb dX5_takeResults_16 rfl (lv_at hl 2 rfl) ?_
        refine w_rV (As := [.int (nI k)]) X hW (c_pResultAt ⟨h83, hpsz, fL2_3, fL2_4⟩ hlt) (by omega) fL2_3 rfl rfl ml_X5_30 mf_X4_resultAt ⟨Nat.le_of_ble_eq_true rfl, Nat.le_of_ble_eq_true rfl⟩ hl.1 rfl (Nat.le_of_ble_eq_true rfl) ⟨Nat.le_of_ble_eq_true rfl, Nat.le_of_ble_eq_true rfl⟩ dX5_takeResults_17 (fun H locs hW => ?_)
        refine w_ist X hW hr fL2_2 k rfl (by omega) (by decide) dX5_takeResults_20 (fun H locs hW => ?_)
        obtain ⟨g_1, eg_1⟩ : ∃ zz, zz = va_up gL2 r (.inl (cy 0, 200, .inl (upd f1 k (pf k)))) := ⟨_, rfl⟩
        have hW : Wd G A js.heap (N, ad, g_1) H locs := by rw [eg_1]; exact hW
        have hf2 : g_1 n = .inr (5, [.ref (ad c), .ref (ad r), .int (nI sz)]) := by rw [eg_1]; exact (va_up_n (by omega)).trans fL2_0
        have hf3 : g_1 c = .inl (cy 0, 200, .inl fc) := by rw [eg_1]; exact (va_up_n (by omega)).trans fL2_1
        have hf4 : g_1 r = .inl (cy 0, 200, .inl (upd f1 k (pf k))) := by rw [eg_1]; exact va_up_s
        have hf5 : g_1 60 = .inr (4, [.ref (ad 1), .ref (ad 61), .int (nI sz), .int mt, .int lt]) := by rw [eg_1]; exact (va_up_n (by omega)).trans fL2_3
        have hf6 : g_1 61 = .inl (cy 0, 200, .inl pf) := by rw [eg_1]; exact (va_up_n (by omega)).trans fL2_4
        refine lv_iinc (v := nI (k + 1)) (lv' := [(2, .int (nI (k + 1))), (0, .ref (ad n)), (1, .ref (ad 60))]) jx jb dX5_takeResults_21 hl (k := 2) rfl (show nI k + 1 = nI (k + 1) from nI_1 _) (by decide) rfl (fun ls hl => ?_)
        refine lv_goto (tgt := 2) jx jb dX5_takeResults_24 (by decide) ?_
        exact ih2 (k + 1) _ g_1 _ _ _ (by omega) (fun i hi => by by_cases e : i = k; (rw [e, pk_us]); (rw [pk_un e]; exact hres i (by omega))) hf2 hf3 hf4 hf5 hf6 (fun k hk => by show g_1 k = _; simp only [List.mem_cons, List.not_mem_nil, or_false, not_or] at hk; rw [eg_1, va_up_n (by omega), hfr2 k (by simp only [List.mem_cons, List.not_mem_nil, or_false, not_or] <;> omega)]) (by omega) hW (lv_sub hl [1, 2, 0] rfl)
  exact loop2 _ 0 _ g _ _ _ (by omega) (fun i hi => absurd hi (by omega)) fn fc_ fr_ f60 f61 (fun k hk => rfl) (Nat.lt_succ_self _) hW (lv_sub hl [1, 2, 0] rfl)
