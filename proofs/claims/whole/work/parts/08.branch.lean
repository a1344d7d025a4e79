abbrev okWi (v : Int32) : Prop := 0 ≤ v ∧ okW v.toNatClampNeg
abbrev okTi (v : Int32) : Prop := 0 ≤ v ∧ okT v.toNatClampNeg
theorem i_below {v : Int32} {n : Nat} (hn : n < 2 ^ 31) (h : 0 ≤ v ∧ v < nI n) : ∃ w, w < n ∧ v = nI w := by
  have h1 := h.1
  have h2 := h.2
  rw [Int32.le_iff_toInt_le] at h1
  rw [Int32.lt_iff_toInt_lt, nI_toInt hn] at h2
  exact vp_in_of (vp_in_iff.mpr ⟨h1, h2⟩) hn
theorem i_0le {w : Nat} (h : w < 2 ^ 31) : (0 : Int32) ≤ nI w := nI_pos' h
theorem i_cl {w : Nat} (h : w < 2 ^ 31) : (nI w).toNatClampNeg = w := nI_clamp h
theorem dv100 {w : Nat} (h : w < 2 ^ 31) : nI w / 100 = nI (w / 100) := pk_div (d := 100) h (by decide) (by decide)
theorem dv1000 {w : Nat} (h : w < 2 ^ 31) : nI w / 1000 = nI (w / 1000) := pk_div (d := 1000) h (by decide) (by decide)
theorem dv10000 {w : Nat} (h : w < 2 ^ 31) : nI w / 10000 = nI (w / 10000) := pk_div (d := 10000) h (by decide) (by decide)
theorem rm10 {w : Nat} (h : w < 2 ^ 31) : nI w - nI w / 10 * 10 = nI (w % 10) := pk_rem (d := 10) h (by decide) (by decide)
theorem rm100 {w : Nat} (h : w < 2 ^ 31) : nI w - nI w / 100 * 100 = nI (w % 100) := pk_rem (d := 100) h (by decide) (by decide)
theorem n_le {a b : Nat} (ha : a < 2 ^ 31) (hb : b < 2 ^ 31) (h : nI a ≤ nI b) : a ≤ b := (nI_leI ha hb).mp h
theorem n_nle {a b : Nat} (ha : a < 2 ^ 31) (hb : b < 2 ^ 31) (h : ¬ nI a ≤ nI b) : b < a := Nat.lt_of_not_le (fun q => h ((nI_leI ha hb).mpr q))
theorem n_lt {a b : Nat} (ha : a < 2 ^ 31) (hb : b < 2 ^ 31) (h : nI a < nI b) : a < b := (nI_ltI ha hb).mp h
theorem n_nlt {a b : Nat} (ha : a < 2 ^ 31) (hb : b < 2 ^ 31) (h : ¬ nI a < nI b) : b ≤ a := Nat.le_of_not_lt (fun q => h ((nI_ltI ha hb).mpr q))
theorem n_eq {a b : Nat} (ha : a < 2 ^ 31) (hb : b < 2 ^ 31) (h : nI a = nI b) : a = b := (nI_eq ha hb).mp h
theorem n_ne {a b : Nat} (ha : a < 2 ^ 31) (hb : b < 2 ^ 31) (h : ¬ nI a = nI b) : a ≠ b := fun q => h ((nI_eq ha hb).mpr q)
theorem okWi_no {v : Int32} (h : bI (0 ≤ v ∧ v < 4000) = 0) : (0 : Int32) = bI (okWi v) := (bI_f (fun q => by
  have h1 := bI_0.mp h
  have h2 : v.toNatClampNeg < 4000 := q.2.1
  apply h1
  refine ⟨q.1, ?_⟩
  obtain ⟨j, hj, rfl⟩ := nI_of (x := v) (fun z => by have := q.1; rw [Int32.le_iff_toInt_le] at this; rw [Int32.lt_iff_toInt_lt] at z; omega)
  rw [i_cl hj] at h2
  exact nI_lt (b := 4000) h2 (by decide))).symm
theorem okTi_no {v : Int32} (h : bI (0 ≤ v ∧ v < 40000) = 0) : (0 : Int32) = bI (okTi v) := (bI_f (fun q => by
  have h1 := bI_0.mp h
  have h2 : v.toNatClampNeg < 40000 := q.2.1
  apply h1
  refine ⟨q.1, ?_⟩
  obtain ⟨j, hj, rfl⟩ := nI_of (x := v) (fun z => by have := q.1; rw [Int32.le_iff_toInt_le] at this; rw [Int32.lt_iff_toInt_lt] at z; omega)
  rw [i_cl hj] at h2
  exact nI_lt (b := 40000) h2 (by decide))).symm
theorem okWi_nI {w : Nat} (h : w < 2 ^ 31) : okWi (nI w) ↔ okW w := by
  unfold okWi
  rw [i_cl h]
  exact ⟨fun q => q.2, fun q => ⟨i_0le h, q⟩⟩
theorem okTi_nI {w : Nat} (h : w < 2 ^ 31) : okTi (nI w) ↔ okT w := by
  unfold okTi
  rw [i_cl h]
  exact ⟨fun q => q.2, fun q => ⟨i_0le h, q⟩⟩
/-- a branch's fields -/
def brf (w t r : Nat) : List Value := [.int (nI (w / 1000)), .int (nI (w / 100 % 10)), .int (nI (w % 100)), .int (nI (t / 10000)), .int (nI (t / 1000 % 10)), .int (nI (t / 100 % 10)), .int (nI (t % 100)), .int (nI r)]

set_option maxHeartbeats 4000000 in
set_option maxRecDepth 100000 in
theorem c_isCondition {l : Launch} {G : va_G} {cy : Nat → ClassId} {w : WT} {v : Int32} : RI l G cy w yX0_isCondition cX0_isCondition 1 (some .boolean) (rmN 1) [.int v] (bI (okWi v)) := by
  refine RI.mk (by decide) (by first | rfl | exact bI_nar) (Nat.le_of_ble_eq_true rfl) ?_
  intro jp je js jm below meth jc A Q X hW ret ls hl
  have jx := X.hx
  have jb := X.hb
  have hl : lv_has ls 1 [(0, .int v)] := hl
  have X : Cx G cy jp js jm _ jc cX0_isCondition 1 RX0 A js.heap := X
  refine lv_iload_n jx jb dX0_isCondition_0 rfl (lv_at hl 0 rfl) ?_
  refine lv_sipush (v := 4000) jx jb dX0_isCondition_1 (by decide) ?_
  refine w_rN (As := [.int v, .int 4000]) X hW (c_isBelow) mn_X0_43 mf_X8_isBelow ⟨Nat.le_of_ble_eq_true rfl, Nat.le_of_ble_eq_true rfl⟩ hl.1 rfl (Nat.le_of_ble_eq_true rfl) ⟨Nat.le_of_ble_eq_true rfl, Nat.le_of_ble_eq_true rfl⟩ dX0_isCondition_4 (fun H locs hW => ?_)
  refine lv_if_eq (tgt := 34) jx jb dX0_isCondition_7 (by decide) (fun c7 => ?_) (fun c7 => ?_)
  · refine lv_iconst (v := 0) jx jb dX0_isCondition_34 (by decide) ?_
    exact ret _ _ _ _ _ dX0_isCondition_35 hW (okWi_no c7)
  · obtain ⟨wn, hwn, ev⟩ := i_below (n := 4000) (by decide) (bI_n0.mp c7)
    refine lv_iload_n jx jb dX0_isCondition_10 rfl (lv_at hl 0 rfl) ?_
    refine lv_bipush (v := 100) jx jb dX0_isCondition_11 (by decide) ?_
    refine lv_idiv jx jb dX0_isCondition_13 (by decide) ?_
    refine lv_bipush (v := 10) jx jb dX0_isCondition_14 (by decide) ?_
    refine lv_irem jx jb dX0_isCondition_16 (by decide) ?_
    refine top_eq (y := nI (wn / 100 % 10)) (by rw [ev, dv100 (by omega), rm10 (by omega)]) ?_
    refine lv_iconst (v := 3) jx jb dX0_isCondition_17 (by decide) ?_
    refine lv_icmp_ge (tgt := 34) jx jb dX0_isCondition_18 (by decide) (fun c18 => ?_) (fun c18 => ?_)
    · refine lv_iconst (v := 0) jx jb dX0_isCondition_34 (by decide) ?_
      exact ret _ _ _ _ _ dX0_isCondition_35 hW (by rw [ev]; exact (bI_f (fun q => by have := ((okWi_nI (by omega)).mp q).2.1; have := n_le (a := 3) (by decide) (by omega) c18; omega)).symm)
    · refine lv_iload_n jx jb dX0_isCondition_21 rfl (lv_at hl 0 rfl) ?_
      refine lv_bipush (v := 100) jx jb dX0_isCondition_22 (by decide) ?_
      refine lv_irem jx jb dX0_isCondition_24 (by decide) ?_
      refine top_eq (y := nI (wn % 100)) (by rw [ev, rm100 (by omega)]) ?_
      refine lv_bipush (v := 16) jx jb dX0_isCondition_25 (by decide) ?_
      refine lv_icmp_ge (tgt := 34) jx jb dX0_isCondition_27 (by decide) (fun c27 => ?_) (fun c27 => ?_)
      · refine lv_iconst (v := 0) jx jb dX0_isCondition_34 (by decide) ?_
        exact ret _ _ _ _ _ dX0_isCondition_35 hW (by rw [ev]; exact (bI_f (fun q => by have := ((okWi_nI (by omega)).mp q).2.2; have := n_le (a := 16) (by decide) (by omega) c27; omega)).symm)
      · refine lv_iconst (v := 1) jx jb dX0_isCondition_30 (by decide) ?_
        refine lv_goto (tgt := 35) jx jb dX0_isCondition_31 (by decide) ?_
        exact ret _ _ _ _ _ dX0_isCondition_35 hW (by rw [ev]; exact (bI_t ((okWi_nI (by omega)).mpr ⟨hwn, by have := n_nle (a := 3) (by decide) (by omega) c18; omega, by have := n_nle (a := 16) (by decide) (by omega) c27; omega⟩)).symm)

set_option maxHeartbeats 4000000 in
set_option maxRecDepth 100000 in
theorem c_isEffect {l : Launch} {G : va_G} {cy : Nat → ClassId} {w : WT} {v : Int32} : RI l G cy w yX0_isEffect cX0_isEffect 1 (some .boolean) (rmN 1) [.int v] (bI (okTi v)) := by
  refine RI.mk (by decide) (by first | rfl | exact bI_nar) (Nat.le_of_ble_eq_true rfl) ?_
  intro jp je js jm below meth jc A Q X hW ret ls hl
  have jx := X.hx
  have jb := X.hb
  have hl : lv_has ls 1 [(0, .int v)] := hl
  have X : Cx G cy jp js jm _ jc cX0_isEffect 1 RX0 A js.heap := X
  refine lv_iload_n jx jb dX0_isEffect_0 rfl (lv_at hl 0 rfl) ?_
  refine lv_ldc (v := 40000) jx jb X.1.2.2.2.1 (X.ht cs_X0_47) dX0_isEffect_1 ?_
  refine w_rN (As := [.int v, .int 40000]) X hW (c_isBelow) mn_X0_43 mf_X8_isBelow ⟨Nat.le_of_ble_eq_true rfl, Nat.le_of_ble_eq_true rfl⟩ hl.1 rfl (Nat.le_of_ble_eq_true rfl) ⟨Nat.le_of_ble_eq_true rfl, Nat.le_of_ble_eq_true rfl⟩ dX0_isEffect_3 (fun H locs hW => ?_)
  refine lv_if_eq (tgt := 22) jx jb dX0_isEffect_6 (by decide) (fun c6 => ?_) (fun c6 => ?_)
  · refine lv_iconst (v := 0) jx jb dX0_isEffect_22 (by decide) ?_
    exact ret _ _ _ _ _ dX0_isEffect_23 hW (okTi_no c6)
  · obtain ⟨wn, hwn, ev⟩ := i_below (n := 40000) (by decide) (bI_n0.mp c6)
    refine lv_iload_n jx jb dX0_isEffect_9 rfl (lv_at hl 0 rfl) ?_
    refine lv_bipush (v := 100) jx jb dX0_isEffect_10 (by decide) ?_
    refine lv_irem jx jb dX0_isEffect_12 (by decide) ?_
    refine top_eq (y := nI (wn % 100)) (by rw [ev, rm100 (by omega)]) ?_
    refine lv_bipush (v := 16) jx jb dX0_isEffect_13 (by decide) ?_
    refine lv_icmp_ge (tgt := 22) jx jb dX0_isEffect_15 (by decide) (fun c15 => ?_) (fun c15 => ?_)
    · refine lv_iconst (v := 0) jx jb dX0_isEffect_22 (by decide) ?_
      exact ret _ _ _ _ _ dX0_isEffect_23 hW (by rw [ev]; exact (bI_f (fun q => by have := ((okTi_nI (by omega)).mp q).2; have := n_le (a := 16) (by decide) (by omega) c15; omega)).symm)
    · refine lv_iconst (v := 1) jx jb dX0_isEffect_18 (by decide) ?_
      refine lv_goto (tgt := 23) jx jb dX0_isEffect_19 (by decide) ?_
      exact ret _ _ _ _ _ dX0_isEffect_23 hW (by rw [ev]; exact (bI_t ((okTi_nI (by omega)).mpr ⟨hwn, by have := n_nle (a := 16) (by decide) (by omega) c15; omega⟩)).symm)

set_option maxHeartbeats 4000000 in
set_option maxRecDepth 100000 in
theorem c_canBe {l : Launch} {G : va_G} {cy : Nat → ClassId} {w : WT} {a b r : Int32} : RI l G cy w yX0_canBe cX0_canBe 3 (some .boolean) (rmN 2) [.int a, .int b, .int r] (bI (okWi a ∧ okTi b ∧ 0 ≤ r ∧ r < 4)) := by
  refine RI.mk (by decide) (by first | rfl | exact bI_nar) (Nat.le_of_ble_eq_true rfl) ?_
  intro jp je js jm below meth jc A Q X hW ret ls hl
  have jx := X.hx
  have jb := X.hb
  have hl : lv_has ls 3 [(0, .int a), (1, .int b), (2, .int r)] := hl
  have X : Cx G cy jp js jm _ jc cX0_canBe 3 RX0 A js.heap := X
  refine lv_iload_n jx jb dX0_canBe_0 rfl (lv_at hl 0 rfl) ?_
  refine w_rS (As := [.int a]) X hW (c_isCondition) ml_X0_36 mf_X0_isCondition ⟨Nat.le_of_ble_eq_true rfl, Nat.le_of_ble_eq_true rfl⟩ hl.1 rfl (Nat.le_of_ble_eq_true rfl) ⟨Nat.le_of_ble_eq_true rfl, Nat.le_of_ble_eq_true rfl⟩ dX0_canBe_1 (fun H locs hW => ?_)
  refine lv_if_eq (tgt := 26) jx jb dX0_canBe_4 (by decide) (fun c4 => ?_) (fun c4 => ?_)
  · refine lv_iconst (v := 0) jx jb dX0_canBe_26 (by decide) ?_
    exact ret _ _ _ _ _ dX0_canBe_27 hW (bI_f (fun q => bI_0.mp c4 q.1)).symm
  · refine lv_iload_n jx jb dX0_canBe_7 rfl (lv_at hl 1 rfl) ?_
    refine w_rS (As := [.int b]) X hW (c_isEffect) ml_X0_40 mf_X0_isEffect ⟨Nat.le_of_ble_eq_true rfl, Nat.le_of_ble_eq_true rfl⟩ hl.1 rfl (Nat.le_of_ble_eq_true rfl) ⟨Nat.le_of_ble_eq_true rfl, Nat.le_of_ble_eq_true rfl⟩ dX0_canBe_8 (fun H locs hW => ?_)
    refine lv_if_eq (tgt := 26) jx jb dX0_canBe_11 (by decide) (fun c11 => ?_) (fun c11 => ?_)
    · refine lv_iconst (v := 0) jx jb dX0_canBe_26 (by decide) ?_
      exact ret _ _ _ _ _ dX0_canBe_27 hW (bI_f (fun q => bI_0.mp c11 q.2.1)).symm
    · refine lv_iload_n jx jb dX0_canBe_14 rfl (lv_at hl 2 rfl) ?_
      refine lv_iconst (v := 4) jx jb dX0_canBe_15 (by decide) ?_
      refine w_rN (As := [.int r, .int 4]) X hW (c_isBelow) mn_X0_43 mf_X8_isBelow ⟨Nat.le_of_ble_eq_true rfl, Nat.le_of_ble_eq_true rfl⟩ hl.1 rfl (Nat.le_of_ble_eq_true rfl) ⟨Nat.le_of_ble_eq_true rfl, Nat.le_of_ble_eq_true rfl⟩ dX0_canBe_16 (fun H locs hW => ?_)
      refine lv_if_eq (tgt := 26) jx jb dX0_canBe_19 (by decide) (fun c19 => ?_) (fun c19 => ?_)
      · refine lv_iconst (v := 0) jx jb dX0_canBe_26 (by decide) ?_
        exact ret _ _ _ _ _ dX0_canBe_27 hW (bI_f (fun q => bI_0.mp c19 q.2.2)).symm
      · refine lv_iconst (v := 1) jx jb dX0_canBe_22 (by decide) ?_
        refine lv_goto (tgt := 27) jx jb dX0_canBe_23 (by decide) ?_
        exact ret _ _ _ _ _ dX0_canBe_27 hW (bI_t ⟨bI_n0.mp c4, bI_n0.mp c11, bI_n0.mp c19⟩).symm

set_option maxHeartbeats 4000000 in
set_option maxRecDepth 100000 in
theorem c_holds {l : Launch} {G : va_G} {cy : Nat → ClassId} {N : Nat} {ad : Nat → Nat} {g : Nat → va_E} {n w t r st : Nat} (hn : n < N) (hg : g n = .inr (0, brf w t r)) (hw : okW w) (hs : st < 65536) : RI l G cy (N, ad, g) yX0_holds cX0_holds 3 (some .boolean) (rmN 1) [.ref (ad n), .int (nI st)] (bI (hold w st = true)) := by
  refine RI.mk (by decide) (by first | rfl | exact bI_nar) (Nat.le_of_ble_eq_true rfl) ?_
  intro jp je js jm below meth jc A Q X hW ret ls hl
  have jx := X.hx
  have jb := X.hb
  have hl : lv_has ls 3 [(0, .ref (ad n)), (1, .int (nI st))] := hl
  have X : Cx G cy jp js jm _ jc cX0_holds 3 RX0 A js.heap := X
  refine lv_iload_n jx jb dX0_holds_0 rfl (lv_at hl 1 rfl) ?_
  refine lv_aload_n jx jb dX0_holds_1 rfl (lv_at hl 0 rfl) ?_
  refine w_get X hW K0 hn hg 0 (by decide) fl_X0_9 rfl dX0_holds_2 ?_
  refine w_rN (As := [.int (nI st), .int (nI (w / 1000))]) X hW (c_valueIn hs (by omega)) mn_X0_48 mf_X8_valueIn ⟨Nat.le_of_ble_eq_true rfl, Nat.le_of_ble_eq_true rfl⟩ hl.1 rfl (Nat.le_of_ble_eq_true rfl) ⟨Nat.le_of_ble_eq_true rfl, Nat.le_of_ble_eq_true rfl⟩ dX0_holds_5 (fun H locs hW => ?_)
  refine lv_istore_n (lv' := [(2, .int (nI (nib st (w / 1000)))), (0, .ref (ad n)), (1, .int (nI st))]) jx jb dX0_holds_8 rfl hl (by decide) rfl (fun ls hl => ?_)
  refine lv_aload_n jx jb dX0_holds_9 rfl (lv_at hl 1 rfl) ?_
  refine w_get X hW K0 hn hg 1 (by decide) fl_X0_15 rfl dX0_holds_10 ?_
  refine lv_if_ne (tgt := 30) jx jb dX0_holds_13 (by decide) (fun c13 => ?_) (fun c13 => ?_)
  · refine lv_aload_n jx jb dX0_holds_30 rfl (lv_at hl 1 rfl) ?_
    refine w_get X hW K0 hn hg 1 (by decide) fl_X0_15 rfl dX0_holds_31 ?_
    refine lv_iconst (v := 1) jx jb dX0_holds_34 (by decide) ?_
    refine lv_icmp_ne (tgt := 54) jx jb dX0_holds_35 (by decide) (fun c35 => ?_) (fun c35 => ?_)
    · refine lv_iload_n jx jb dX0_holds_54 rfl (lv_at hl 0 rfl) ?_
      refine lv_aload_n jx jb dX0_holds_55 rfl (lv_at hl 1 rfl) ?_
      refine w_get X hW K0 hn hg 2 (by decide) fl_X0_18 rfl dX0_holds_56 ?_
      refine lv_icmp_le (tgt := 66) jx jb dX0_holds_59 (by decide) (fun c59 => ?_) (fun c59 => ?_)
      · refine lv_iconst (v := 0) jx jb dX0_holds_66 (by decide) ?_
        exact ret _ _ _ _ _ dX0_holds_67 hW (by have h0 : w / 100 % 10 ≠ 0 := n_ne (b := 0) (by omega) (by decide) c13; have h1 : w / 100 % 10 ≠ 1 := n_ne (b := 1) (by omega) (by decide) c35; have hnb := nib_lt st (w / 1000); have := n_le (by omega) (by omega) c59; rw [bI_f (by simp [hold, h0, h1]; omega)])
      · refine lv_iconst (v := 1) jx jb dX0_holds_62 (by decide) ?_
        refine lv_goto (tgt := 67) jx jb dX0_holds_63 (by decide) ?_
        exact ret _ _ _ _ _ dX0_holds_67 hW (by have h0 : w / 100 % 10 ≠ 0 := n_ne (b := 0) (by omega) (by decide) c13; have h1 : w / 100 % 10 ≠ 1 := n_ne (b := 1) (by omega) (by decide) c35; have hnb := nib_lt st (w / 1000); have := n_nle (by omega) (by omega) c59; rw [bI_t (by simp [hold, h0, h1]; omega)])
    · refine lv_iload_n jx jb dX0_holds_38 rfl (lv_at hl 0 rfl) ?_
      refine lv_aload_n jx jb dX0_holds_39 rfl (lv_at hl 1 rfl) ?_
      refine w_get X hW K0 hn hg 2 (by decide) fl_X0_18 rfl dX0_holds_40 ?_
      refine lv_icmp_ne (tgt := 50) jx jb dX0_holds_43 (by decide) (fun c43 => ?_) (fun c43 => ?_)
      · refine lv_iconst (v := 0) jx jb dX0_holds_50 (by decide) ?_
        refine lv_goto (tgt := 67) jx jb dX0_holds_51 (by decide) ?_
        exact ret _ _ _ _ _ dX0_holds_67 hW (by have h0 : w / 100 % 10 ≠ 0 := n_ne (b := 0) (by omega) (by decide) c13; have h1 : w / 100 % 10 = 1 := n_eq (b := 1) (by omega) (by decide) c35; have hnb := nib_lt st (w / 1000); have := n_ne (by omega) (by omega) c43; rw [bI_f (by simp [hold, h1]; omega)])
      · refine lv_iconst (v := 1) jx jb dX0_holds_46 (by decide) ?_
        refine lv_goto (tgt := 67) jx jb dX0_holds_47 (by decide) ?_
        exact ret _ _ _ _ _ dX0_holds_67 hW (by have h0 : w / 100 % 10 ≠ 0 := n_ne (b := 0) (by omega) (by decide) c13; have h1 : w / 100 % 10 = 1 := n_eq (b := 1) (by omega) (by decide) c35; have hnb := nib_lt st (w / 1000); have := n_eq (by omega) (by omega) c43; rw [bI_t (by simp [hold, h1]; omega)])
  · refine lv_iload_n jx jb dX0_holds_16 rfl (lv_at hl 0 rfl) ?_
    refine lv_aload_n jx jb dX0_holds_17 rfl (lv_at hl 1 rfl) ?_
    refine w_get X hW K0 hn hg 2 (by decide) fl_X0_18 rfl dX0_holds_18 ?_
    refine lv_icmp_ge (tgt := 28) jx jb dX0_holds_21 (by decide) (fun c21 => ?_) (fun c21 => ?_)
    · refine lv_iconst (v := 0) jx jb dX0_holds_28 (by decide) ?_
      exact ret _ _ _ _ _ dX0_holds_29 hW (by have h0 : w / 100 % 10 = 0 := n_eq (b := 0) (by omega) (by decide) c13; have hnb := nib_lt st (w / 1000); have := n_le (by omega) (by omega) c21; rw [bI_f (by simp [hold, h0]; omega)])
    · refine lv_iconst (v := 1) jx jb dX0_holds_24 (by decide) ?_
      refine lv_goto (tgt := 29) jx jb dX0_holds_25 (by decide) ?_
      exact ret _ _ _ _ _ dX0_holds_29 hW (by have h0 : w / 100 % 10 = 0 := n_eq (b := 0) (by omega) (by decide) c13; have hnb := nib_lt st (w / 1000); have := n_nle (by omega) (by omega) c21; rw [bI_t (by simp [hold, h0]; omega)])

theorem efn_lt {t st num : Nat} (ht : okT t) (hn : num < 16) : efn t st num < 65536 := by
  unfold efn
  have h1 := nib_lt st (t / 10000)
  have h2 : t / 1000 % 10 * nib st (t / 10000) ≤ 9 * 15 := Nat.mul_le_mul (by omega) (by omega)
  have h3 : t / 100 % 10 * num ≤ 9 * 15 := Nat.mul_le_mul (by omega) (by omega)
  omega

set_option maxHeartbeats 4000000 in
set_option maxRecDepth 100000 in
theorem c_brStateBehind {l : Launch} {G : va_G} {cy : Nat → ClassId} {N : Nat} {ad : Nat → Nat} {g : Nat → va_E} {n w t r st num : Nat} (hn : n < N) (hg : g n = .inr (0, brf w t r)) (ht : okT t) (hs : st < 65536) (hnum : num < 16) : RI l G cy (N, ad, g) yX0_stateBehind cX0_stateBehind 4 (some .int) (rmN 1) [.ref (ad n), .int (nI st), .int (nI num)] (nI (setn st (t / 10000) (efn t st num % 16))) := by
  refine RI.mk (by decide) (by first | rfl | exact bI_nar) (Nat.le_of_ble_eq_true rfl) ?_
  intro jp je js jm below meth jc A Q X hW ret ls hl
  have jx := X.hx
  have jb := X.hb
  have hl : lv_has ls 4 [(0, .ref (ad n)), (1, .int (nI st)), (2, .int (nI num))] := hl
  have X : Cx G cy jp js jm _ jc cX0_stateBehind 4 RX0 A js.heap := X
  have hef := efn_lt (st := st) ht hnum
  refine lv_iload_n jx jb dX0_stateBehind_0 rfl (lv_at hl 1 rfl) ?_
  refine lv_aload_n jx jb dX0_stateBehind_1 rfl (lv_at hl 0 rfl) ?_
  refine w_get X hW K0 hn hg 3 (by decide) fl_X0_21 rfl dX0_stateBehind_2 ?_
  refine w_rN (As := [.int (nI st), .int (nI (t / 10000))]) X hW (c_valueIn hs (by omega)) mn_X0_48 mf_X8_valueIn ⟨Nat.le_of_ble_eq_true rfl, Nat.le_of_ble_eq_true rfl⟩ hl.1 rfl (Nat.le_of_ble_eq_true rfl) ⟨Nat.le_of_ble_eq_true rfl, Nat.le_of_ble_eq_true rfl⟩ dX0_stateBehind_5 (fun H locs hW => ?_)
  refine lv_istore_n (lv' := [(3, .int (nI (nib st (t / 10000)))), (0, .ref (ad n)), (1, .int (nI st)), (2, .int (nI num))]) jx jb dX0_stateBehind_8 rfl hl (by decide) rfl (fun ls hl => ?_)
  refine lv_iload_n jx jb dX0_stateBehind_9 rfl (lv_at hl 2 rfl) ?_
  refine lv_aload_n jx jb dX0_stateBehind_10 rfl (lv_at hl 1 rfl) ?_
  refine w_get X hW K0 hn hg 3 (by decide) fl_X0_21 rfl dX0_stateBehind_11 ?_
  refine lv_aload_n jx jb dX0_stateBehind_14 rfl (lv_at hl 1 rfl) ?_
  refine w_get X hW K0 hn hg 4 (by decide) fl_X0_24 rfl dX0_stateBehind_15 ?_
  refine lv_iload_n jx jb dX0_stateBehind_18 rfl (lv_at hl 0 rfl) ?_
  refine lv_imul jx jb dX0_stateBehind_19 ?_
  refine lv_aload_n jx jb dX0_stateBehind_20 rfl (lv_at hl 1 rfl) ?_
  refine w_get X hW K0 hn hg 5 (by decide) fl_X0_27 rfl dX0_stateBehind_21 ?_
  refine lv_iload_n jx jb dX0_stateBehind_24 rfl (lv_at hl 3 rfl) ?_
  refine lv_imul jx jb dX0_stateBehind_25 ?_
  refine lv_iadd jx jb dX0_stateBehind_26 ?_
  refine lv_aload_n jx jb dX0_stateBehind_27 rfl (lv_at hl 1 rfl) ?_
  refine w_get X hW K0 hn hg 6 (by decide) fl_X0_30 rfl dX0_stateBehind_28 ?_
  refine lv_iadd jx jb dX0_stateBehind_31 ?_
  refine top_eq (y := nI (efn t st num)) (by rw [pk_mul, pk_mul, nI_add, nI_add]; rfl) ?_
  refine w_rN (As := [.int (nI st), .int (nI (t / 10000)), .int (nI (efn t st num))]) X hW (c_withValue hs (by omega) hef) mn_X0_52 mf_X8_withValue ⟨Nat.le_of_ble_eq_true rfl, Nat.le_of_ble_eq_true rfl⟩ hl.1 rfl (Nat.le_of_ble_eq_true rfl) ⟨Nat.le_of_ble_eq_true rfl, Nat.le_of_ble_eq_true rfl⟩ dX0_stateBehind_32 (fun H locs hW => ?_)
  exact ret _ _ _ _ _ dX0_stateBehind_35 hW rfl

set_option maxHeartbeats 4000000 in
set_option maxRecDepth 100000 in
theorem c_resultIn {l : Launch} {G : va_G} {cy : Nat → ClassId} {N : Nat} {ad : Nat → Nat} {g : Nat → va_E} {n w t r st : Nat} (hn : n < N) (hg : g n = .inr (0, brf w t r)) (hr : r < 4) (hs : st < 65536) : RI l G cy (N, ad, g) yX0_resultIn cX0_resultIn 2 (some .int) (rmN 1) [.ref (ad n), .int (nI st)] (nI (nib st r)) := by
  refine RI.mk (by decide) (by first | rfl | exact bI_nar) (Nat.le_of_ble_eq_true rfl) ?_
  intro jp je js jm below meth jc A Q X hW ret ls hl
  have jx := X.hx
  have jb := X.hb
  have hl : lv_has ls 2 [(0, .ref (ad n)), (1, .int (nI st))] := hl
  have X : Cx G cy jp js jm _ jc cX0_resultIn 2 RX0 A js.heap := X
  refine lv_iload_n jx jb dX0_resultIn_0 rfl (lv_at hl 1 rfl) ?_
  refine lv_aload_n jx jb dX0_resultIn_1 rfl (lv_at hl 0 rfl) ?_
  refine w_get X hW K0 hn hg 7 (by decide) fl_X0_33 rfl dX0_resultIn_2 ?_
  refine w_rN (As := [.int (nI st), .int (nI r)]) X hW (c_valueIn hs hr) mn_X0_48 mf_X8_valueIn ⟨Nat.le_of_ble_eq_true rfl, Nat.le_of_ble_eq_true rfl⟩ hl.1 rfl (Nat.le_of_ble_eq_true rfl) ⟨Nat.le_of_ble_eq_true rfl, Nat.le_of_ble_eq_true rfl⟩ dX0_resultIn_5 (fun H locs hW => ?_)
  exact ret _ _ _ _ _ dX0_resultIn_8 hW rfl

set_option maxHeartbeats 4000000 in
set_option maxRecDepth 100000 in
theorem c_Branch_init {l : Launch} {G : va_G} {cy : Nat → ClassId} {N : Nat} {ad : Nat → Nat} {g : Nat → va_E} {n w t r : Nat} (hn : n < N) (hg : g n = .inr (0, [.int 0, .int 0, .int 0, .int 0, .int 0, .int 0, .int 0, .int 0])) (hw : okW w) (ht : okT t) : MV l G cy (N, ad, g) yX0_init cX0_init 4 none (rmA 1 0 0) [.ref (ad n), .int (nI w), .int (nI t), .int (nI r)] (nV N ad (fun g1 => g1 n = .inr (0, brf w t r) ∧ Fr g g1 [n])) := by
  refine MV.mk (by decide) (Nat.le_of_ble_eq_true rfl) ?_
  intro jp je js jm below meth jc A Q hin X hW ret ls hl
  have jx := X.hx
  have jb := X.hb
  have hl : lv_has ls 4 [(0, .ref (ad n)), (1, .int (nI w)), (2, .int (nI t)), (3, .int (nI r))] := hl
  have X : Cx G cy jp js jm _ jc cX0_init 4 RX0 A js.heap := X
  refine lv_aload_n jx jb dX0_init_0 rfl (lv_at hl 0 rfl) ?_
  refine W.objInit jx jb X.1.2.2.2.1 (X.ht ml_X0_3) (X.ht im_objectInit) (X.ht co_objectInit) rfl (by rw [X.1.2.2.1]; exact hl.1) rfl dX0_init_1 (Nat.le_of_ble_eq_true rfl) (Nat.le_of_ble_eq_true rfl) ?_
  refine W.eq (g2 := F0 jm 4 ls []) rfl ?_
  refine lv_aload_n jx jb dX0_init_4 rfl (lv_at hl 0 rfl) ?_
  refine lv_iload_n jx jb dX0_init_5 rfl (lv_at hl 1 rfl) ?_
  refine lv_sipush (v := 1000) jx jb dX0_init_6 (by decide) ?_
  refine lv_idiv jx jb dX0_init_9 (by decide) ?_
  refine top_eq (y := nI (w / 1000)) (dv1000 (by omega)) ?_
  refine w_putF X hW K0 hn hg 0 (by decide) fl_X0_9 rfl hin rfl rfl rfl (Nat.le_of_ble_eq_true rfl) dX0_init_10 (fun H locs hW => ?_)
  obtain ⟨g_1, eg_1⟩ : ∃ zz, zz = va_up g n (.inr (0, [.int (nI (w / 1000)), .int 0, .int 0, .int 0, .int 0, .int 0, .int 0, .int 0])) := ⟨_, rfl⟩
  have hW : Wd G A js.heap (N, ad, g_1) H locs := by rw [eg_1]; exact hW
  have hf2 : g_1 n = .inr (0, [.int (nI (w / 1000)), .int 0, .int 0, .int 0, .int 0, .int 0, .int 0, .int 0]) := by rw [eg_1]; exact va_up_s
  refine lv_aload_n jx jb dX0_init_13 rfl (lv_at hl 0 rfl) ?_
  refine lv_iload_n jx jb dX0_init_14 rfl (lv_at hl 1 rfl) ?_
  refine lv_bipush (v := 100) jx jb dX0_init_15 (by decide) ?_
  refine lv_idiv jx jb dX0_init_17 (by decide) ?_
  refine lv_bipush (v := 10) jx jb dX0_init_18 (by decide) ?_
  refine lv_irem jx jb dX0_init_20 (by decide) ?_
  refine top_eq (y := nI (w / 100 % 10)) (by rw [dv100 (by omega), rm10 (by omega)]) ?_
  refine w_putF X hW K0 hn hf2 1 (by decide) fl_X0_15 rfl hin rfl rfl rfl (Nat.le_of_ble_eq_true rfl) dX0_init_21 (fun H locs hW => ?_)
  obtain ⟨g_3, eg_3⟩ : ∃ zz, zz = va_up g_1 n (.inr (0, [.int (nI (w / 1000)), .int (nI (w / 100 % 10)), .int 0, .int 0, .int 0, .int 0, .int 0, .int 0])) := ⟨_, rfl⟩
  have hW : Wd G A js.heap (N, ad, g_3) H locs := by rw [eg_3]; exact hW
  have hf4 : g_3 n = .inr (0, [.int (nI (w / 1000)), .int (nI (w / 100 % 10)), .int 0, .int 0, .int 0, .int 0, .int 0, .int 0]) := by rw [eg_3]; exact va_up_s
  refine lv_aload_n jx jb dX0_init_24 rfl (lv_at hl 0 rfl) ?_
  refine lv_iload_n jx jb dX0_init_25 rfl (lv_at hl 1 rfl) ?_
  refine lv_bipush (v := 100) jx jb dX0_init_26 (by decide) ?_
  refine lv_irem jx jb dX0_init_28 (by decide) ?_
  refine top_eq (y := nI (w % 100)) (rm100 (by omega)) ?_
  refine w_putF X hW K0 hn hf4 2 (by decide) fl_X0_18 rfl hin rfl rfl rfl (Nat.le_of_ble_eq_true rfl) dX0_init_29 (fun H locs hW => ?_)
  obtain ⟨g_5, eg_5⟩ : ∃ zz, zz = va_up g_3 n (.inr (0, [.int (nI (w / 1000)), .int (nI (w / 100 % 10)), .int (nI (w % 100)), .int 0, .int 0, .int 0, .int 0, .int 0])) := ⟨_, rfl⟩
  have hW : Wd G A js.heap (N, ad, g_5) H locs := by rw [eg_5]; exact hW
  have hf6 : g_5 n = .inr (0, [.int (nI (w / 1000)), .int (nI (w / 100 % 10)), .int (nI (w % 100)), .int 0, .int 0, .int 0, .int 0, .int 0]) := by rw [eg_5]; exact va_up_s
  refine lv_aload_n jx jb dX0_init_32 rfl (lv_at hl 0 rfl) ?_
  refine lv_iload_n jx jb dX0_init_33 rfl (lv_at hl 2 rfl) ?_
  refine lv_sipush (v := 10000) jx jb dX0_init_34 (by decide) ?_
  refine lv_idiv jx jb dX0_init_37 (by decide) ?_
  refine top_eq (y := nI (t / 10000)) (dv10000 (by omega)) ?_
  refine w_putF X hW K0 hn hf6 3 (by decide) fl_X0_21 rfl hin rfl rfl rfl (Nat.le_of_ble_eq_true rfl) dX0_init_38 (fun H locs hW => ?_)
  obtain ⟨g_7, eg_7⟩ : ∃ zz, zz = va_up g_5 n (.inr (0, [.int (nI (w / 1000)), .int (nI (w / 100 % 10)), .int (nI (w % 100)), .int (nI (t / 10000)), .int 0, .int 0, .int 0, .int 0])) := ⟨_, rfl⟩
  have hW : Wd G A js.heap (N, ad, g_7) H locs := by rw [eg_7]; exact hW
  have hf8 : g_7 n = .inr (0, [.int (nI (w / 1000)), .int (nI (w / 100 % 10)), .int (nI (w % 100)), .int (nI (t / 10000)), .int 0, .int 0, .int 0, .int 0]) := by rw [eg_7]; exact va_up_s
  refine lv_aload_n jx jb dX0_init_41 rfl (lv_at hl 0 rfl) ?_
  refine lv_iload_n jx jb dX0_init_42 rfl (lv_at hl 2 rfl) ?_
  refine lv_sipush (v := 1000) jx jb dX0_init_43 (by decide) ?_
  refine lv_idiv jx jb dX0_init_46 (by decide) ?_
  refine lv_bipush (v := 10) jx jb dX0_init_47 (by decide) ?_
  refine lv_irem jx jb dX0_init_49 (by decide) ?_
  refine top_eq (y := nI (t / 1000 % 10)) (by rw [dv1000 (by omega), rm10 (by omega)]) ?_
  refine w_putF X hW K0 hn hf8 4 (by decide) fl_X0_24 rfl hin rfl rfl rfl (Nat.le_of_ble_eq_true rfl) dX0_init_50 (fun H locs hW => ?_)
  obtain ⟨g_9, eg_9⟩ : ∃ zz, zz = va_up g_7 n (.inr (0, [.int (nI (w / 1000)), .int (nI (w / 100 % 10)), .int (nI (w % 100)), .int (nI (t / 10000)), .int (nI (t / 1000 % 10)), .int 0, .int 0, .int 0])) := ⟨_, rfl⟩
  have hW : Wd G A js.heap (N, ad, g_9) H locs := by rw [eg_9]; exact hW
  have hf10 : g_9 n = .inr (0, [.int (nI (w / 1000)), .int (nI (w / 100 % 10)), .int (nI (w % 100)), .int (nI (t / 10000)), .int (nI (t / 1000 % 10)), .int 0, .int 0, .int 0]) := by rw [eg_9]; exact va_up_s
  refine lv_aload_n jx jb dX0_init_53 rfl (lv_at hl 0 rfl) ?_
  refine lv_iload_n jx jb dX0_init_54 rfl (lv_at hl 2 rfl) ?_
  refine lv_bipush (v := 100) jx jb dX0_init_55 (by decide) ?_
  refine lv_idiv jx jb dX0_init_57 (by decide) ?_
  refine lv_bipush (v := 10) jx jb dX0_init_58 (by decide) ?_
  refine lv_irem jx jb dX0_init_60 (by decide) ?_
  refine top_eq (y := nI (t / 100 % 10)) (by rw [dv100 (by omega), rm10 (by omega)]) ?_
  refine w_putF X hW K0 hn hf10 5 (by decide) fl_X0_27 rfl hin rfl rfl rfl (Nat.le_of_ble_eq_true rfl) dX0_init_61 (fun H locs hW => ?_)
  obtain ⟨g_11, eg_11⟩ : ∃ zz, zz = va_up g_9 n (.inr (0, [.int (nI (w / 1000)), .int (nI (w / 100 % 10)), .int (nI (w % 100)), .int (nI (t / 10000)), .int (nI (t / 1000 % 10)), .int (nI (t / 100 % 10)), .int 0, .int 0])) := ⟨_, rfl⟩
  have hW : Wd G A js.heap (N, ad, g_11) H locs := by rw [eg_11]; exact hW
  have hf12 : g_11 n = .inr (0, [.int (nI (w / 1000)), .int (nI (w / 100 % 10)), .int (nI (w % 100)), .int (nI (t / 10000)), .int (nI (t / 1000 % 10)), .int (nI (t / 100 % 10)), .int 0, .int 0]) := by rw [eg_11]; exact va_up_s
  refine lv_aload_n jx jb dX0_init_64 rfl (lv_at hl 0 rfl) ?_
  refine lv_iload_n jx jb dX0_init_65 rfl (lv_at hl 2 rfl) ?_
  refine lv_bipush (v := 100) jx jb dX0_init_66 (by decide) ?_
  refine lv_irem jx jb dX0_init_68 (by decide) ?_
  refine top_eq (y := nI (t % 100)) (rm100 (by omega)) ?_
  refine w_putF X hW K0 hn hf12 6 (by decide) fl_X0_30 rfl hin rfl rfl rfl (Nat.le_of_ble_eq_true rfl) dX0_init_69 (fun H locs hW => ?_)
  obtain ⟨g_13, eg_13⟩ : ∃ zz, zz = va_up g_11 n (.inr (0, [.int (nI (w / 1000)), .int (nI (w / 100 % 10)), .int (nI (w % 100)), .int (nI (t / 10000)), .int (nI (t / 1000 % 10)), .int (nI (t / 100 % 10)), .int (nI (t % 100)), .int 0])) := ⟨_, rfl⟩
  have hW : Wd G A js.heap (N, ad, g_13) H locs := by rw [eg_13]; exact hW
  have hf14 : g_13 n = .inr (0, [.int (nI (w / 1000)), .int (nI (w / 100 % 10)), .int (nI (w % 100)), .int (nI (t / 10000)), .int (nI (t / 1000 % 10)), .int (nI (t / 100 % 10)), .int (nI (t % 100)), .int 0]) := by rw [eg_13]; exact va_up_s
  refine lv_aload_n jx jb dX0_init_72 rfl (lv_at hl 0 rfl) ?_
  refine lv_iload_n jx jb dX0_init_73 rfl (lv_at hl 3 rfl) ?_
  refine w_putF X hW K0 hn hf14 7 (by decide) fl_X0_33 rfl hin rfl rfl rfl (Nat.le_of_ble_eq_true rfl) dX0_init_74 (fun H locs hW => ?_)
  obtain ⟨g_15, eg_15⟩ : ∃ zz, zz = va_up g_13 n (.inr (0, [.int (nI (w / 1000)), .int (nI (w / 100 % 10)), .int (nI (w % 100)), .int (nI (t / 10000)), .int (nI (t / 1000 % 10)), .int (nI (t / 100 % 10)), .int (nI (t % 100)), .int (nI r)])) := ⟨_, rfl⟩
  have hW : Wd G A js.heap (N, ad, g_15) H locs := by rw [eg_15]; exact hW
  have hf16 : g_15 n = .inr (0, [.int (nI (w / 1000)), .int (nI (w / 100 % 10)), .int (nI (w % 100)), .int (nI (t / 10000)), .int (nI (t / 1000 % 10)), .int (nI (t / 100 % 10)), .int (nI (t % 100)), .int (nI r)]) := by rw [eg_15]; exact va_up_s
  exact ret _ _ _ _ _ dX0_init_77 hW ⟨rfl, rfl, hf16, (fun k hk => by show g_15 k = _; simp only [List.mem_cons, List.not_mem_nil, or_false, not_or] at hk; rw [eg_15, va_up_n (by omega), eg_13, va_up_n (by omega), eg_11, va_up_n (by omega), eg_9, va_up_n (by omega), eg_7, va_up_n (by omega), eg_5, va_up_n (by omega), eg_3, va_up_n (by omega), eg_1, va_up_n (by omega)])⟩
