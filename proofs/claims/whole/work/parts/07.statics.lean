/-- what is the same in two worlds, but for some cells -/
def Fr (g g' : Nat → va_E) (L : List Nat) : Prop := ∀ k, k ∉ L → g' k = g k
theorem bel_a {v lim : Int32} (h : v < 0) : (0 : Int32) = bI (0 ≤ v ∧ v < lim) := (bI_f (fun q => by
  have := q.1
  rw [Int32.le_iff_toInt_le] at this
  rw [Int32.lt_iff_toInt_lt] at h
  omega)).symm
theorem bel_b {v lim : Int32} (h : lim ≤ v) : (0 : Int32) = bI (0 ≤ v ∧ v < lim) := (bI_f (fun q => by
  have := q.2
  rw [Int32.le_iff_toInt_le] at h
  rw [Int32.lt_iff_toInt_lt] at this
  omega)).symm
theorem bel_c {v lim : Int32} (h0 : ¬ v < 0) (h : ¬ lim ≤ v) : (1 : Int32) = bI (0 ≤ v ∧ v < lim) := (bI_t (by
  constructor
  · rw [Int32.le_iff_toInt_le]
    rw [Int32.lt_iff_toInt_lt] at h0
    omega
  · rw [Int32.lt_iff_toInt_lt]
    rw [Int32.le_iff_toInt_le] at h
    omega)).symm

set_option maxHeartbeats 4000000 in
set_option maxRecDepth 100000 in
theorem c_isBelow {l : Launch} {G : va_G} {cy : Nat → ClassId} {w : WT} {v lim : Int32} : RI l G cy w yX8_isBelow cX8_isBelow 2 (some .boolean) (rmN 0) [.int v, .int lim] (bI (0 ≤ v ∧ v < lim)) := by
  refine RI.mk (by decide) (by first | rfl | exact bI_nar) (Nat.le_of_ble_eq_true rfl) ?_
  intro jp je js jm below meth jc A Q X hW ret ls hl
  have jx := X.hx
  have jb := X.hb
  have hl : lv_has ls 2 [(0, .int v), (1, .int lim)] := hl
  have X : Cx G cy jp js jm _ jc cX8_isBelow 2 RX8 A js.heap := X
  refine lv_iload_n jx jb dX8_isBelow_0 rfl (lv_at hl 0 rfl) ?_
  refine lv_if_lt (tgt := 13) jx jb dX8_isBelow_1 (by decide) (fun c1 => ?_) (fun c1 => ?_)
  · refine lv_iconst (v := 0) jx jb dX8_isBelow_13 (by decide) ?_
    exact ret _ _ _ _ _ dX8_isBelow_14 hW (bel_a c1)
  · refine lv_iload_n jx jb dX8_isBelow_4 rfl (lv_at hl 0 rfl) ?_
    refine lv_iload_n jx jb dX8_isBelow_5 rfl (lv_at hl 1 rfl) ?_
    refine lv_icmp_ge (tgt := 13) jx jb dX8_isBelow_6 (by decide) (fun c6 => ?_) (fun c6 => ?_)
    · refine lv_iconst (v := 0) jx jb dX8_isBelow_13 (by decide) ?_
      exact ret _ _ _ _ _ dX8_isBelow_14 hW (bel_b c6)
    · refine lv_iconst (v := 1) jx jb dX8_isBelow_9 (by decide) ?_
      refine lv_goto (tgt := 14) jx jb dX8_isBelow_10 (by decide) ?_
      exact ret _ _ _ _ _ dX8_isBelow_14 hW (bel_c c1 c6)

set_option maxHeartbeats 4000000 in
set_option maxRecDepth 100000 in
theorem c_callOf {l : Launch} {G : va_G} {cy : Nat → ClassId} {w : WT} {k q : Nat} : RI l G cy w yX8_callOf cX8_callOf 2 (some .int) (rmN 0) [.int (nI k), .int (nI q)] (nI (k * 16 + q)) := by
  refine RI.mk (by decide) (by first | rfl | exact bI_nar) (Nat.le_of_ble_eq_true rfl) ?_
  intro jp je js jm below meth jc A Q X hW ret ls hl
  have jx := X.hx
  have jb := X.hb
  have hl : lv_has ls 2 [(0, .int (nI k)), (1, .int (nI q))] := hl
  have X : Cx G cy jp js jm _ jc cX8_callOf 2 RX8 A js.heap := X
  refine lv_iload_n jx jb dX8_callOf_0 rfl (lv_at hl 0 rfl) ?_
  refine lv_bipush (v := 16) jx jb dX8_callOf_1 (by decide) ?_
  refine lv_imul jx jb dX8_callOf_3 ?_
  refine lv_iload_n jx jb dX8_callOf_4 rfl (lv_at hl 1 rfl) ?_
  refine lv_iadd jx jb dX8_callOf_5 ?_
  exact ret _ _ _ _ _ dX8_callOf_6 hW (by rw [show (16 : Int32) = nI 16 from rfl, pk_mul, nI_add])

set_option maxHeartbeats 4000000 in
set_option maxRecDepth 100000 in
theorem c_kindOf {l : Launch} {G : va_G} {cy : Nat → ClassId} {w : WT} {c0 : Nat} (h : c0 < 2 ^ 31) : RI l G cy w yX8_kindOf cX8_kindOf 1 (some .int) (rmN 0) [.int (nI c0)] (nI (c0 / 16)) := by
  refine RI.mk (by decide) (by first | rfl | exact bI_nar) (Nat.le_of_ble_eq_true rfl) ?_
  intro jp je js jm below meth jc A Q X hW ret ls hl
  have jx := X.hx
  have jb := X.hb
  have hl : lv_has ls 1 [(0, .int (nI c0))] := hl
  have X : Cx G cy jp js jm _ jc cX8_kindOf 1 RX8 A js.heap := X
  refine lv_iload_n jx jb dX8_kindOf_0 rfl (lv_at hl 0 rfl) ?_
  refine lv_bipush (v := 16) jx jb dX8_kindOf_1 (by decide) ?_
  refine lv_idiv jx jb dX8_kindOf_3 (by decide) ?_
  exact ret _ _ _ _ _ dX8_kindOf_4 hW (by rw [show (16 : Int32) = nI 16 from rfl]; exact pk_div h (by decide) (by decide))

set_option maxHeartbeats 4000000 in
set_option maxRecDepth 100000 in
theorem c_numberOf {l : Launch} {G : va_G} {cy : Nat → ClassId} {w : WT} {c0 : Nat} (h : c0 < 2 ^ 31) : RI l G cy w yX8_numberOf cX8_numberOf 1 (some .int) (rmN 0) [.int (nI c0)] (nI (c0 % 16)) := by
  refine RI.mk (by decide) (by first | rfl | exact bI_nar) (Nat.le_of_ble_eq_true rfl) ?_
  intro jp je js jm below meth jc A Q X hW ret ls hl
  have jx := X.hx
  have jb := X.hb
  have hl : lv_has ls 1 [(0, .int (nI c0))] := hl
  have X : Cx G cy jp js jm _ jc cX8_numberOf 1 RX8 A js.heap := X
  refine lv_iload_n jx jb dX8_numberOf_0 rfl (lv_at hl 0 rfl) ?_
  refine lv_bipush (v := 16) jx jb dX8_numberOf_1 (by decide) ?_
  refine lv_irem jx jb dX8_numberOf_3 (by decide) ?_
  exact ret _ _ _ _ _ dX8_numberOf_4 hW (by rw [show (16 : Int32) = nI 16 from rfl]; exact pk_rem h (by decide) (by decide))

set_option maxHeartbeats 4000000 in
set_option maxRecDepth 100000 in
theorem c_valueIn {l : Launch} {G : va_G} {cy : Nat → ClassId} {w : WT} {st j : Nat} (hs : st < 65536) (hj : j < 4) : RI l G cy w yX8_valueIn cX8_valueIn 2 (some .int) (rmN 0) [.int (nI st), .int (nI j)] (nI (nib st j)) := by
  refine RI.mk (by decide) (by first | rfl | exact bI_nar) (Nat.le_of_ble_eq_true rfl) ?_
  intro jp je js jm below meth jc A Q X hW ret ls hl
  have jx := X.hx
  have jb := X.hb
  have hl : lv_has ls 2 [(0, .int (nI st)), (1, .int (nI j))] := hl
  have X : Cx G cy jp js jm _ jc cX8_valueIn 2 RX8 A js.heap := X
  refine lv_iload_n jx jb dX8_valueIn_0 rfl (lv_at hl 0 rfl) ?_
  refine lv_iload_n jx jb dX8_valueIn_1 rfl (lv_at hl 1 rfl) ?_
  refine lv_iconst (v := 4) jx jb dX8_valueIn_2 (by decide) ?_
  refine lv_imul jx jb dX8_valueIn_3 ?_
  refine lv_ishr jx jb dX8_valueIn_4 ?_
  refine lv_bipush (v := 15) jx jb dX8_valueIn_5 (by decide) ?_
  refine lv_iand jx jb dX8_valueIn_7 ?_
  exact ret _ _ _ _ _ dX8_valueIn_8 hW (val_eq hs hj)

set_option maxHeartbeats 4000000 in
set_option maxRecDepth 100000 in
theorem c_withValue {l : Launch} {G : va_G} {cy : Nat → ClassId} {w : WT} {st j v : Nat} (hs : st < 65536) (hj : j < 4) (hv : v < 65536) : RI l G cy w yX8_withValue cX8_withValue 5 (some .int) (rmN 0) [.int (nI st), .int (nI j), .int (nI v)] (nI (setn st j (v % 16))) := by
  refine RI.mk (by decide) (by first | rfl | exact bI_nar) (Nat.le_of_ble_eq_true rfl) ?_
  intro jp je js jm below meth jc A Q X hW ret ls hl
  have jx := X.hx
  have jb := X.hb
  have hl : lv_has ls 5 [(0, .int (nI st)), (1, .int (nI j)), (2, .int (nI v))] := hl
  have X : Cx G cy jp js jm _ jc cX8_withValue 5 RX8 A js.heap := X
  refine lv_iload_n jx jb dX8_withValue_0 rfl (lv_at hl 1 rfl) ?_
  refine lv_iconst (v := 4) jx jb dX8_withValue_1 (by decide) ?_
  refine lv_imul jx jb dX8_withValue_2 ?_
  refine lv_istore_n (lv' := [(3, .int ((nI j) * 4)), (0, .int (nI st)), (1, .int (nI j)), (2, .int (nI v))]) jx jb dX8_withValue_3 rfl hl (by decide) rfl (fun ls hl => ?_)
  refine lv_iload_n jx jb dX8_withValue_4 rfl (lv_at hl 1 rfl) ?_
  refine lv_bipush (v := 15) jx jb dX8_withValue_5 (by decide) ?_
  refine lv_iload_n jx jb dX8_withValue_7 rfl (lv_at hl 0 rfl) ?_
  refine lv_ishl jx jb dX8_withValue_8 ?_
  refine lv_iconst (v := -1) jx jb dX8_withValue_9 (by decide) ?_
  refine lv_ixor jx jb dX8_withValue_10 ?_
  refine lv_iand jx jb dX8_withValue_11 ?_
  refine lv_istore (lv' := [(4, .int ((nI st) &&& ((15 <<< (((nI j) * 4) &&& 31)) ^^^ (-1)))), (3, .int ((nI j) * 4)), (0, .int (nI st)), (1, .int (nI j)), (2, .int (nI v))]) jx jb dX8_withValue_12 hl (by decide) rfl (fun ls hl => ?_)
  refine lv_iload jx jb dX8_withValue_14 (lv_at hl 0 rfl) ?_
  refine lv_iload_n jx jb dX8_withValue_16 rfl (lv_at hl 4 rfl) ?_
  refine lv_bipush (v := 15) jx jb dX8_withValue_17 (by decide) ?_
  refine lv_iand jx jb dX8_withValue_19 ?_
  refine lv_iload_n jx jb dX8_withValue_20 rfl (lv_at hl 1 rfl) ?_
  refine lv_ishl jx jb dX8_withValue_21 ?_
  refine lv_ior jx jb dX8_withValue_22 ?_
  exact ret _ _ _ _ _ dX8_withValue_23 hW (wit_eq hs hj hv)
