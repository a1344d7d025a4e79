def mty (a : Nat) : Nat := if a = 78 ∨ a = 79 ∨ a = 81 then 1 else 0
def mlen (a : Nat) : Nat := if a = 64 then 6 else if a ≤ 67 then 24 else if a ≤ 71 then 200 else if a = 72 then 4 else if a = 73 then 12 else if a ≤ 76 then 2400 else if a ≤ 79 then 12 else if a = 80 then 4 else if a = 81 then 200 else 12
/-- the reference's cells: the object 63, its arrays 64 .. 82, which hold q -/
def MRaw (cy : Nat → ClassId) (N : Nat) (ad : Nat → Nat) (g : Nat → va_E) (q : Nat → Nat → Int32) (ca te to : Int32) : Prop := 83 ≤ N ∧ g 63 = .inr (9, [.ref (ad 64), .ref (ad 65), .ref (ad 66), .ref (ad 67), .int ca, .ref (ad 68), .ref (ad 69), .ref (ad 70), .ref (ad 71), .ref (ad 72), .int te, .ref (ad 73), .ref (ad 74), .ref (ad 75), .ref (ad 76), .ref (ad 77), .ref (ad 78), .ref (ad 79), .ref (ad 80), .int to, .ref (ad 81), .ref (ad 82)]) ∧ ∀ a, 64 ≤ a → a < 83 → g a = .inl (cy (mty a), mlen a, .inl (q a))
theorem MRaw.put {cy : Nat → ClassId} {N : Nat} {ad : Nat → Nat} {g g' : Nat → va_E} {q : Nat → Nat → Int32} {ca te to : Int32} {a : Nat} {f : Nat → Int32} (h : MRaw cy N ad g q ca te to) (h1 : 64 ≤ a) (h2 : a < 83) (hg : ∀ k, k ≠ a → g' k = g k) (he : g' a = .inl (cy (mty a), mlen a, .inl f)) : MRaw cy N ad g' (va_up q a f) ca te to := by
  refine ⟨h.1, (hg 63 (by omega)).trans h.2.1, fun b hb1 hb2 => ?_⟩
  by_cases e : b = a
  · rw [e, va_up_s]; exact he
  · rw [va_up_n e, hg b e]; exact h.2.2 b hb1 hb2
theorem MRaw.put63 {cy : Nat → ClassId} {N : Nat} {ad : Nat → Nat} {g g' : Nat → va_E} {q : Nat → Nat → Int32} {ca te to ca' te' to' : Int32} (h : MRaw cy N ad g q ca te to) (hg : ∀ k, k ≠ 63 → g' k = g k) (he : g' 63 = .inr (9, [.ref (ad 64), .ref (ad 65), .ref (ad 66), .ref (ad 67), .int ca', .ref (ad 68), .ref (ad 69), .ref (ad 70), .ref (ad 71), .ref (ad 72), .int te', .ref (ad 73), .ref (ad 74), .ref (ad 75), .ref (ad 76), .ref (ad 77), .ref (ad 78), .ref (ad 79), .ref (ad 80), .int to', .ref (ad 81), .ref (ad 82)])) : MRaw cy N ad g' q ca' te' to' := ⟨h.1, he, fun b h1 h2 => (hg b (by omega)).trans (h.2.2 b h1 h2)⟩
theorem MRaw.fr {cy : Nat → ClassId} {N : Nat} {ad : Nat → Nat} {g g' : Nat → va_E} {q : Nat → Nat → Int32} {ca te to : Int32} (h : MRaw cy N ad g q ca te to) (hg : ∀ k, 63 ≤ k → k < 83 → g' k = g k) : MRaw cy N ad g' q ca te to := ⟨h.1, (hg 63 (by omega) (by omega)).trans h.2.1, fun a h1 h2 => (hg a (by omega) h2).trans (h.2.2 a h1 h2)⟩
theorem MRaw.grow {cy : Nat → ClassId} {N N' : Nat} {ad ad' : Nat → Nat} {g g' : Nat → va_E} {q : Nat → Nat → Int32} {ca te to : Int32} (h : MRaw cy N ad g q ca te to) (hN : N ≤ N') (ha : ∀ k, k < N → ad' k = ad k) (hg : ∀ k, 63 ≤ k → k < N → g' k = g k) : MRaw cy N' ad' g' q ca te to := by
  have h83 := h.1
  refine ⟨by omega, ?_, fun a h1 h2 => (hg a (by omega) (by omega)).trans (h.2.2 a h1 h2)⟩
  rw [hg 63 (by omega) (by omega), h.2.1, ha 64 (by omega), ha 65 (by omega), ha 66 (by omega), ha 67 (by omega), ha 68 (by omega), ha 69 (by omega), ha 70 (by omega), ha 71 (by omega), ha 72 (by omega), ha 73 (by omega), ha 74 (by omega), ha 75 (by omega), ha 76 (by omega), ha 77 (by omega), ha 78 (by omega), ha 79 (by omega), ha 80 (by omega), ha 81 (by omega), ha 82 (by omega)]
def QM (q : Nat → Nat → Int32) (M : M4) : Prop := (∀ k, k < 6 → q 64 k = nI (M.1 k)) ∧ ∀ b, b < 24 → b % 4 < M.1 (b / 4) → q 65 b = nI (M.2.1 b) ∧ q 66 b = nI (M.2.2.1 b) ∧ q 67 b = nI (M.2.2.2 b)
theorem QM.of {q q' : Nat → Nat → Int32} {M : M4} (h : QM q M) (h1 : ∀ a, 64 ≤ a → a ≤ 67 → q' a = q a) : QM q' M := ⟨fun k hk => by rw [h1 64 (by omega) (by omega)]; exact h.1 k hk, fun b hb hq => by rw [h1 65 (by omega) (by omega), h1 66 (by omega) (by omega), h1 67 (by omega) (by omega)]; exact h.2 b hb hq⟩
/-- the registers now -/
def QN (q : Nat → Nat → Int32) (st : Nat) : Prop := ∀ j, j < 4 → q 80 j = nI (nib st j)
theorem bt_in {v low high : Int32} (h1 : ¬ v < low) (h2 : ¬ high < v) : (1 : Int32) = bI (low ≤ v ∧ v ≤ high) := (bI_t ⟨by rw [Int32.le_iff_toInt_le]; rw [Int32.lt_iff_toInt_lt] at h1; omega, by rw [Int32.le_iff_toInt_le]; rw [Int32.lt_iff_toInt_lt] at h2; omega⟩).symm
theorem bt_lo {v low high : Int32} (h1 : v < low) : (0 : Int32) = bI (low ≤ v ∧ v ≤ high) := (bI_f (fun q => by have := q.1; rw [Int32.le_iff_toInt_le] at this; rw [Int32.lt_iff_toInt_lt] at h1; omega)).symm
theorem bt_hi {v low high : Int32} (h1 : high < v) : (0 : Int32) = bI (low ≤ v ∧ v ≤ high) := (bI_f (fun q => by have := q.2; rw [Int32.le_iff_toInt_le] at this; rw [Int32.lt_iff_toInt_lt] at h1; omega)).symm
/-- 0 .. n - 1, said in two ways -/
theorem in_below {v : Int32} {n : Nat} (hn : n < 2 ^ 30) : (0 ≤ v ∧ v ≤ nI n - 1) ↔ (0 ≤ v ∧ v < nI n) := by
  have h1 : (nI n - 1).toInt = (n : Int) - 1 := by
    have := pk_sub_toInt (a := n) (b := 1) hn (by decide)
    exact this
  rw [Int32.le_iff_toInt_le, Int32.le_iff_toInt_le, Int32.lt_iff_toInt_lt, h1, nI_toInt (by omega)]
  omega
theorem nI_of' {x : Int32} (h : ¬ x < 0) : ∃ j : Nat, j < 2 ^ 31 ∧ x = nI j := nI_of h
theorem rm4 {w : Nat} (h : w < 2 ^ 31) : nI w - nI w / 4 * 4 = nI (w % 4) := pk_rem (d := 4) h (by decide) (by decide)
theorem dv4 {w : Nat} (h : w < 2 ^ 31) : nI w / 4 = nI (w / 4) := pk_div (d := 4) h (by decide) (by decide)
theorem rm16 {w : Nat} (h : w < 2 ^ 31) : nI w - nI w / 16 * 16 = nI (w % 16) := pk_rem (d := 16) h (by decide) (by decide)
theorem nib0 : ∀ j, j < 4 → nib 0 j = 0 := by decide

set_option maxHeartbeats 4000000 in
set_option maxRecDepth 100000 in
theorem c_in {l : Launch} {G : va_G} {cy : Nat → ClassId} {w : WT} {v low high : Int32} : RI l G cy w yX9_in cX9_in 3 (some .boolean) (rmN 0) [.int v, .int low, .int high] (bI (low ≤ v ∧ v ≤ high)) := by
  refine RI.mk (by decide) (by first | rfl | exact bI_nar) (Nat.le_of_ble_eq_true rfl) ?_
  intro jp je js jm below meth jc A Q X hW ret ls hl
  have jx := X.hx
  have jb := X.hb
  have hl : lv_has ls 3 [(0, .int v), (1, .int low), (2, .int high)] := hl
  have X : Cx G cy jp js jm _ jc cX9_in 3 RX9 A js.heap := X
  refine lv_iload_n jx jb dX9_in_0 rfl (lv_at hl 0 rfl) ?_
  refine lv_iload_n jx jb dX9_in_1 rfl (lv_at hl 1 rfl) ?_
  refine lv_icmp_lt (tgt := 14) jx jb dX9_in_2 (by decide) (fun c2 => ?_) (fun c2 => ?_)
  · refine lv_iconst (v := 0) jx jb dX9_in_14 (by decide) ?_
    exact ret _ _ _ _ _ dX9_in_15 hW (bt_lo c2)
  · refine lv_iload_n jx jb dX9_in_5 rfl (lv_at hl 0 rfl) ?_
    refine lv_iload_n jx jb dX9_in_6 rfl (lv_at hl 2 rfl) ?_
    refine lv_icmp_gt (tgt := 14) jx jb dX9_in_7 (by decide) (fun c7 => ?_) (fun c7 => ?_)
    · refine lv_iconst (v := 0) jx jb dX9_in_14 (by decide) ?_
      exact ret _ _ _ _ _ dX9_in_15 hW (bt_hi c7)
    · refine lv_iconst (v := 1) jx jb dX9_in_10 (by decide) ?_
      refine lv_goto (tgt := 15) jx jb dX9_in_11 (by decide) ?_
      exact ret _ _ _ _ _ dX9_in_15 hW (bt_in c2 c7)

set_option maxHeartbeats 4000000 in
set_option maxRecDepth 100000 in
theorem c_isKind {l : Launch} {G : va_G} {cy : Nat → ClassId} {w : WT} {v : Int32} : RI l G cy w yX9_isKind cX9_isKind 1 (some .boolean) (rmN 1) [.int v] (bI (0 ≤ v ∧ v < 6)) := by
  refine RI.mk (by decide) (by first | rfl | exact bI_nar) (Nat.le_of_ble_eq_true rfl) ?_
  intro jp je js jm below meth jc A Q X hW ret ls hl
  have jx := X.hx
  have jb := X.hb
  have hl : lv_has ls 1 [(0, .int v)] := hl
  have X : Cx G cy jp js jm _ jc cX9_isKind 1 RX9 A js.heap := X
  refine lv_iload_n jx jb dX9_isKind_0 rfl (lv_at hl 0 rfl) ?_
  refine lv_iconst (v := 0) jx jb dX9_isKind_1 (by decide) ?_
  refine lv_iconst (v := 5) jx jb dX9_isKind_2 (by decide) ?_
  refine w_rS (As := [.int v, .int 0, .int 5]) X hW (c_in) ml_X9_68 mf_X9_in ⟨Nat.le_of_ble_eq_true rfl, Nat.le_of_ble_eq_true rfl⟩ hl.1 rfl (Nat.le_of_ble_eq_true rfl) ⟨Nat.le_of_ble_eq_true rfl, Nat.le_of_ble_eq_true rfl⟩ dX9_isKind_3 (fun H locs hW => ?_)
  exact ret _ _ _ _ _ dX9_isKind_6 hW (bI_iff (in_below (n := 6) (by decide)))

set_option maxHeartbeats 4000000 in
set_option maxRecDepth 100000 in
theorem c_isBranch {l : Launch} {G : va_G} {cy : Nat → ClassId} {w : WT} {a b r : Int32} : RI l G cy w yX9_isBranch cX9_isBranch 3 (some .boolean) (rmN 1) [.int a, .int b, .int r] (bI (okWi a ∧ okTi b ∧ 0 ≤ r ∧ r < 4)) := by
  refine RI.mk (by decide) (by first | rfl | exact bI_nar) (Nat.le_of_ble_eq_true rfl) ?_
  intro jp je js jm below meth jc A Q X hW ret ls hl
  have jx := X.hx
  have jb := X.hb
  have hl : lv_has ls 3 [(0, .int a), (1, .int b), (2, .int r)] := hl
  have X : Cx G cy jp js jm _ jc cX9_isBranch 3 RX9 A js.heap := X
  refine lv_iload_n jx jb dX9_isBranch_0 rfl (lv_at hl 0 rfl) ?_
  refine lv_if_lt (tgt := 33) jx jb dX9_isBranch_1 (by decide) (fun c1 => ?_) (fun c1 => ?_)
  · refine lv_iconst (v := 0) jx jb dX9_isBranch_33 (by decide) ?_
    exact ret _ _ _ _ _ dX9_isBranch_34 hW (bI_f (fun z => by have z1 := z.1.1; rw [Int32.le_iff_toInt_le] at z1; rw [Int32.lt_iff_toInt_lt] at c1; omega)).symm
  · obtain ⟨wa, hwa, ea⟩ := nI_of c1
    refine lv_iload_n jx jb dX9_isBranch_4 rfl (lv_at hl 0 rfl) ?_
    refine lv_sipush (v := 1000) jx jb dX9_isBranch_5 (by decide) ?_
    refine lv_idiv jx jb dX9_isBranch_8 (by decide) ?_
    refine top_eq (y := nI (wa / 1000)) (by rw [ea, dv1000 hwa]) ?_
    refine lv_iconst (v := 4) jx jb dX9_isBranch_9 (by decide) ?_
    refine lv_icmp_ge (tgt := 33) jx jb dX9_isBranch_10 (by decide) (fun c10 => ?_) (fun c10 => ?_)
    · refine lv_iconst (v := 0) jx jb dX9_isBranch_33 (by decide) ?_
      exact ret _ _ _ _ _ dX9_isBranch_34 hW (bI_f (fun z => by have z1 := z.1; rw [ea] at z1; have z2 := (okWi_nI hwa).mp z1; have := n_le (a := 4) (by decide) (by omega) c10; have := z2.1; omega)).symm
    · refine lv_iload_n jx jb dX9_isBranch_13 rfl (lv_at hl 0 rfl) ?_
      refine lv_bipush (v := 100) jx jb dX9_isBranch_14 (by decide) ?_
      refine lv_idiv jx jb dX9_isBranch_16 (by decide) ?_
      refine lv_bipush (v := 10) jx jb dX9_isBranch_17 (by decide) ?_
      refine lv_irem jx jb dX9_isBranch_19 (by decide) ?_
      refine top_eq (y := nI (wa / 100 % 10)) (by rw [ea, dv100 hwa, rm10 (by omega)]) ?_
      refine lv_iconst (v := 2) jx jb dX9_isBranch_20 (by decide) ?_
      refine lv_icmp_gt (tgt := 33) jx jb dX9_isBranch_21 (by decide) (fun c21 => ?_) (fun c21 => ?_)
      · refine lv_iconst (v := 0) jx jb dX9_isBranch_33 (by decide) ?_
        exact ret _ _ _ _ _ dX9_isBranch_34 hW (bI_f (fun z => by have z1 := z.1; rw [ea] at z1; have z2 := (okWi_nI hwa).mp z1; have := n_lt (a := 2) (by decide) (by omega) c21; have := z2.2.1; omega)).symm
      · refine lv_iload_n jx jb dX9_isBranch_24 rfl (lv_at hl 0 rfl) ?_
        refine lv_bipush (v := 100) jx jb dX9_isBranch_25 (by decide) ?_
        refine lv_irem jx jb dX9_isBranch_27 (by decide) ?_
        refine top_eq (y := nI (wa % 100)) (by rw [ea, rm100 hwa]) ?_
        refine lv_bipush (v := 16) jx jb dX9_isBranch_28 (by decide) ?_
        refine lv_icmp_lt (tgt := 35) jx jb dX9_isBranch_30 (by decide) (fun c30 => ?_) (fun c30 => ?_)
        · refine lv_iload_n jx jb dX9_isBranch_35 rfl (lv_at hl 1 rfl) ?_
          refine lv_if_lt (tgt := 70) jx jb dX9_isBranch_36 (by decide) (fun c36 => ?_) (fun c36 => ?_)
          · refine lv_iconst (v := 0) jx jb dX9_isBranch_70 (by decide) ?_
            exact ret _ _ _ _ _ dX9_isBranch_71 hW (bI_f (fun z => by have z1 := z.2.1.1; rw [Int32.le_iff_toInt_le] at z1; rw [Int32.lt_iff_toInt_lt] at c36; omega)).symm
          · obtain ⟨wb, hwb, eb⟩ := nI_of c36
            refine lv_iload_n jx jb dX9_isBranch_39 rfl (lv_at hl 1 rfl) ?_
            refine lv_sipush (v := 10000) jx jb dX9_isBranch_40 (by decide) ?_
            refine lv_idiv jx jb dX9_isBranch_43 (by decide) ?_
            refine top_eq (y := nI (wb / 10000)) (by rw [eb, dv10000 hwb]) ?_
            refine lv_iconst (v := 4) jx jb dX9_isBranch_44 (by decide) ?_
            refine lv_icmp_ge (tgt := 70) jx jb dX9_isBranch_45 (by decide) (fun c45 => ?_) (fun c45 => ?_)
            · refine lv_iconst (v := 0) jx jb dX9_isBranch_70 (by decide) ?_
              exact ret _ _ _ _ _ dX9_isBranch_71 hW (bI_f (fun z => by have z1 := z.2.1; rw [eb] at z1; have z2 := (okTi_nI hwb).mp z1; have := n_le (a := 4) (by decide) (by omega) c45; have := z2.1; omega)).symm
            · refine lv_iload_n jx jb dX9_isBranch_48 rfl (lv_at hl 1 rfl) ?_
              refine lv_bipush (v := 100) jx jb dX9_isBranch_49 (by decide) ?_
              refine lv_irem jx jb dX9_isBranch_51 (by decide) ?_
              refine top_eq (y := nI (wb % 100)) (by rw [eb, rm100 hwb]) ?_
              refine lv_bipush (v := 16) jx jb dX9_isBranch_52 (by decide) ?_
              refine lv_icmp_ge (tgt := 70) jx jb dX9_isBranch_54 (by decide) (fun c54 => ?_) (fun c54 => ?_)
              · refine lv_iconst (v := 0) jx jb dX9_isBranch_70 (by decide) ?_
                exact ret _ _ _ _ _ dX9_isBranch_71 hW (bI_f (fun z => by have z1 := z.2.1; rw [eb] at z1; have z2 := (okTi_nI hwb).mp z1; have := n_le (a := 16) (by decide) (by omega) c54; have := z2.2; omega)).symm
              · refine lv_iload_n jx jb dX9_isBranch_57 rfl (lv_at hl 2 rfl) ?_
                refine lv_iconst (v := 0) jx jb dX9_isBranch_58 (by decide) ?_
                refine lv_iconst (v := 3) jx jb dX9_isBranch_59 (by decide) ?_
                refine w_rS (As := [.int r, .int 0, .int 3]) X hW (c_in) ml_X9_68 mf_X9_in ⟨Nat.le_of_ble_eq_true rfl, Nat.le_of_ble_eq_true rfl⟩ hl.1 rfl (Nat.le_of_ble_eq_true rfl) ⟨Nat.le_of_ble_eq_true rfl, Nat.le_of_ble_eq_true rfl⟩ dX9_isBranch_60 (fun H locs hW => ?_)
                refine lv_if_eq (tgt := 70) jx jb dX9_isBranch_63 (by decide) (fun c63 => ?_) (fun c63 => ?_)
                · refine lv_iconst (v := 0) jx jb dX9_isBranch_70 (by decide) ?_
                  exact ret _ _ _ _ _ dX9_isBranch_71 hW (bI_f (fun z => bI_0.mp c63 ((in_below (n := 4) (by decide)).mpr z.2.2))).symm
                · refine lv_iconst (v := 1) jx jb dX9_isBranch_66 (by decide) ?_
                  refine lv_goto (tgt := 71) jx jb dX9_isBranch_67 (by decide) ?_
                  exact ret _ _ _ _ _ dX9_isBranch_71 hW (bI_t ⟨by rw [ea]; exact (okWi_nI hwa).mpr ⟨by have := n_nle (a := 4) (by decide) (by omega) c10; omega, by have := n_nlt (a := 2) (by decide) (by omega) c21; omega, n_lt (b := 16) (by omega) (by decide) c30⟩, by rw [eb]; exact (okTi_nI hwb).mpr ⟨by have := n_nle (a := 4) (by decide) (by omega) c45; omega, n_nle (a := 16) (by decide) (by omega) c54⟩, (in_below (n := 4) (by decide)).mp (bI_n0.mp c63)⟩).symm
        · refine lv_iconst (v := 0) jx jb dX9_isBranch_33 (by decide) ?_
          exact ret _ _ _ _ _ dX9_isBranch_34 hW (bI_f (fun z => by have z1 := z.1; rw [ea] at z1; have z2 := (okWi_nI hwa).mp z1; have := n_nlt (b := 16) (by omega) (by decide) c30; have := z2.2.2; omega)).symm

set_option maxHeartbeats 4000000 in
set_option maxRecDepth 100000 in
theorem c_tells {l : Launch} {G : va_G} {cy : Nat → ClassId} {N : Nat} {ad : Nat → Nat} {g : Nat → va_E} {q : Nat → Nat → Int32} {ca te to : Int32} {b : Nat} {wv tv rv : Int32} (hR : MRaw cy N ad g q ca te to) (hb : b < 24) : MV l G cy (N, ad, g) yX9_tells cX9_tells 5 none (rmN 0) [.ref (ad 63), .int (nI b), .int wv, .int tv, .int rv] (nV N ad (fun g1 => ∃ q1, MRaw cy N ad g1 q1 ca te to ∧ q1 65 = upd (q 65) b wv ∧ q1 66 = upd (q 66) b tv ∧ q1 67 = upd (q 67) b rv ∧ (∀ a, a ≠ 65 → a ≠ 66 → a ≠ 67 → q1 a = q a) ∧ ∀ k, ¬ (63 ≤ k ∧ k < 83) → g1 k = g k)) := by
  refine NV.mk (by decide) (Nat.le_of_ble_eq_true rfl) ?_
  intro jp je js jm below meth jc A Q X hW ret ls hl
  have jx := X.hx
  have jb := X.hb
  have hl : lv_has ls 5 [(0, .ref (ad 63)), (1, .int (nI b)), (2, .int wv), (3, .int tv), (4, .int rv)] := hl
  have X : Cx G cy jp js jm _ jc cX9_tells 5 RX9 A js.heap := X
  have h83 : 83 ≤ N := hR.1
  refine lv_aload_n jx jb dX9_tells_0 rfl (lv_at hl 0 rfl) ?_
  have m1 : g 63 = .inr (9, [.ref (ad 64), .ref (ad 65), .ref (ad 66), .ref (ad 67), .int ca, .ref (ad 68), .ref (ad 69), .ref (ad 70), .ref (ad 71), .ref (ad 72), .int te, .ref (ad 73), .ref (ad 74), .ref (ad 75), .ref (ad 76), .ref (ad 77), .ref (ad 78), .ref (ad 79), .ref (ad 80), .int to, .ref (ad 81), .ref (ad 82)]) := hR.2.1
  refine w_get X hW K9 (by omega) m1 1 (by decide) fl_X9_13 rfl dX9_tells_1 ?_
  refine lv_iload_n jx jb dX9_tells_4 rfl (lv_at hl 1 rfl) ?_
  refine lv_iload_n jx jb dX9_tells_5 rfl (lv_at hl 2 rfl) ?_
  have m2 : g 65 = .inl (cy 0, 24, .inl (q 65)) := hR.2.2 65 (by decide) (by decide)
  refine w_ist X hW (by omega) m2 b rfl (by omega) (by decide) dX9_tells_6 (fun H locs hW => ?_)
  obtain ⟨g_3, eg_3⟩ : ∃ zz, zz = va_up g 65 (.inl (cy 0, 24, .inl (upd (q 65) b wv))) := ⟨_, rfl⟩
  have hW : Wd G A js.heap (N, ad, g_3) H locs := by rw [eg_3]; exact hW
  obtain ⟨q_5, eq_5⟩ : ∃ zz, zz = va_up q 65 (upd (q 65) b wv) := ⟨_, rfl⟩
  have hR4 : MRaw cy N ad g_3 q_5 ca te to := by rw [eq_5]; exact hR.put (by decide) (by decide) (fun k hk => by rw [eg_3, va_up_n hk]) (by rw [eg_3]; exact va_up_s)
  refine lv_aload_n jx jb dX9_tells_7 rfl (lv_at hl 0 rfl) ?_
  have m6 : g_3 63 = .inr (9, [.ref (ad 64), .ref (ad 65), .ref (ad 66), .ref (ad 67), .int ca, .ref (ad 68), .ref (ad 69), .ref (ad 70), .ref (ad 71), .ref (ad 72), .int te, .ref (ad 73), .ref (ad 74), .ref (ad 75), .ref (ad 76), .ref (ad 77), .ref (ad 78), .ref (ad 79), .ref (ad 80), .int to, .ref (ad 81), .ref (ad 82)]) := hR4.2.1
  refine w_get X hW K9 (by omega) m6 2 (by decide) fl_X9_16 rfl dX9_tells_8 ?_
  refine lv_iload_n jx jb dX9_tells_11 rfl (lv_at hl 1 rfl) ?_
  refine lv_iload_n jx jb dX9_tells_12 rfl (lv_at hl 3 rfl) ?_
  have m7 : g_3 66 = .inl (cy 0, 24, .inl (q_5 66)) := hR4.2.2 66 (by decide) (by decide)
  refine w_ist X hW (by omega) m7 b rfl (by omega) (by decide) dX9_tells_13 (fun H locs hW => ?_)
  obtain ⟨g_8, eg_8⟩ : ∃ zz, zz = va_up g_3 66 (.inl (cy 0, 24, .inl (upd (q_5 66) b tv))) := ⟨_, rfl⟩
  have hW : Wd G A js.heap (N, ad, g_8) H locs := by rw [eg_8]; exact hW
  obtain ⟨q_10, eq_10⟩ : ∃ zz, zz = va_up q_5 66 (upd (q_5 66) b tv) := ⟨_, rfl⟩
  have hR9 : MRaw cy N ad g_8 q_10 ca te to := by rw [eq_10]; exact hR4.put (by decide) (by decide) (fun k hk => by rw [eg_8, va_up_n hk]) (by rw [eg_8]; exact va_up_s)
  refine lv_aload_n jx jb dX9_tells_14 rfl (lv_at hl 0 rfl) ?_
  have m11 : g_8 63 = .inr (9, [.ref (ad 64), .ref (ad 65), .ref (ad 66), .ref (ad 67), .int ca, .ref (ad 68), .ref (ad 69), .ref (ad 70), .ref (ad 71), .ref (ad 72), .int te, .ref (ad 73), .ref (ad 74), .ref (ad 75), .ref (ad 76), .ref (ad 77), .ref (ad 78), .ref (ad 79), .ref (ad 80), .int to, .ref (ad 81), .ref (ad 82)]) := hR9.2.1
  refine w_get X hW K9 (by omega) m11 3 (by decide) fl_X9_19 rfl dX9_tells_15 ?_
  refine lv_iload_n jx jb dX9_tells_18 rfl (lv_at hl 1 rfl) ?_
  refine lv_iload jx jb dX9_tells_19 (lv_at hl 4 rfl) ?_
  have m12 : g_8 67 = .inl (cy 0, 24, .inl (q_10 67)) := hR9.2.2 67 (by decide) (by decide)
  refine w_ist X hW (by omega) m12 b rfl (by omega) (by decide) dX9_tells_21 (fun H locs hW => ?_)
  obtain ⟨g_13, eg_13⟩ : ∃ zz, zz = va_up g_8 67 (.inl (cy 0, 24, .inl (upd (q_10 67) b rv))) := ⟨_, rfl⟩
  have hW : Wd G A js.heap (N, ad, g_13) H locs := by rw [eg_13]; exact hW
  obtain ⟨q_15, eq_15⟩ : ∃ zz, zz = va_up q_10 67 (upd (q_10 67) b rv) := ⟨_, rfl⟩
  have hR14 : MRaw cy N ad g_13 q_15 ca te to := by rw [eq_15]; exact hR9.put (by decide) (by decide) (fun k hk => by rw [eg_13, va_up_n hk]) (by rw [eg_13]; exact va_up_s)
  exact ret _ _ _ _ _ dX9_tells_22 hW ⟨q_15, hR14, (by rw [eq_15, va_up_n (by decide), eq_10, va_up_n (by decide), eq_5, va_up_s]), (by rw [eq_15, va_up_n (by decide), eq_10, va_up_s, eq_5, va_up_n (by decide)]), (by rw [eq_15, va_up_s, eq_10, va_up_n (by decide), eq_5, va_up_n (by decide)]), (fun a h1 h2 h3 => by rw [eq_15, va_up_n h3, eq_10, va_up_n h2, eq_5, va_up_n h1]), (fun k hk => by show g_13 k = _; rw [eg_13, va_up_n (by omega), eg_8, va_up_n (by omega), eg_3, va_up_n (by omega)])⟩

set_option maxHeartbeats 4000000 in
set_option maxRecDepth 100000 in
theorem c_isThere {l : Launch} {G : va_G} {cy : Nat → ClassId} {N : Nat} {ad : Nat → Nat} {g : Nat → va_E} {q : Nat → Nat → Int32} {ca te to : Int32} {M : M4} {v : Int32} (hR : MRaw cy N ad g q ca te to) (hok : ∀ k, k < 6 → M.1 k ≤ 4) (hQ : ∀ k, k < 6 → q 64 k = nI (M.1 k)) : RI l G cy (N, ad, g) yX9_isThere cX9_isThere 2 (some .boolean) (rmN 1) [.ref (ad 63), .int v] (bI (isB M v)) := by
  refine RI.mk (by decide) (by first | rfl | exact bI_nar) (Nat.le_of_ble_eq_true rfl) ?_
  intro jp je js jm below meth jc A Q X hW ret ls hl
  have jx := X.hx
  have jb := X.hb
  have hl : lv_has ls 2 [(0, .ref (ad 63)), (1, .int v)] := hl
  have X : Cx G cy jp js jm _ jc cX9_isThere 2 RX9 A js.heap := X
  have h83 : 83 ≤ N := hR.1
  refine lv_iload_n jx jb dX9_isThere_0 rfl (lv_at hl 1 rfl) ?_
  refine lv_iconst (v := 0) jx jb dX9_isThere_1 (by decide) ?_
  refine lv_bipush (v := 23) jx jb dX9_isThere_2 (by decide) ?_
  refine w_rS (As := [.int v, .int 0, .int 23]) X hW (c_in) ml_X9_68 mf_X9_in ⟨Nat.le_of_ble_eq_true rfl, Nat.le_of_ble_eq_true rfl⟩ hl.1 rfl (Nat.le_of_ble_eq_true rfl) ⟨Nat.le_of_ble_eq_true rfl, Nat.le_of_ble_eq_true rfl⟩ dX9_isThere_4 (fun H locs hW => ?_)
  refine top_eq (y := bI (0 ≤ v ∧ v < 24)) (bI_iff (in_below (n := 24) (by decide))) ?_
  refine lv_if_eq (tgt := 28) jx jb dX9_isThere_7 (by decide) (fun c7 => ?_) (fun c7 => ?_)
  · refine lv_iconst (v := 0) jx jb dX9_isThere_28 (by decide) ?_
    exact ret _ _ _ _ _ dX9_isThere_29 hW (bI_f (isB_no c7)).symm
  · obtain ⟨b, hb24, ev⟩ := i_below (n := 24) (by decide) (bI_n0.mp c7)
    have hb6 : b / 4 < 6 := by omega
    have h4 := hok (b / 4) hb6
    refine lv_iload_n jx jb dX9_isThere_10 rfl (lv_at hl 1 rfl) ?_
    refine lv_iconst (v := 4) jx jb dX9_isThere_11 (by decide) ?_
    refine lv_irem jx jb dX9_isThere_12 (by decide) ?_
    refine top_eq (y := nI (b % 4)) (by rw [ev]; exact rm4 (by omega)) ?_
    refine lv_aload_n jx jb dX9_isThere_13 rfl (lv_at hl 0 rfl) ?_
    have m1 : g 63 = .inr (9, [.ref (ad 64), .ref (ad 65), .ref (ad 66), .ref (ad 67), .int ca, .ref (ad 68), .ref (ad 69), .ref (ad 70), .ref (ad 71), .ref (ad 72), .int te, .ref (ad 73), .ref (ad 74), .ref (ad 75), .ref (ad 76), .ref (ad 77), .ref (ad 78), .ref (ad 79), .ref (ad 80), .int to, .ref (ad 81), .ref (ad 82)]) := hR.2.1
    refine w_get X hW K9 (by omega) m1 0 (by decide) fl_X9_9 rfl dX9_isThere_14 ?_
    refine lv_iload_n jx jb dX9_isThere_17 rfl (lv_at hl 1 rfl) ?_
    refine lv_iconst (v := 4) jx jb dX9_isThere_18 (by decide) ?_
    refine lv_idiv jx jb dX9_isThere_19 (by decide) ?_
    have m2 : g 64 = .inl (cy 0, 6, .inl (q 64)) := hR.2.2 64 (by decide) (by decide)
    refine w_ild X hW (by omega) m2 (b / 4) (by rw [ev]; exact dv4 (by omega)) hb6 (by decide) dX9_isThere_20 ?_
    refine top_eq (y := nI (M.1 (b / 4))) (hQ _ hb6) ?_
    refine lv_icmp_ge (tgt := 28) jx jb dX9_isThere_21 (by decide) (fun c21 => ?_) (fun c21 => ?_)
    · refine lv_iconst (v := 0) jx jb dX9_isThere_28 (by decide) ?_
      exact ret _ _ _ _ _ dX9_isThere_29 hW (by rw [ev]; exact (bI_f (fun z => by have := (isB_nI hb24).mp z; have := n_le (by omega) (by omega) c21; omega)).symm)
    · refine lv_iconst (v := 1) jx jb dX9_isThere_24 (by decide) ?_
      refine lv_goto (tgt := 29) jx jb dX9_isThere_25 (by decide) ?_
      exact ret _ _ _ _ _ dX9_isThere_29 hW (by rw [ev]; exact (bI_t ((isB_nI hb24).mpr (n_nle (by omega) (by omega) c21))).symm)

set_option maxHeartbeats 4000000 in
set_option maxRecDepth 100000 in
theorem c_begins {l : Launch} {G : va_G} {cy : Nat → ClassId} {N : Nat} {ad : Nat → Nat} {g : Nat → va_E} {q : Nat → Nat → Int32} {ca te to : Int32} (hR : MRaw cy N ad g q ca te to) : MV l G cy (N, ad, g) yX9_begins cX9_begins 2 none (rmN 0) [.ref (ad 63)] (nV N ad (fun g1 => ∃ q1, MRaw cy N ad g1 q1 ca te to ∧ QN q1 0 ∧ (∀ a, a ≠ 80 → q1 a = q a) ∧ ∀ k, ¬ (63 ≤ k ∧ k < 83) → g1 k = g k)) := by
  refine NV.mk (by decide) (Nat.le_of_ble_eq_true rfl) ?_
  intro jp je js jm below meth jc A Q X hW ret ls hl
  have jx := X.hx
  have jb := X.hb
  have hl : lv_has ls 2 [(0, .ref (ad 63))] := hl
  have X : Cx G cy jp js jm _ jc cX9_begins 2 RX9 A js.heap := X
  have h83 : 83 ≤ N := hR.1
  refine lv_iconst (v := 0) jx jb dX9_begins_0 (by decide) ?_
  refine lv_istore_n (lv' := [(1, .int 0), (0, .ref (ad 63))]) jx jb dX9_begins_1 rfl hl (by decide) rfl (fun ls hl => ?_)
  have loop2 : ∀ (fuel2 : Nat) (k : Nat) (qL2 : Nat → Nat → Int32) (gL2 : Nat → va_E) (H : Heap) (locs : List Loc) (ls : Array Slot), (MRaw cy N ad gL2 qL2 ca te to) → (∀ k, ¬ (63 ≤ k ∧ k < 83) → gL2 k = g k) → (k ≤ 4) → (∀ j, j < k → qL2 80 j = 0) → (∀ a, a ≠ 80 → qL2 a = q a) → 4 - k < fuel2 → Wd G A js.heap (N, ad, gL2) H locs → lv_has ls 2 [(0, .ref (ad 63)), (1, .int (nI k))] → W jp l je (rmN 0) js jm [.ref (ad 63)].toArray below meth jc H locs 0 0 Q (F0 jm 2 ls []) := by
    intro fuel2
    induction fuel2 with
    | zero => intro k qL2 gL2 H locs ls hR2 hfr2 hk h0 hsm  hm2; exact absurd hm2 (Nat.not_lt_zero _)
    | succ fuel2 ih2 =>
      intro k qL2 gL2 H locs ls hR2 hfr2 hk h0 hsm  hm2 hW hl
      refine lv_iload_n jx jb dX9_begins_2 rfl (lv_at hl 1 rfl) ?_
      refine lv_iconst (v := 4) jx jb dX9_begins_3 (by decide) ?_
      refine lv_icmp_ge (tgt := 20) jx jb dX9_begins_4 (by decide) (fun c4 => ?_) (fun c4 => ?_)
      · exact ret _ _ _ _ _ dX9_begins_20 hW (by have := n_le (a := 4) (by decide) (by omega) c4; exact ⟨qL2, hR2, (fun j hj => by rw [h0 j (by omega), nib0 j hj]; rfl), hsm, (fun k hk => by show gL2 k = _; rw [hfr2 k hk])⟩)
      · have hlt : k < 4 := n_nle (a := 4) (by decide) (by omega) c4
        refine lv_aload_n jx jb dX9_begins_7 rfl (lv_at hl 0 rfl) ?_
        have m1 : gL2 63 = .inr (9, [.ref (ad 64), .ref (ad 65), .ref (ad 66), .ref (ad 67), .int ca, .ref (ad 68), .ref (ad 69), .ref (ad 70), .ref (ad 71), .ref (ad 72), .int te, .ref (ad 73), .ref (ad 74), .ref (ad 75), .ref (ad 76), .ref (ad 77), .ref (ad 78), .ref (ad 79), .ref (ad 80), .int to, .ref (ad 81), .ref (ad 82)]) := hR2.2.1
        refine w_get X hW K9 (by omega) m1 18 (by decide) fl_X9_59 rfl dX9_begins_8 ?_
        refine lv_iload_n jx jb dX9_begins_11 rfl (lv_at hl 1 rfl) ?_
        refine lv_iconst (v := 0) jx jb dX9_begins_12 (by decide) ?_
        have m2 : gL2 80 = .inl (cy 0, 4, .inl (qL2 80)) := hR2.2.2 80 (by decide) (by decide)
        refine w_ist X hW (by omega) m2 k rfl (by omega) (by decide) dX9_begins_13 (fun H locs hW => ?_)
        obtain ⟨g_3, eg_3⟩ : ∃ zz, zz = va_up gL2 80 (.inl (cy 0, 4, .inl (upd (qL2 80) k 0))) := ⟨_, rfl⟩
        have hW : Wd G A js.heap (N, ad, g_3) H locs := by rw [eg_3]; exact hW
        obtain ⟨q_5, eq_5⟩ : ∃ zz, zz = va_up qL2 80 (upd (qL2 80) k 0) := ⟨_, rfl⟩
        have hR4 : MRaw cy N ad g_3 q_5 ca te to := by rw [eq_5]; exact hR2.put (by decide) (by decide) (fun k hk => by rw [eg_3, va_up_n hk]) (by rw [eg_3]; exact va_up_s)
        refine lv_iinc (v := nI (k + 1)) (lv' := [(1, .int (nI (k + 1))), (0, .ref (ad 63))]) jx jb dX9_begins_14 hl (k := 1) rfl (show nI k + 1 = nI (k + 1) from nI_1 _) (by decide) rfl (fun ls hl => ?_)
        refine lv_goto (tgt := 2) jx jb dX9_begins_17 (by decide) ?_
        exact ih2 (k + 1) q_5 g_3 _ _ _ hR4 (fun k hk => by show g_3 k = _; rw [eg_3, va_up_n (by omega), hfr2 k hk]) (by omega) (fun j hj => by rw [eq_5, va_up_s]; by_cases z : j = k; (rw [z, pk_us]); (rw [pk_un z]; exact h0 j (by omega))) (fun a ha => by rw [eq_5, va_up_n ha]; exact hsm a ha)  (by omega) hW (lv_sub hl [1, 0] rfl)
  exact loop2 _ 0 q g _ _ _ hR (fun k hk => by show g k = _; rfl) (by omega) (fun j hj => absurd hj (by omega)) (fun a ha => rfl)  (Nat.lt_succ_self _) hW (lv_sub hl [1, 0] rfl)

set_option maxHeartbeats 4000000 in
set_option maxRecDepth 100000 in
theorem c_mHolds {l : Launch} {G : va_G} {cy : Nat → ClassId} {N : Nat} {ad : Nat → Nat} {g : Nat → va_E} {q : Nat → Nat → Int32} {ca te to : Int32} {M : M4} {b st : Nat} (hR : MRaw cy N ad g q ca te to) (hb : b < 24) (hw1 : q 65 b = nI (M.2.1 b)) (hw : okW (M.2.1 b)) (hN : QN q st) : RI l G cy (N, ad, g) yX9_holds cX9_holds 5 (some .boolean) (rmN 0) [.ref (ad 63), .int (nI b)] (bI (hold (M.2.1 b) st = true)) := by
  refine RI.mk (by decide) (by first | rfl | exact bI_nar) (Nat.le_of_ble_eq_true rfl) ?_
  intro jp je js jm below meth jc A Q X hW ret ls hl
  have jx := X.hx
  have jb := X.hb
  have hl : lv_has ls 5 [(0, .ref (ad 63)), (1, .int (nI b))] := hl
  have X : Cx G cy jp js jm _ jc cX9_holds 5 RX9 A js.heap := X
  have h83 : 83 ≤ N := hR.1
  refine lv_aload_n jx jb dX9_holds_0 rfl (lv_at hl 0 rfl) ?_
  have m1 : g 63 = .inr (9, [.ref (ad 64), .ref (ad 65), .ref (ad 66), .ref (ad 67), .int ca, .ref (ad 68), .ref (ad 69), .ref (ad 70), .ref (ad 71), .ref (ad 72), .int te, .ref (ad 73), .ref (ad 74), .ref (ad 75), .ref (ad 76), .ref (ad 77), .ref (ad 78), .ref (ad 79), .ref (ad 80), .int to, .ref (ad 81), .ref (ad 82)]) := hR.2.1
  refine w_get X hW K9 (by omega) m1 18 (by decide) fl_X9_59 rfl dX9_holds_1 ?_
  refine lv_aload_n jx jb dX9_holds_4 rfl (lv_at hl 0 rfl) ?_
  refine w_get X hW K9 (by omega) m1 1 (by decide) fl_X9_13 rfl dX9_holds_5 ?_
  refine lv_iload_n jx jb dX9_holds_8 rfl (lv_at hl 1 rfl) ?_
  have m2 : g 65 = .inl (cy 0, 24, .inl (q 65)) := hR.2.2 65 (by decide) (by decide)
  refine w_ild X hW (by omega) m2 b rfl (by omega) (by decide) dX9_holds_9 ?_
  refine top_eq (y := nI (M.2.1 b)) (hw1) ?_
  refine lv_sipush (v := 1000) jx jb dX9_holds_10 (by decide) ?_
  refine lv_idiv jx jb dX9_holds_13 (by decide) ?_
  refine top_eq (y := nI (M.2.1 b / 1000)) (dv1000 (by omega)) ?_
  have m3 : g 80 = .inl (cy 0, 4, .inl (q 80)) := hR.2.2 80 (by decide) (by decide)
  refine w_ild X hW (by omega) m3 (M.2.1 b / 1000) rfl (by omega) (by decide) dX9_holds_14 ?_
  refine top_eq (y := nI (nib st (M.2.1 b / 1000))) (hN _ (by omega)) ?_
  refine lv_istore_n (lv' := [(2, .int (nI (nib st (M.2.1 b / 1000)))), (0, .ref (ad 63)), (1, .int (nI b))]) jx jb dX9_holds_15 rfl hl (by decide) rfl (fun ls hl => ?_)
  refine lv_aload_n jx jb dX9_holds_16 rfl (lv_at hl 1 rfl) ?_
  refine w_get X hW K9 (by omega) m1 1 (by decide) fl_X9_13 rfl dX9_holds_17 ?_
  refine lv_iload_n jx jb dX9_holds_20 rfl (lv_at hl 2 rfl) ?_
  refine w_ild X hW (by omega) m2 b rfl (by omega) (by decide) dX9_holds_21 ?_
  refine top_eq (y := nI (M.2.1 b)) (hw1) ?_
  refine lv_bipush (v := 100) jx jb dX9_holds_22 (by decide) ?_
  refine lv_irem jx jb dX9_holds_24 (by decide) ?_
  refine top_eq (y := nI (M.2.1 b % 100)) (rm100 (by omega)) ?_
  refine lv_istore_n (lv' := [(3, .int (nI (M.2.1 b % 100))), (2, .int (nI (nib st (M.2.1 b / 1000)))), (0, .ref (ad 63)), (1, .int (nI b))]) jx jb dX9_holds_25 rfl hl (by decide) rfl (fun ls hl => ?_)
  refine lv_aload_n jx jb dX9_holds_26 rfl (lv_at hl 2 rfl) ?_
  refine w_get X hW K9 (by omega) m1 1 (by decide) fl_X9_13 rfl dX9_holds_27 ?_
  refine lv_iload_n jx jb dX9_holds_30 rfl (lv_at hl 3 rfl) ?_
  refine w_ild X hW (by omega) m2 b rfl (by omega) (by decide) dX9_holds_31 ?_
  refine top_eq (y := nI (M.2.1 b)) (hw1) ?_
  refine lv_bipush (v := 100) jx jb dX9_holds_32 (by decide) ?_
  refine lv_idiv jx jb dX9_holds_34 (by decide) ?_
  refine lv_bipush (v := 10) jx jb dX9_holds_35 (by decide) ?_
  refine lv_irem jx jb dX9_holds_37 (by decide) ?_
  refine top_eq (y := nI (M.2.1 b / 100 % 10)) (by rw [dv100 (by omega), rm10 (by omega)]) ?_
  refine lv_istore (lv' := [(4, .int (nI (M.2.1 b / 100 % 10))), (3, .int (nI (M.2.1 b % 100))), (2, .int (nI (nib st (M.2.1 b / 1000)))), (0, .ref (ad 63)), (1, .int (nI b))]) jx jb dX9_holds_38 hl (by decide) rfl (fun ls hl => ?_)
  refine lv_iload jx jb dX9_holds_40 (lv_at hl 0 rfl) ?_
  refine lv_if_ne (tgt := 58) jx jb dX9_holds_42 (by decide) (fun c42 => ?_) (fun c42 => ?_)
  · refine lv_iload jx jb dX9_holds_58 (lv_at hl 0 rfl) ?_
    refine lv_iconst (v := 1) jx jb dX9_holds_60 (by decide) ?_
    refine lv_icmp_ne (tgt := 77) jx jb dX9_holds_61 (by decide) (fun c61 => ?_) (fun c61 => ?_)
    · refine lv_iload_n jx jb dX9_holds_77 rfl (lv_at hl 2 rfl) ?_
      refine lv_iload_n jx jb dX9_holds_78 rfl (lv_at hl 1 rfl) ?_
      refine lv_icmp_le (tgt := 86) jx jb dX9_holds_79 (by decide) (fun c79 => ?_) (fun c79 => ?_)
      · refine lv_iconst (v := 0) jx jb dX9_holds_86 (by decide) ?_
        exact ret _ _ _ _ _ dX9_holds_87 hW (by have h0 : M.2.1 b / 100 % 10 ≠ 0 := n_ne (b := 0) (by omega) (by decide) c42; have h1 : M.2.1 b / 100 % 10 ≠ 1 := n_ne (b := 1) (by omega) (by decide) c61; have hnb := nib_lt st (M.2.1 b / 1000); have := n_le (by omega) (by omega) c79; rw [bI_f (by simp [hold, h0, h1]; omega)])
      · refine lv_iconst (v := 1) jx jb dX9_holds_82 (by decide) ?_
        refine lv_goto (tgt := 87) jx jb dX9_holds_83 (by decide) ?_
        exact ret _ _ _ _ _ dX9_holds_87 hW (by have h0 : M.2.1 b / 100 % 10 ≠ 0 := n_ne (b := 0) (by omega) (by decide) c42; have h1 : M.2.1 b / 100 % 10 ≠ 1 := n_ne (b := 1) (by omega) (by decide) c61; have hnb := nib_lt st (M.2.1 b / 1000); have := n_nle (by omega) (by omega) c79; rw [bI_t (by simp [hold, h0, h1]; omega)])
    · refine lv_iload_n jx jb dX9_holds_64 rfl (lv_at hl 2 rfl) ?_
      refine lv_iload_n jx jb dX9_holds_65 rfl (lv_at hl 1 rfl) ?_
      refine lv_icmp_ne (tgt := 73) jx jb dX9_holds_66 (by decide) (fun c66 => ?_) (fun c66 => ?_)
      · refine lv_iconst (v := 0) jx jb dX9_holds_73 (by decide) ?_
        refine lv_goto (tgt := 87) jx jb dX9_holds_74 (by decide) ?_
        exact ret _ _ _ _ _ dX9_holds_87 hW (by have h0 : M.2.1 b / 100 % 10 ≠ 0 := n_ne (b := 0) (by omega) (by decide) c42; have h1 : M.2.1 b / 100 % 10 = 1 := n_eq (b := 1) (by omega) (by decide) c61; have hnb := nib_lt st (M.2.1 b / 1000); have := n_ne (by omega) (by omega) c66; rw [bI_f (by simp [hold, h1]; omega)])
      · refine lv_iconst (v := 1) jx jb dX9_holds_69 (by decide) ?_
        refine lv_goto (tgt := 87) jx jb dX9_holds_70 (by decide) ?_
        exact ret _ _ _ _ _ dX9_holds_87 hW (by have h0 : M.2.1 b / 100 % 10 ≠ 0 := n_ne (b := 0) (by omega) (by decide) c42; have h1 : M.2.1 b / 100 % 10 = 1 := n_eq (b := 1) (by omega) (by decide) c61; have hnb := nib_lt st (M.2.1 b / 1000); have := n_eq (by omega) (by omega) c66; rw [bI_t (by simp [hold, h1]; omega)])
  · refine lv_iload_n jx jb dX9_holds_45 rfl (lv_at hl 2 rfl) ?_
    refine lv_iload_n jx jb dX9_holds_46 rfl (lv_at hl 1 rfl) ?_
    refine lv_icmp_ge (tgt := 54) jx jb dX9_holds_47 (by decide) (fun c47 => ?_) (fun c47 => ?_)
    · refine lv_iconst (v := 0) jx jb dX9_holds_54 (by decide) ?_
      refine lv_goto (tgt := 87) jx jb dX9_holds_55 (by decide) ?_
      exact ret _ _ _ _ _ dX9_holds_87 hW (by have h0 : M.2.1 b / 100 % 10 = 0 := n_eq (b := 0) (by omega) (by decide) c42; have hnb := nib_lt st (M.2.1 b / 1000); have := n_le (by omega) (by omega) c47; rw [bI_f (by simp [hold, h0]; omega)])
    · refine lv_iconst (v := 1) jx jb dX9_holds_50 (by decide) ?_
      refine lv_goto (tgt := 87) jx jb dX9_holds_51 (by decide) ?_
      exact ret _ _ _ _ _ dX9_holds_87 hW (by have h0 : M.2.1 b / 100 % 10 = 0 := n_eq (b := 0) (by omega) (by decide) c42; have hnb := nib_lt st (M.2.1 b / 1000); have := n_nle (by omega) (by omega) c47; rw [bI_t (by simp [hold, h0]; omega)])
