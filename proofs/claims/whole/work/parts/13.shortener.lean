def gl (row : List Nat) : Nat → Nat := fun k => row.getD k 0
theorem gl_drop (row : List Nat) (n : Nat) : gl (row.drop n) = fun i => gl row (n + i) := by
  funext i
  simp [gl, List.getD, List.getElem?_drop]
theorem gl_app_l {a b : List Nat} {i : Nat} (h : i < a.length) : gl (a ++ b) i = gl a i := by
  simp [gl, List.getD, List.getElem?_append_left h]
theorem gl_app_r {a b : List Nat} {i : Nat} : gl (a ++ b) (a.length + i) = gl b i := by
  unfold gl
  rw [List.getD_eq_getElem?_getD, List.getD_eq_getElem?_getD, List.getElem?_append_right (by omega), Nat.add_sub_cancel_left]
theorem gl_mem {row : List Nat} {i : Nat} (h : i < row.length) : gl row i ∈ row := by
  simp [gl, List.getD, h]
theorem drop_gl {row : List Nat} {k : Nat} (h : k < row.length) : row.drop k = gl row k :: row.drop (k + 1) := by
  rw [List.drop_eq_getElem_cons h]
  simp [gl, List.getD, h]
/-- whether a rest of calls, run from a state, ends as is wanted -/
def alk (M : M4) (wT wR : Int32) (s0 : Nat) (rest : List Nat) : Bool := decide (tI (tkq M (gl rest) s0 (rest.length - 1)) = wT ∧ rsq M (gl rest) s0 (rest.length - 1) = wR)
/-- one pass: from a state, each call but the last is left out if the rest ends as is wanted -/
def pasL (M : M4) (wT wR : Int32) : Nat → List Nat → List Nat
  | _, [] => []
  | s, x :: r => if r = [] then [x] else if alk M wT wR s r = true then pasL M wT wR s r else x :: pasL M wT wR (stp M x s) r
def shrL (M : M4) (wT wR : Int32) : Nat → List Nat → List Nat
  | 0, row => row
  | f + 1, row => if (pasL M wT wR 0 row).length < row.length then shrL M wT wR f (pasL M wT wR 0 row) else pasL M wT wR 0 row
theorem pasL_len {M : M4} {wT wR : Int32} : ∀ {l : List Nat} {s : Nat}, (pasL M wT wR s l).length ≤ l.length
  | [], s => Nat.le_refl _
  | x :: r, s => by
    unfold pasL
    split
    · simp
    · split
      · have := pasL_len (M := M) (wT := wT) (wR := wR) (l := r) (s := s)
        simp; omega
      · have := pasL_len (M := M) (wT := wT) (wR := wR) (l := r) (s := stp M x s)
        simp; omega
theorem pasL_pos {M : M4} {wT wR : Int32} : ∀ {l : List Nat} {s : Nat}, 1 ≤ l.length → 1 ≤ (pasL M wT wR s l).length
  | [], s, h => h
  | x :: r, s, h => by
    unfold pasL
    split
    · simp
    · rename_i hr
      split
      · exact pasL_pos (by cases r with | nil => exact absurd rfl hr | cons _ _ => simp)
      · simp
theorem pasL_mem {M : M4} {wT wR : Int32} : ∀ {l : List Nat} {s y : Nat}, y ∈ pasL M wT wR s l → y ∈ l
  | [], s, y, h => h
  | x :: r, s, y, h => by
    unfold pasL at h
    split at h
    · simp at h; simp [h]
    · split at h
      · exact List.mem_cons_of_mem _ (pasL_mem h)
      · rcases List.mem_cons.mp h with h | h
        · simp [h]
        · exact List.mem_cons_of_mem _ (pasL_mem h)
theorem shrL_pos {M : M4} {wT wR : Int32} : ∀ {f : Nat} {l : List Nat}, 1 ≤ l.length → 1 ≤ (shrL M wT wR f l).length
  | 0, l, h => h
  | f + 1, l, h => by
    unfold shrL
    split
    · exact shrL_pos (pasL_pos h)
    · exact pasL_pos h
theorem shrL_mem {M : M4} {wT wR : Int32} : ∀ {f : Nat} {l : List Nat} {y : Nat}, y ∈ shrL M wT wR f l → y ∈ l
  | 0, l, y, h => h
  | f + 1, l, y, h => by
    unfold shrL at h
    split at h
    · exact pasL_mem (shrL_mem h)
    · exact pasL_mem h
def lts (M : M4) (c : Nat → Nat) (s0 : Nat) : Nat → Int32
  | 0 => -1
  | k + 1 => tI (tkq M c s0 k)

set_option maxHeartbeats 4000000 in
set_option maxRecDepth 100000 in
theorem c_endsAlike {l : Launch} {G : va_G} {cy : Nat → ClassId} {N : Nat} {ad : Nat → Nat} {g : Nat → va_E} {n c r sz : Nat} {fc fr : Nat → Int32} {M : M4} {cl : Nat → Nat} {wT wR : Int32} {fm s0 : Nat} (hM : MachAt cy N ad g M) (f62 : g 62 = .inr (6, [.ref (ad 1), .int wT, .int wR])) (hR : RowAt cy N ad g n c r sz fc fr) (hC : ∀ k, fm ≤ k → k < sz → fc k = nI (cl k) ∧ cl k < 96) (hfm : fm < sz) (hs0 : s0 < 65536) : RI l G cy (N, ad, g) yX6_endsAlike cX6_endsAlike 8 (some .boolean) (rmN 3) [.ref (ad 62), .ref (ad n), .int (nI fm), .int (nI s0)] (bI (tI (tkq M (fun i => cl (fm + i)) s0 (sz - fm - 1)) = wT ∧ rsq M (fun i => cl (fm + i)) s0 (sz - fm - 1) = wR)) := by
  refine RI.mk (by decide) (by first | rfl | exact bI_nar) (Nat.le_of_ble_eq_true rfl) ?_
  intro jp je js jm below meth jc A Q X hW ret ls hl
  have jx := X.hx
  have jb := X.hb
  have hl : lv_has ls 8 [(0, .ref (ad 62)), (1, .ref (ad n)), (2, .int (nI fm)), (3, .int (nI s0))] := hl
  have X : Cx G cy jp js jm _ jc cX6_endsAlike 8 RX6 A js.heap := X
  have hok := hM.1
  obtain ⟨-, h83, bc_, fs_, f1, -⟩ := id hM
  obtain ⟨hn, hc, hr, q1, q2, q3, hsz, fn, fc_, fr_⟩ := id hR
  refine lv_iload_n jx jb dX6_endsAlike_0 rfl (lv_at hl 3 rfl) ?_
  refine lv_istore (lv' := [(4, .int (nI s0)), (0, .ref (ad 62)), (1, .ref (ad n)), (2, .int (nI fm)), (3, .int (nI s0))]) jx jb dX6_endsAlike_1 hl (by decide) rfl (fun ls hl => ?_)
  refine lv_iconst (v := -1) jx jb dX6_endsAlike_3 (by decide) ?_
  refine lv_istore (lv' := [(5, .int (-1)), (4, .int (nI s0)), (0, .ref (ad 62)), (1, .ref (ad n)), (2, .int (nI fm)), (3, .int (nI s0))]) jx jb dX6_endsAlike_4 hl (by decide) rfl (fun ls hl => ?_)
  refine lv_iload_n jx jb dX6_endsAlike_6 rfl (lv_at hl 4 rfl) ?_
  refine lv_istore (lv' := [(6, .int (nI fm)), (5, .int (-1)), (4, .int (nI s0)), (0, .ref (ad 62)), (1, .ref (ad n)), (2, .int (nI fm)), (3, .int (nI s0))]) jx jb dX6_endsAlike_7 hl (by decide) rfl (fun ls hl => ?_)
  have loop9 : ∀ (fuel9 : Nat) (j : Nat) (H : Heap) (locs : List Loc) (ls : Array Slot), (j ≤ sz - fm) → sz - fm - j < fuel9 → Wd G A js.heap (N, ad, g) H locs → lv_has ls 8 [(0, .ref (ad 62)), (1, .ref (ad n)), (4, .int (nI (stq M (fun i => cl (fm + i)) s0 j))), (5, .int (lts M (fun i => cl (fm + i)) s0 j)), (6, .int (nI (fm + j)))] → W jp l je (rmN 3) js jm [.ref (ad 62), .ref (ad n), .int (nI fm), .int (nI s0)].toArray below meth jc H locs 0 0 Q (F0 jm 9 ls []) := by
    intro fuel9
    induction fuel9 with
    | zero => intro j H locs ls hj  hm9; exact absurd hm9 (Nat.not_lt_zero _)
    | succ fuel9 ih9 =>
      intro j H locs ls hj  hm9 hW hl
      refine lv_iload jx jb dX6_endsAlike_9 (lv_at hl 4 rfl) ?_
      refine lv_aload_n jx jb dX6_endsAlike_11 rfl (lv_at hl 1 rfl) ?_
      refine w_rV (As := []) X hW (c_rSize hR) hn fn rfl rfl ml_X6_26 mf_X5_size ⟨Nat.le_of_ble_eq_true rfl, Nat.le_of_ble_eq_true rfl⟩ hl.1 rfl (Nat.le_of_ble_eq_true rfl) ⟨Nat.le_of_ble_eq_true rfl, Nat.le_of_ble_eq_true rfl⟩ dX6_endsAlike_12 (fun H locs hW => ?_)
      refine lv_icmp_ge (tgt := 63) jx jb dX6_endsAlike_15 (by decide) (fun c15 => ?_) (fun c15 => ?_)
      · have hge := n_le (by omega) (by omega) c15
        obtain ⟨j1, rfl⟩ : ∃ j1, j = j1 + 1 := ⟨j - 1, by omega⟩
        have hj1 : sz - fm - 1 = j1 := by omega
        have h96 := (hC (fm + j1) (by omega) (by omega)).2
        have hst1 : stq M (fun i => cl (fm + i)) s0 (j1 + 1) < 65536 := stq_lt hok hs0 (fun i hi => (hC (fm + i) (by omega) (by omega)).2)
        rw [hj1] at ret
        refine lv_iload jx jb dX6_endsAlike_63 (lv_at hl 3 rfl) ?_
        refine lv_aload_n jx jb dX6_endsAlike_65 rfl (lv_at hl 0 rfl) ?_
        refine w_get X hW K6 (by omega) f62 1 (by decide) fl_X6_9 rfl dX6_endsAlike_66 ?_
        refine lv_icmp_ne (tgt := 94) jx jb dX6_endsAlike_69 (by decide) (fun c69 => ?_) (fun c69 => ?_)
        · refine lv_iconst (v := 0) jx jb dX6_endsAlike_94 (by decide) ?_
          exact ret _ _ _ _ _ dX6_endsAlike_95 hW (bI_f (fun q => c69 q.1)).symm
        · refine lv_aload_n jx jb dX6_endsAlike_72 rfl (lv_at hl 0 rfl) ?_
          refine w_get X hW K6 (by omega) f62 0 (by decide) fl_X6_18 rfl dX6_endsAlike_73 ?_
          refine lv_iload jx jb dX6_endsAlike_76 (lv_at hl 3 rfl) ?_
          refine lv_iload jx jb dX6_endsAlike_78 (lv_at hl 2 rfl) ?_
          refine w_rV (As := [.int (lts M (fun i => cl (fm + i)) s0 (j1 + 1)), .int (nI (stq M (fun i => cl (fm + i)) s0 (j1 + 1)))]) X hW (c_resultOf (k := cl (fm + j1) / 16) (st := stq M (fun i => cl (fm + i)) s0 j1) hM (by omega) hst1) (by omega) f1 rfl rfl ml_X6_61 mf_X2_resultOf ⟨Nat.le_of_ble_eq_true rfl, Nat.le_of_ble_eq_true rfl⟩ hl.1 rfl (Nat.le_of_ble_eq_true rfl) ⟨Nat.le_of_ble_eq_true rfl, Nat.le_of_ble_eq_true rfl⟩ dX6_endsAlike_80 (fun H locs hW => ?_)
          refine top_eq (y := rsq M (fun i => cl (fm + i)) s0 j1) (rfl) ?_
          refine lv_aload_n jx jb dX6_endsAlike_83 rfl (lv_at hl 0 rfl) ?_
          refine w_get X hW K6 (by omega) f62 2 (by decide) fl_X6_15 rfl dX6_endsAlike_84 ?_
          refine lv_icmp_ne (tgt := 94) jx jb dX6_endsAlike_87 (by decide) (fun c87 => ?_) (fun c87 => ?_)
          · refine lv_iconst (v := 0) jx jb dX6_endsAlike_94 (by decide) ?_
            exact ret _ _ _ _ _ dX6_endsAlike_95 hW (bI_f (fun q => c87 q.2)).symm
          · refine lv_iconst (v := 1) jx jb dX6_endsAlike_90 (by decide) ?_
            refine lv_goto (tgt := 95) jx jb dX6_endsAlike_91 (by decide) ?_
            exact ret _ _ _ _ _ dX6_endsAlike_95 hW (bI_t ⟨c69, c87⟩).symm
      · have hlt : fm + j < sz := n_nle (by omega) (by omega) c15
        have h96 := (hC (fm + j) (by omega) hlt).2
        have hstj : stq M (fun i => cl (fm + i)) s0 j < 65536 := stq_lt hok hs0 (fun i hi => (hC (fm + i) (by omega) (by omega)).2)
        refine lv_aload_n jx jb dX6_endsAlike_18 rfl (lv_at hl 1 rfl) ?_
        refine lv_iload jx jb dX6_endsAlike_19 (lv_at hl 4 rfl) ?_
        refine w_rV (As := [.int (nI (fm + j))]) X hW (c_callAt hR hlt) hn fn rfl rfl ml_X6_36 mf_X5_callAt ⟨Nat.le_of_ble_eq_true rfl, Nat.le_of_ble_eq_true rfl⟩ hl.1 rfl (Nat.le_of_ble_eq_true rfl) ⟨Nat.le_of_ble_eq_true rfl, Nat.le_of_ble_eq_true rfl⟩ dX6_endsAlike_21 (fun H locs hW => ?_)
        refine top_eq (y := nI (cl (fm + j))) ((hC (fm + j) (by omega) hlt).1) ?_
        refine lv_istore (lv' := [(7, .int (nI (cl (fm + j)))), (0, .ref (ad 62)), (1, .ref (ad n)), (4, .int (nI (stq M (fun i => cl (fm + i)) s0 j))), (5, .int (lts M (fun i => cl (fm + i)) s0 j)), (6, .int (nI (fm + j)))]) jx jb dX6_endsAlike_24 hl (by decide) rfl (fun ls hl => ?_)
        refine lv_aload_n jx jb dX6_endsAlike_26 rfl (lv_at hl 1 rfl) ?_
        refine w_get X hW K6 (by omega) f62 0 (by decide) fl_X6_18 rfl dX6_endsAlike_27 ?_
        refine lv_iload jx jb dX6_endsAlike_30 (lv_at hl 0 rfl) ?_
        refine lv_iload jx jb dX6_endsAlike_32 (lv_at hl 3 rfl) ?_
        refine w_rV (As := [.int (nI (cl (fm + j))), .int (nI (stq M (fun i => cl (fm + i)) s0 j))]) X hW (c_takenBy hM h96 hstj) (by omega) f1 rfl rfl ml_X6_40 mf_X2_takenBy ⟨Nat.le_of_ble_eq_true rfl, Nat.le_of_ble_eq_true rfl⟩ hl.1 rfl (Nat.le_of_ble_eq_true rfl) ⟨Nat.le_of_ble_eq_true rfl, Nat.le_of_ble_eq_true rfl⟩ dX6_endsAlike_34 (fun H locs hW => ?_)
        refine top_eq (y := lts M (fun i => cl (fm + i)) s0 (j + 1)) (rfl) ?_
        refine lv_istore (lv' := [(5, .int (lts M (fun i => cl (fm + i)) s0 (j + 1))), (7, .int (nI (cl (fm + j)))), (0, .ref (ad 62)), (1, .ref (ad n)), (4, .int (nI (stq M (fun i => cl (fm + i)) s0 j))), (6, .int (nI (fm + j)))]) jx jb dX6_endsAlike_37 hl (by decide) rfl (fun ls hl => ?_)
        refine lv_aload_n jx jb dX6_endsAlike_39 rfl (lv_at hl 2 rfl) ?_
        refine w_get X hW K6 (by omega) f62 0 (by decide) fl_X6_18 rfl dX6_endsAlike_40 ?_
        refine lv_iload jx jb dX6_endsAlike_43 (lv_at hl 0 rfl) ?_
        refine lv_iload jx jb dX6_endsAlike_45 (lv_at hl 4 rfl) ?_
        refine lv_iload jx jb dX6_endsAlike_47 (lv_at hl 1 rfl) ?_
        refine w_rN (As := [.int (nI (cl (fm + j)))]) X hW (c_numberOf (by omega)) mn_X6_46 mf_X8_numberOf ⟨Nat.le_of_ble_eq_true rfl, Nat.le_of_ble_eq_true rfl⟩ hl.1 rfl (Nat.le_of_ble_eq_true rfl) ⟨Nat.le_of_ble_eq_true rfl, Nat.le_of_ble_eq_true rfl⟩ dX6_endsAlike_49 (fun H locs hW => ?_)
        refine w_rV (As := [.int (lts M (fun i => cl (fm + i)) s0 (j + 1)), .int (nI (stq M (fun i => cl (fm + i)) s0 j)), .int (nI (cl (fm + j) % 16))]) X hW (c_mStateBehind (k := cl (fm + j) / 16) (st := stq M (fun i => cl (fm + i)) s0 j) hM (by omega) hstj (Nat.mod_lt _ (by decide))) (by omega) f1 rfl rfl ml_X6_49 mf_X2_stateBehind ⟨Nat.le_of_ble_eq_true rfl, Nat.le_of_ble_eq_true rfl⟩ hl.1 rfl (Nat.le_of_ble_eq_true rfl) ⟨Nat.le_of_ble_eq_true rfl, Nat.le_of_ble_eq_true rfl⟩ dX6_endsAlike_52 (fun H locs hW => ?_)
        refine top_eq (y := nI (stq M (fun i => cl (fm + i)) s0 (j + 1))) (rfl) ?_
        refine lv_istore (lv' := [(4, .int (nI (stq M (fun i => cl (fm + i)) s0 (j + 1)))), (5, .int (lts M (fun i => cl (fm + i)) s0 (j + 1))), (7, .int (nI (cl (fm + j)))), (0, .ref (ad 62)), (1, .ref (ad n)), (6, .int (nI (fm + j)))]) jx jb dX6_endsAlike_55 hl (by decide) rfl (fun ls hl => ?_)
        refine lv_iinc (v := nI ((fm + j) + 1)) (lv' := [(6, .int (nI ((fm + j) + 1))), (4, .int (nI (stq M (fun i => cl (fm + i)) s0 (j + 1)))), (5, .int (lts M (fun i => cl (fm + i)) s0 (j + 1))), (7, .int (nI (cl (fm + j)))), (0, .ref (ad 62)), (1, .ref (ad n))]) jx jb dX6_endsAlike_57 hl (k := 5) rfl (show nI (fm + j) + 1 = nI ((fm + j) + 1) from nI_1 _) (by decide) rfl (fun ls hl => ?_)
        refine lv_goto (tgt := 9) jx jb dX6_endsAlike_60 (by decide) ?_
        exact ih9 (j + 1)  _ _ _ (by omega)  (by omega) hW (lv_sub hl [4, 5, 1, 2, 0] rfl)
  exact loop9 _ 0  _ _ _ (by omega)  (Nat.lt_succ_self _) hW (lv_sub hl [3, 4, 2, 1, 0] rfl)

set_option maxHeartbeats 4000000 in
set_option maxRecDepth 100000 in
theorem c_leaveOut {l : Launch} {G : va_G} {cy : Nat → ClassId} {N : Nat} {ad : Nat → Nat} {g : Nat → va_E} {n c r : Nat} {fc fr : Nat → Int32} {M : M4} {row : List Nat} {wT wR : Int32} (hM : MachAt cy N ad g M) (f62 : g 62 = .inr (6, [.ref (ad 1), .int wT, .int wR])) (hR : RowAt cy N ad g n c r row.length fc fr) (h1 : 1 ≤ row.length) (hC : ∀ i, i < row.length → fc i = nI (gl row i) ∧ gl row i < 96) (hd : n ≠ 62 ∧ c ≠ 62 ∧ r ≠ 62 ∧ n ≠ 1 ∧ c ≠ 1 ∧ r ≠ 1 ∧ n ≠ 2 ∧ c ≠ 2 ∧ r ≠ 2 ∧ n ≠ 3 ∧ c ≠ 3 ∧ r ≠ 3 ∧ n < 83 ∧ c < 83 ∧ r < 83) : MI l G cy (N, ad, g) yX6_leaveOut cX6_leaveOut 7 (some .boolean) (rmN 4) [.ref (ad 62), .ref (ad n)] (nA N ad (fun v g1 => ∃ fk, v = bI ((pasL M wT wR 0 row).length < row.length) ∧ RowAt cy N ad g1 n c r (pasL M wT wR 0 row).length fk fr ∧ (∀ i, i < (pasL M wT wR 0 row).length → fk i = nI (gl (pasL M wT wR 0 row) i)) ∧ Fr g g1 [n, c, r])) := by
  refine NI.mk (by decide) (by intro v g1 h; obtain ⟨_, h, -⟩ := h; rw [h]; exact bI_nar) (Nat.le_of_ble_eq_true rfl) ?_
  intro jp je js jm below meth jc A Q X hW ret ls hl
  have jx := X.hx
  have jb := X.hb
  have hl : lv_has ls 7 [(0, .ref (ad 62)), (1, .ref (ad n))] := hl
  have X : Cx G cy jp js jm _ jc cX6_leaveOut 7 RX6 A js.heap := X
  have hok := hM.1
  obtain ⟨-, h83, bc_, fs_, f1, -⟩ := id hM
  obtain ⟨hn, hc, hr, q1, q2, q3, hsz, fn, fc_, fr_⟩ := id hR
  refine lv_aload_n jx jb dX6_leaveOut_0 rfl (lv_at hl 1 rfl) ?_
  refine w_rV (As := []) X hW (c_rSize hR) hn fn rfl rfl ml_X6_26 mf_X5_size ⟨Nat.le_of_ble_eq_true rfl, Nat.le_of_ble_eq_true rfl⟩ hl.1 rfl (Nat.le_of_ble_eq_true rfl) ⟨Nat.le_of_ble_eq_true rfl, Nat.le_of_ble_eq_true rfl⟩ dX6_leaveOut_1 (fun H locs hW => ?_)
  refine lv_iconst (v := 1) jx jb dX6_leaveOut_4 (by decide) ?_
  refine lv_isub jx jb dX6_leaveOut_5 ?_
  refine top_eq (y := nI (row.length - 1)) (pk_sub (b := 1) h1) ?_
  refine lv_istore_n (lv' := [(2, .int (nI (row.length - 1))), (0, .ref (ad 62)), (1, .ref (ad n))]) jx jb dX6_leaveOut_6 rfl hl (by decide) rfl (fun ls hl => ?_)
  refine lv_iconst (v := 0) jx jb dX6_leaveOut_7 (by decide) ?_
  refine lv_istore_n (lv' := [(3, .int 0), (2, .int (nI (row.length - 1))), (0, .ref (ad 62)), (1, .ref (ad n))]) jx jb dX6_leaveOut_8 rfl hl (by decide) rfl (fun ls hl => ?_)
  refine lv_iconst (v := 0) jx jb dX6_leaveOut_9 (by decide) ?_
  refine lv_istore (lv' := [(4, .int 0), (3, .int 0), (2, .int (nI (row.length - 1))), (0, .ref (ad 62)), (1, .ref (ad n))]) jx jb dX6_leaveOut_10 hl (by decide) rfl (fun ls hl => ?_)
  refine lv_iconst (v := 0) jx jb dX6_leaveOut_12 (by decide) ?_
  refine lv_istore (lv' := [(5, .int 0), (4, .int 0), (3, .int 0), (2, .int (nI (row.length - 1))), (0, .ref (ad 62)), (1, .ref (ad n))]) jx jb dX6_leaveOut_13 hl (by decide) rfl (fun ls hl => ?_)
  have loop15 : ∀ (fuel15 : Nat) (k : Nat) (st : Nat) (fk : Nat → Int32) (pre : List Nat) (gL15 : Nat → va_E) (H : Heap) (locs : List Loc) (ls : Array Slot), (k ≤ row.length - 1) → (pre.length ≤ k) → (∀ i, i < pre.length → fk i = nI (gl pre i)) → (∀ i, k ≤ i → i < row.length → fk i = nI (gl row i)) → (st < 65536) → (pre ++ pasL M wT wR st (row.drop k) = pasL M wT wR 0 row) → gL15 n = .inr (5, [.ref (ad c), .ref (ad r), .int (nI row.length)]) → gL15 c = .inl (cy 0, 200, .inl fk) → gL15 r = .inl (cy 0, 200, .inl fr) → gL15 62 = .inr (6, [.ref (ad 1), .int wT, .int wR]) → gL15 1 = .inr (2, [.ref (ad 2), .ref (ad 3)]) → Fr g gL15 [n, c, r] → row.length - k < fuel15 → Wd G A js.heap (N, ad, gL15) H locs → lv_has ls 7 [(0, .ref (ad 62)), (1, .ref (ad n)), (2, .int (nI (row.length - 1))), (3, .int (nI pre.length)), (4, .int (nI st)), (5, .int (nI k))] → W jp l je (rmN 4) js jm [.ref (ad 62), .ref (ad n)].toArray below meth jc H locs 0 0 Q (F0 jm 15 ls []) := by
    intro fuel15
    induction fuel15 with
    | zero => intro k st fk pre gL15 H locs ls hk hq hpre hrest hst hpas fL15_0 fL15_1 fL15_2 fL15_3 fL15_4 hfr15 hm15; exact absurd hm15 (Nat.not_lt_zero _)
    | succ fuel15 ih15 =>
      intro k st fk pre gL15 H locs ls hk hq hpre hrest hst hpas fL15_0 fL15_1 fL15_2 fL15_3 fL15_4 hfr15 hm15 hW hl
      refine lv_iload jx jb dX6_leaveOut_15 (lv_at hl 5 rfl) ?_
      refine lv_iload_n jx jb dX6_leaveOut_17 rfl (lv_at hl 2 rfl) ?_
      refine lv_icmp_ge (tgt := 86) jx jb dX6_leaveOut_18 (by decide) (fun c18 => ?_) (fun c18 => ?_)
      · have hge := n_le (by omega) (by omega) c18
        have hke : k = row.length - 1 := by omega
        have hkl : k < row.length := by omega
        have hdk : row.drop k = [gl row k] := by rw [drop_gl hkl, List.drop_eq_nil_of_le (by omega)]
        have hfin : pasL M wT wR 0 row = pre ++ [gl row k] := by rw [← hpas, hdk]; rfl
        refine lv_aload_n jx jb dX6_leaveOut_86 rfl (lv_at hl 1 rfl) ?_
        refine lv_iload_n jx jb dX6_leaveOut_87 rfl (lv_at hl 2 rfl) ?_
        refine lv_iload_n jx jb dX6_leaveOut_88 rfl (lv_at hl 3 rfl) ?_
        refine w_nVv (As := [.int (nI (row.length - 1)), .int (nI pre.length)]) X hW (c_move ⟨hn, hc, hr, q1, q2, q3, hsz, fL15_0, fL15_1, fL15_2⟩ (by omega) (by omega)) hn fL15_0 rfl rfl ml_X6_53 mf_X5_move ⟨Nat.le_of_ble_eq_true rfl, Nat.le_of_ble_eq_true rfl⟩ hl.1 rfl (Nat.le_of_ble_eq_true rfl) ⟨Nat.le_of_ble_eq_true rfl, Nat.le_of_ble_eq_true rfl⟩ dX6_leaveOut_89 (fun g1 H locs hp hW => ?_)
        obtain ⟨hRhv1, hv1⟩ := hp
        obtain ⟨-, -, -, -, -, -, -, p8, p9, p10⟩ := id hRhv1
        have hf3 : g1 62 = .inr (6, [.ref (ad 1), .int wT, .int wR]) := (hv1 62 (by simp only [List.mem_cons, List.not_mem_nil, or_false, not_or] <;> omega)).trans fL15_3
        have hf4 : g1 1 = .inr (2, [.ref (ad 2), .ref (ad 3)]) := (hv1 1 (by simp only [List.mem_cons, List.not_mem_nil, or_false, not_or] <;> omega)).trans fL15_4
        refine lv_aload_n jx jb dX6_leaveOut_92 rfl (lv_at hl 1 rfl) ?_
        refine lv_iload_n jx jb dX6_leaveOut_93 rfl (lv_at hl 3 rfl) ?_
        refine lv_iconst (v := 1) jx jb dX6_leaveOut_94 (by decide) ?_
        refine lv_iadd jx jb dX6_leaveOut_95 ?_
        refine top_eq (y := nI (pre.length + 1)) (nI_1 _) ?_
        refine w_nVv (As := [.int (nI (pre.length + 1))]) X hW (c_cutTo ⟨hn, hc, hr, q1, q2, q3, hsz, p8, p9, p10⟩ (by omega)) hn p8 rfl rfl ml_X6_57 mf_X5_cutTo ⟨Nat.le_of_ble_eq_true rfl, Nat.le_of_ble_eq_true rfl⟩ hl.1 rfl (Nat.le_of_ble_eq_true rfl) ⟨Nat.le_of_ble_eq_true rfl, Nat.le_of_ble_eq_true rfl⟩ dX6_leaveOut_96 (fun g2 H locs hp hW => ?_)
        obtain ⟨hR2, hv2⟩ := hp
        obtain ⟨-, -, -, -, -, -, -, p8, p9, p10⟩ := id hR2
        have hf5 : g2 62 = .inr (6, [.ref (ad 1), .int wT, .int wR]) := (hv2 62 (by simp only [List.mem_cons, List.not_mem_nil, or_false, not_or] <;> omega)).trans hf3
        have hf6 : g2 1 = .inr (2, [.ref (ad 2), .ref (ad 3)]) := (hv2 1 (by simp only [List.mem_cons, List.not_mem_nil, or_false, not_or] <;> omega)).trans hf4
        refine lv_iload_n jx jb dX6_leaveOut_99 rfl (lv_at hl 3 rfl) ?_
        refine lv_iload_n jx jb dX6_leaveOut_100 rfl (lv_at hl 2 rfl) ?_
        refine lv_icmp_ge (tgt := 108) jx jb dX6_leaveOut_101 (by decide) (fun c101 => ?_) (fun c101 => ?_)
        · refine lv_iconst (v := 0) jx jb dX6_leaveOut_108 (by decide) ?_
          exact ret _ _ _ _ _ _ dX6_leaveOut_109 hW ⟨_, (bI_f (by rw [hfin]; simp; have := n_le (by omega) (by omega) c101; omega)).symm, (by rw [hfin, show (pre ++ [gl row k]).length = pre.length + 1 by simp]; exact hR2), (fun i hi => by rw [hfin] at hi ⊢; simp at hi; by_cases e : i = pre.length; (rw [e, pk_us, hrest (row.length - 1) (by omega) (by omega), ← hke, show gl (pre ++ [gl row k]) pre.length = gl row k from gl_app_r (i := 0)]); (rw [pk_un e, gl_app_l (by omega)]; exact hpre i (by omega))), (fun k hk => by show g2 k = _; simp only [List.mem_cons, List.not_mem_nil, or_false, not_or] at hk; rw [hv2 k (by simp only [List.mem_cons, List.not_mem_nil, or_false, not_or] <;> omega), hv1 k (by simp only [List.mem_cons, List.not_mem_nil, or_false, not_or] <;> omega), hfr15 k (by simp only [List.mem_cons, List.not_mem_nil, or_false, not_or] <;> omega)])⟩
        · refine lv_iconst (v := 1) jx jb dX6_leaveOut_104 (by decide) ?_
          refine lv_goto (tgt := 109) jx jb dX6_leaveOut_105 (by decide) ?_
          exact ret _ _ _ _ _ _ dX6_leaveOut_109 hW ⟨_, (bI_t (by rw [hfin]; simp; have := n_nle (by omega) (by omega) c101; omega)).symm, (by rw [hfin, show (pre ++ [gl row k]).length = pre.length + 1 by simp]; exact hR2), (fun i hi => by rw [hfin] at hi ⊢; simp at hi; by_cases e : i = pre.length; (rw [e, pk_us, hrest (row.length - 1) (by omega) (by omega), ← hke, show gl (pre ++ [gl row k]) pre.length = gl row k from gl_app_r (i := 0)]); (rw [pk_un e, gl_app_l (by omega)]; exact hpre i (by omega))), (fun k hk => by show g2 k = _; simp only [List.mem_cons, List.not_mem_nil, or_false, not_or] at hk; rw [hv2 k (by simp only [List.mem_cons, List.not_mem_nil, or_false, not_or] <;> omega), hv1 k (by simp only [List.mem_cons, List.not_mem_nil, or_false, not_or] <;> omega), hfr15 k (by simp only [List.mem_cons, List.not_mem_nil, or_false, not_or] <;> omega)])⟩
      · have hlt : k < row.length - 1 := n_nle (by omega) (by omega) c18
        have hkl : k < row.length := by omega
        have hk96 := (hC k hkl).2
        have hdk := drop_gl hkl
        have hne : ¬ row.drop (k + 1) = [] := fun z => by have := congrArg List.length z; simp at this; omega
        refine lv_aload_n jx jb dX6_leaveOut_21 rfl (lv_at hl 0 rfl) ?_
        refine lv_aload_n jx jb dX6_leaveOut_22 rfl (lv_at hl 1 rfl) ?_
        refine lv_iload jx jb dX6_leaveOut_23 (lv_at hl 5 rfl) ?_
        refine lv_iconst (v := 1) jx jb dX6_leaveOut_25 (by decide) ?_
        refine lv_iadd jx jb dX6_leaveOut_26 ?_
        refine top_eq (y := nI (k + 1)) (nI_1 _) ?_
        refine lv_iload jx jb dX6_leaveOut_27 (lv_at hl 4 rfl) ?_
        refine w_rV (As := [.ref (ad n), .int (nI (k + 1)), .int (nI st)]) X hW (c_endsAlike (cl := gl row) (hM.fr (fun k hk => by show gL15 k = _; rw [hfr15 k (by simp only [List.mem_cons, List.not_mem_nil, or_false, not_or] <;> omega)])) fL15_3 ⟨hn, hc, hr, q1, q2, q3, hsz, fL15_0, fL15_1, fL15_2⟩ (fun i h1 h2 => ⟨hrest i (by omega) h2, (hC i h2).2⟩) (by omega) hst) (by omega) fL15_3 rfl rfl ml_X6_32 mf_X6_endsAlike ⟨Nat.le_of_ble_eq_true rfl, Nat.le_of_ble_eq_true rfl⟩ hl.1 rfl (Nat.le_of_ble_eq_true rfl) ⟨Nat.le_of_ble_eq_true rfl, Nat.le_of_ble_eq_true rfl⟩ dX6_leaveOut_29 (fun H locs hW => ?_)
        refine top_eq (y := bI (alk M wT wR st (row.drop (k + 1)) = true)) (bI_iff (by unfold alk; rw [gl_drop, List.length_drop, decide_eq_true_iff])) ?_
        refine lv_if_ne (tgt := 80) jx jb dX6_leaveOut_32 (by decide) (fun c32 => ?_) (fun c32 => ?_)
        · have hal := bI_n0.mp c32
          refine lv_iinc (v := nI (k + 1)) (lv' := [(5, .int (nI (k + 1))), (0, .ref (ad 62)), (1, .ref (ad n)), (2, .int (nI (row.length - 1))), (3, .int (nI pre.length)), (4, .int (nI st))]) jx jb dX6_leaveOut_80 hl (k := 5) rfl (show nI k + 1 = nI (k + 1) from nI_1 _) (by decide) rfl (fun ls hl => ?_)
          refine lv_goto (tgt := 15) jx jb dX6_leaveOut_83 (by decide) ?_
          exact ih15 (k + 1) st fk pre gL15 _ _ _ (by omega) (by omega) hpre (fun i h1 h2 => hrest i (by omega) h2) hst (by rw [← hpas, hdk, pasL, if_neg hne, if_pos hal]) fL15_0 fL15_1 fL15_2 fL15_3 fL15_4 (fun k hk => by show gL15 k = _; simp only [List.mem_cons, List.not_mem_nil, or_false, not_or] at hk; rw [hfr15 k (by simp only [List.mem_cons, List.not_mem_nil, or_false, not_or] <;> omega)]) (by omega) hW (lv_sub hl [1, 2, 3, 4, 5, 0] rfl)
        · have hal := bI_0.mp c32
          refine lv_aload_n jx jb dX6_leaveOut_35 rfl (lv_at hl 1 rfl) ?_
          refine lv_iload jx jb dX6_leaveOut_36 (lv_at hl 5 rfl) ?_
          refine w_rV (As := [.int (nI k)]) X hW (c_callAt ⟨hn, hc, hr, q1, q2, q3, hsz, fL15_0, fL15_1, fL15_2⟩ hkl) hn fL15_0 rfl rfl ml_X6_36 mf_X5_callAt ⟨Nat.le_of_ble_eq_true rfl, Nat.le_of_ble_eq_true rfl⟩ hl.1 rfl (Nat.le_of_ble_eq_true rfl) ⟨Nat.le_of_ble_eq_true rfl, Nat.le_of_ble_eq_true rfl⟩ dX6_leaveOut_38 (fun H locs hW => ?_)
          refine top_eq (y := nI (gl row k)) (hrest k (Nat.le_refl _) hkl) ?_
          refine lv_istore (lv' := [(6, .int (nI (gl row k))), (0, .ref (ad 62)), (1, .ref (ad n)), (2, .int (nI (row.length - 1))), (3, .int (nI pre.length)), (4, .int (nI st)), (5, .int (nI k))]) jx jb dX6_leaveOut_41 hl (by decide) rfl (fun ls hl => ?_)
          refine lv_aload_n jx jb dX6_leaveOut_43 rfl (lv_at hl 1 rfl) ?_
          refine w_get X hW K6 (by omega) fL15_3 0 (by decide) fl_X6_18 rfl dX6_leaveOut_44 ?_
          refine lv_aload_n jx jb dX6_leaveOut_47 rfl (lv_at hl 1 rfl) ?_
          refine w_get X hW K6 (by omega) fL15_3 0 (by decide) fl_X6_18 rfl dX6_leaveOut_48 ?_
          refine lv_iload jx jb dX6_leaveOut_51 (lv_at hl 0 rfl) ?_
          refine lv_iload jx jb dX6_leaveOut_53 (lv_at hl 5 rfl) ?_
          refine w_rV (As := [.int (nI (gl row k)), .int (nI st)]) X hW (c_takenBy (hM.fr (fun k hk => by show gL15 k = _; rw [hfr15 k (by simp only [List.mem_cons, List.not_mem_nil, or_false, not_or] <;> omega)])) hk96 hst) (by omega) fL15_4 rfl rfl ml_X6_40 mf_X2_takenBy ⟨Nat.le_of_ble_eq_true rfl, Nat.le_of_ble_eq_true rfl⟩ hl.1 rfl (Nat.le_of_ble_eq_true rfl) ⟨Nat.le_of_ble_eq_true rfl, Nat.le_of_ble_eq_true rfl⟩ dX6_leaveOut_55 (fun H locs hW => ?_)
          refine lv_iload jx jb dX6_leaveOut_58 (lv_at hl 5 rfl) ?_
          refine lv_iload jx jb dX6_leaveOut_60 (lv_at hl 0 rfl) ?_
          refine w_rN (As := [.int (nI (gl row k))]) X hW (c_numberOf (by omega)) mn_X6_46 mf_X8_numberOf ⟨Nat.le_of_ble_eq_true rfl, Nat.le_of_ble_eq_true rfl⟩ hl.1 rfl (Nat.le_of_ble_eq_true rfl) ⟨Nat.le_of_ble_eq_true rfl, Nat.le_of_ble_eq_true rfl⟩ dX6_leaveOut_62 (fun H locs hW => ?_)
          refine w_rV (As := [.int (tI (tk M (gl row k / 16) st)), .int (nI st), .int (nI (gl row k % 16))]) X hW (c_mStateBehind (hM.fr (fun k hk => by show gL15 k = _; rw [hfr15 k (by simp only [List.mem_cons, List.not_mem_nil, or_false, not_or] <;> omega)])) (by omega) hst (Nat.mod_lt _ (by decide))) (by omega) fL15_4 rfl rfl ml_X6_49 mf_X2_stateBehind ⟨Nat.le_of_ble_eq_true rfl, Nat.le_of_ble_eq_true rfl⟩ hl.1 rfl (Nat.le_of_ble_eq_true rfl) ⟨Nat.le_of_ble_eq_true rfl, Nat.le_of_ble_eq_true rfl⟩ dX6_leaveOut_65 (fun H locs hW => ?_)
          refine top_eq (y := nI (stp M (gl row k) st)) (rfl) ?_
          refine lv_istore (lv' := [(4, .int (nI (stp M (gl row k) st))), (6, .int (nI (gl row k))), (0, .ref (ad 62)), (1, .ref (ad n)), (2, .int (nI (row.length - 1))), (3, .int (nI pre.length)), (5, .int (nI k))]) jx jb dX6_leaveOut_68 hl (by decide) rfl (fun ls hl => ?_)
          refine lv_aload_n jx jb dX6_leaveOut_70 rfl (lv_at hl 3 rfl) ?_
          refine lv_iload jx jb dX6_leaveOut_71 (lv_at hl 6 rfl) ?_
          refine lv_iload_n jx jb dX6_leaveOut_73 rfl (lv_at hl 5 rfl) ?_
          refine w_nVv (As := [.int (nI k), .int (nI pre.length)]) X hW (c_move ⟨hn, hc, hr, q1, q2, q3, hsz, fL15_0, fL15_1, fL15_2⟩ hkl (by omega)) hn fL15_0 rfl rfl ml_X6_53 mf_X5_move ⟨Nat.le_of_ble_eq_true rfl, Nat.le_of_ble_eq_true rfl⟩ hl.1 rfl (Nat.le_of_ble_eq_true rfl) ⟨Nat.le_of_ble_eq_true rfl, Nat.le_of_ble_eq_true rfl⟩ dX6_leaveOut_74 (fun g1 H locs hp hW => ?_)
          obtain ⟨hRhv7, hv7⟩ := hp
          obtain ⟨-, -, -, -, -, -, -, p8, p9, p10⟩ := id hRhv7
          have hf9 : g1 62 = .inr (6, [.ref (ad 1), .int wT, .int wR]) := (hv7 62 (by simp only [List.mem_cons, List.not_mem_nil, or_false, not_or] <;> omega)).trans fL15_3
          have hf10 : g1 1 = .inr (2, [.ref (ad 2), .ref (ad 3)]) := (hv7 1 (by simp only [List.mem_cons, List.not_mem_nil, or_false, not_or] <;> omega)).trans fL15_4
          refine lv_iinc (v := nI (pre.length + 1)) (lv' := [(3, .int (nI (pre.length + 1))), (4, .int (nI (stp M (gl row k) st))), (6, .int (nI (gl row k))), (0, .ref (ad 62)), (1, .ref (ad n)), (2, .int (nI (row.length - 1))), (5, .int (nI k))]) jx jb dX6_leaveOut_77 hl (k := 5) rfl (show nI pre.length + 1 = nI (pre.length + 1) from nI_1 _) (by decide) rfl (fun ls hl => ?_)
          have hl : lv_has ls 7 [(3, .int (nI (pre ++ [gl row k]).length)), (4, .int (nI (stp M (gl row k) st))), (6, .int (nI (gl row k))), (0, .ref (ad 62)), (1, .ref (ad n)), (2, .int (nI (row.length - 1))), (5, .int (nI k))] := by rw [show nI (pre ++ [gl row k]).length = nI (pre.length + 1) from by simp]; exact hl
          refine lv_iinc (v := nI (k + 1)) (lv' := [(5, .int (nI (k + 1))), (3, .int (nI (pre ++ [gl row k]).length)), (4, .int (nI (stp M (gl row k) st))), (6, .int (nI (gl row k))), (0, .ref (ad 62)), (1, .ref (ad n)), (2, .int (nI (row.length - 1)))]) jx jb dX6_leaveOut_80 hl (k := 6) rfl (show nI k + 1 = nI (k + 1) from nI_1 _) (by decide) rfl (fun ls hl => ?_)
          refine lv_goto (tgt := 15) jx jb dX6_leaveOut_83 (by decide) ?_
          exact ih15 (k + 1) (stp M (gl row k) st) _ (pre ++ [gl row k]) g1 _ _ _ (by omega) (by simp; omega) (fun i hi => by simp at hi; by_cases e : i = pre.length; (rw [e, pk_us, hrest k (Nat.le_refl _) hkl, show gl (pre ++ [gl row k]) pre.length = gl row k from gl_app_r (i := 0)]); (rw [pk_un e, gl_app_l (by omega)]; exact hpre i (by omega))) (fun i h1 h2 => by rw [pk_un (by omega)]; exact hrest i (by omega) h2) (nx_lt hok (by omega) hst) (by rw [← hpas, hdk, pasL, if_neg hne, if_neg hal, List.append_assoc]; rfl) p8 p9 p10 hf9 hf10 (fun k hk => by show g1 k = _; simp only [List.mem_cons, List.not_mem_nil, or_false, not_or] at hk; rw [hv7 k (by simp only [List.mem_cons, List.not_mem_nil, or_false, not_or] <;> omega), hfr15 k (by simp only [List.mem_cons, List.not_mem_nil, or_false, not_or] <;> omega)]) (by omega) hW (lv_sub hl [4, 5, 6, 1, 2, 0] rfl)
  exact loop15 _ 0 0 _ [] g _ _ _ (by omega) (Nat.le_refl _) (fun i hi => absurd hi (by simp)) (fun i _ h2 => (hC i h2).1) (by decide) rfl fn fc_ fr_ f62 f1 (fun k hk => rfl) (Nat.lt_succ_self _) hW (lv_sub hl [4, 5, 3, 2, 1, 0] rfl)

set_option maxHeartbeats 4000000 in
set_option maxRecDepth 100000 in
theorem c_shorten {l : Launch} {G : va_G} {cy : Nat → ClassId} {N : Nat} {ad : Nat → Nat} {g : Nat → va_E} {n c r : Nat} {fc fr : Nat → Int32} {M : M4} {row : List Nat} {wT wR w0 w1 : Int32} (hM : MachAt cy N ad g M) (f62 : g 62 = .inr (6, [.ref (ad 1), .int w0, .int w1])) (hR : RowAt cy N ad g n c r row.length fc fr) (h1 : 1 ≤ row.length) (h96r : ∀ x, x ∈ row → x < 96) (hC : ∀ i, i < row.length → fc i = nI (gl row i)) (hd : n ≠ 62 ∧ c ≠ 62 ∧ r ≠ 62 ∧ n ≠ 1 ∧ c ≠ 1 ∧ r ≠ 1 ∧ n ≠ 2 ∧ c ≠ 2 ∧ r ≠ 2 ∧ n ≠ 3 ∧ c ≠ 3 ∧ r ≠ 3 ∧ n < 83 ∧ c < 83 ∧ r < 83) : MV l G cy (N, ad, g) yX6_shorten cX6_shorten 6 none (rmN 5) [.ref (ad 62), .ref (ad n), .int wT, .int wR] (nV N ad (fun g1 => ∃ fk, RowAt cy N ad g1 n c r (shrL M wT wR 201 row).length fk fr ∧ (∀ i, i < (shrL M wT wR 201 row).length → fk i = nI (gl (shrL M wT wR 201 row) i)) ∧ g1 62 = .inr (6, [.ref (ad 1), .int wT, .int wR]) ∧ Fr g g1 [n, c, r, 62])) := by
  refine NV.mk (by decide) (Nat.le_of_ble_eq_true rfl) ?_
  intro jp je js jm below meth jc A Q X hW ret ls hl
  have jx := X.hx
  have jb := X.hb
  have hl : lv_has ls 6 [(0, .ref (ad 62)), (1, .ref (ad n)), (2, .int wT), (3, .int wR)] := hl
  have X : Cx G cy jp js jm _ jc cX6_shorten 6 RX6 A js.heap := X
  have hok := hM.1
  obtain ⟨-, h83, bc_, fs_, f1, -⟩ := id hM
  obtain ⟨hn, hc, hr, q1, q2, q3, hsz, fn, fc_, fr_⟩ := id hR
  refine lv_aload_n jx jb dX6_shorten_0 rfl (lv_at hl 0 rfl) ?_
  refine lv_iload_n jx jb dX6_shorten_1 rfl (lv_at hl 2 rfl) ?_
  refine w_put X hW K6 (by omega) f62 1 (by decide) fl_X6_9 rfl rfl rfl (Nat.le_of_ble_eq_true rfl) dX6_shorten_2 (fun H locs hW => ?_)
  obtain ⟨g_1, eg_1⟩ : ∃ zz, zz = va_up g 62 (.inr (6, [.ref (ad 1), .int wT, .int w1])) := ⟨_, rfl⟩
  have hW : Wd G A js.heap (N, ad, g_1) H locs := by rw [eg_1]; exact hW
  have hf2 : g_1 62 = .inr (6, [.ref (ad 1), .int wT, .int w1]) := by rw [eg_1]; exact va_up_s
  have hf3 : g_1 1 = .inr (2, [.ref (ad 2), .ref (ad 3)]) := by rw [eg_1]; exact (va_up_n (by decide)).trans f1
  have hf4 : g_1 n = .inr (5, [.ref (ad c), .ref (ad r), .int (nI row.length)]) := by rw [eg_1]; exact (va_up_n (by omega)).trans fn
  have hf5 : g_1 c = .inl (cy 0, 200, .inl fc) := by rw [eg_1]; exact (va_up_n (by omega)).trans fc_
  have hf6 : g_1 r = .inl (cy 0, 200, .inl fr) := by rw [eg_1]; exact (va_up_n (by omega)).trans fr_
  refine lv_aload_n jx jb dX6_shorten_5 rfl (lv_at hl 0 rfl) ?_
  refine lv_iload_n jx jb dX6_shorten_6 rfl (lv_at hl 3 rfl) ?_
  refine w_put X hW K6 (by omega) hf2 2 (by decide) fl_X6_15 rfl rfl rfl (Nat.le_of_ble_eq_true rfl) dX6_shorten_7 (fun H locs hW => ?_)
  obtain ⟨g_7, eg_7⟩ : ∃ zz, zz = va_up g_1 62 (.inr (6, [.ref (ad 1), .int wT, .int wR])) := ⟨_, rfl⟩
  have hW : Wd G A js.heap (N, ad, g_7) H locs := by rw [eg_7]; exact hW
  have hf8 : g_7 62 = .inr (6, [.ref (ad 1), .int wT, .int wR]) := by rw [eg_7]; exact va_up_s
  have hf9 : g_7 1 = .inr (2, [.ref (ad 2), .ref (ad 3)]) := by rw [eg_7]; exact (va_up_n (by decide)).trans hf3
  have hf10 : g_7 n = .inr (5, [.ref (ad c), .ref (ad r), .int (nI row.length)]) := by rw [eg_7]; exact (va_up_n (by omega)).trans hf4
  have hf11 : g_7 c = .inl (cy 0, 200, .inl fc) := by rw [eg_7]; exact (va_up_n (by omega)).trans hf5
  have hf12 : g_7 r = .inl (cy 0, 200, .inl fr) := by rw [eg_7]; exact (va_up_n (by omega)).trans hf6
  refine lv_iconst (v := 1) jx jb dX6_shorten_10 (by decide) ?_
  refine lv_istore (lv' := [(4, .int 1), (0, .ref (ad 62)), (1, .ref (ad n)), (2, .int wT), (3, .int wR)]) jx jb dX6_shorten_11 hl (by decide) rfl (fun ls hl => ?_)
  refine lv_iconst (v := 0) jx jb dX6_shorten_13 (by decide) ?_
  refine lv_istore (lv' := [(5, .int 0), (4, .int 1), (0, .ref (ad 62)), (1, .ref (ad n)), (2, .int wT), (3, .int wR)]) jx jb dX6_shorten_14 hl (by decide) rfl (fun ls hl => ?_)
  have loop16 : ∀ (fuel16 : Nat) (p : Nat) (ag : Bool) (rw_ : List Nat) (fk : Nat → Int32) (gL16 : Nat → va_E) (H : Heap) (locs : List Loc) (ls : Array Slot), (p ≤ 201) → (1 ≤ rw_.length) → (rw_.length ≤ 200) → (∀ x, x ∈ rw_ → x < 96) → (∀ i, i < rw_.length → fk i = nI (gl rw_ i)) → ((if ag = true then shrL M wT wR (201 - p) rw_ else rw_) = shrL M wT wR 201 row) → gL16 n = .inr (5, [.ref (ad c), .ref (ad r), .int (nI rw_.length)]) → gL16 c = .inl (cy 0, 200, .inl fk) → gL16 r = .inl (cy 0, 200, .inl fr) → gL16 62 = .inr (6, [.ref (ad 1), .int wT, .int wR]) → gL16 1 = .inr (2, [.ref (ad 2), .ref (ad 3)]) → Fr g gL16 [n, c, r, 62] → 201 - p < fuel16 → Wd G A js.heap (N, ad, gL16) H locs → lv_has ls 6 [(0, .ref (ad 62)), (1, .ref (ad n)), (4, .int (bI (ag = true))), (5, .int (nI p))] → W jp l je (rmN 5) js jm [.ref (ad 62), .ref (ad n), .int wT, .int wR].toArray below meth jc H locs 0 0 Q (F0 jm 16 ls []) := by
    intro fuel16
    induction fuel16 with
    | zero => intro p ag rw_ fk gL16 H locs ls hp h1r h2r h96 hcr hsh fL16_0 fL16_1 fL16_2 fL16_3 fL16_4 hfr16 hm16; exact absurd hm16 (Nat.not_lt_zero _)
    | succ fuel16 ih16 =>
      intro p ag rw_ fk gL16 H locs ls hp h1r h2r h96 hcr hsh fL16_0 fL16_1 fL16_2 fL16_3 fL16_4 hfr16 hm16 hW hl
      refine lv_iload jx jb dX6_shorten_16 (lv_at hl 2 rfl) ?_
      refine lv_if_eq (tgt := 42) jx jb dX6_shorten_18 (by decide) (fun c18 => ?_) (fun c18 => ?_)
      · exact ret _ _ _ _ _ dX6_shorten_42 hW (by have e : shrL M wT wR 201 row = rw_ := (by rw [← hsh, if_neg (bI_0.mp c18)]); rw [e]; exact ⟨fk, ⟨hn, hc, hr, q1, q2, q3, h2r, fL16_0, fL16_1, fL16_2⟩, hcr, fL16_3, (fun k hk => by show gL16 k = _; simp only [List.mem_cons, List.not_mem_nil, or_false, not_or] at hk; rw [hfr16 k (by simp only [List.mem_cons, List.not_mem_nil, or_false, not_or] <;> omega)])⟩)
      · refine lv_iload jx jb dX6_shorten_21 (lv_at hl 3 rfl) ?_
        refine lv_sipush (v := 200) jx jb dX6_shorten_23 (by decide) ?_
        refine lv_icmp_gt (tgt := 42) jx jb dX6_shorten_26 (by decide) (fun c26 => ?_) (fun c26 => ?_)
        · exact ret _ _ _ _ _ dX6_shorten_42 hW (by have e : shrL M wT wR 201 row = rw_ := (by have hq := n_lt (a := 200) (by decide) (by omega) c26; rw [← hsh, if_pos (bI_n0.mp c18), show 201 - p = 0 by omega]; rfl); rw [e]; exact ⟨fk, ⟨hn, hc, hr, q1, q2, q3, h2r, fL16_0, fL16_1, fL16_2⟩, hcr, fL16_3, (fun k hk => by show gL16 k = _; simp only [List.mem_cons, List.not_mem_nil, or_false, not_or] at hk; rw [hfr16 k (by simp only [List.mem_cons, List.not_mem_nil, or_false, not_or] <;> omega)])⟩)
        · refine lv_aload_n jx jb dX6_shorten_29 rfl (lv_at hl 0 rfl) ?_
          refine lv_aload_n jx jb dX6_shorten_30 rfl (lv_at hl 1 rfl) ?_
          have hag := bI_n0.mp c18
          have hp200 := n_nlt (a := 200) (by decide) (by omega) c26
          refine w_nV (As := [.ref (ad n)]) X hW (c_leaveOut (row := rw_) (hM.fr (fun k hk => by show gL16 k = _; rw [hfr16 k (by simp only [List.mem_cons, List.not_mem_nil, or_false, not_or] <;> omega)])) fL16_3 ⟨hn, hc, hr, q1, q2, q3, h2r, fL16_0, fL16_1, fL16_2⟩ h1r (fun i hi => ⟨hcr i hi, h96 _ (gl_mem hi)⟩) hd) (by omega) fL16_3 rfl rfl ml_X6_22 mf_X6_leaveOut ⟨Nat.le_of_ble_eq_true rfl, Nat.le_of_ble_eq_true rfl⟩ hl.1 rfl (Nat.le_of_ble_eq_true rfl) ⟨Nat.le_of_ble_eq_true rfl, Nat.le_of_ble_eq_true rfl⟩ dX6_shorten_31 (fun r1 g1 H locs hp hW => ?_)
          obtain ⟨fk1, er1, hR1, hcr1, pfr⟩ := hp
          obtain ⟨-, -, -, -, -, -, -, p8, p9, p10⟩ := id hR1
          have hf13 : g1 62 = .inr (6, [.ref (ad 1), .int wT, .int wR]) := (pfr 62 (by simp only [List.mem_cons, List.not_mem_nil, or_false, not_or] <;> omega)).trans fL16_3
          have hf14 : g1 1 = .inr (2, [.ref (ad 2), .ref (ad 3)]) := (pfr 1 (by simp only [List.mem_cons, List.not_mem_nil, or_false, not_or] <;> omega)).trans fL16_4
          refine top_eq (y := bI (decide ((pasL M wT wR 0 rw_).length < rw_.length) = true)) (by rw [er1]; exact bI_iff (by simp)) ?_
          refine lv_istore (lv' := [(4, .int (bI (decide ((pasL M wT wR 0 rw_).length < rw_.length) = true))), (0, .ref (ad 62)), (1, .ref (ad n)), (5, .int (nI p))]) jx jb dX6_shorten_34 hl (by decide) rfl (fun ls hl => ?_)
          refine lv_iinc (v := nI (p + 1)) (lv' := [(5, .int (nI (p + 1))), (4, .int (bI (decide ((pasL M wT wR 0 rw_).length < rw_.length) = true))), (0, .ref (ad 62)), (1, .ref (ad n))]) jx jb dX6_shorten_36 hl (k := 3) rfl (show nI p + 1 = nI (p + 1) from nI_1 _) (by decide) rfl (fun ls hl => ?_)
          refine lv_goto (tgt := 16) jx jb dX6_shorten_39 (by decide) ?_
          exact ih16 (p + 1) (decide ((pasL M wT wR 0 rw_).length < rw_.length)) (pasL M wT wR 0 rw_) _ g1 _ _ _ (by omega) (pasL_pos h1r) (by have := pasL_len (M := M) (wT := wT) (wR := wR) (l := rw_) (s := 0); omega) (fun x hx => h96 x (pasL_mem hx)) hcr1 (by rw [← hsh, if_pos hag, show 201 - p = (201 - (p + 1)) + 1 by omega, shrL]; simp only [decide_eq_true_eq]) p8 p9 p10 hf13 hf14 (fun k hk => by show g1 k = _; simp only [List.mem_cons, List.not_mem_nil, or_false, not_or] at hk; rw [pfr k (by simp only [List.mem_cons, List.not_mem_nil, or_false, not_or] <;> omega), hfr16 k (by simp only [List.mem_cons, List.not_mem_nil, or_false, not_or] <;> omega)]) (by omega) hW (lv_sub hl [2, 3, 1, 0] rfl)
  exact loop16 _ 0 true row _ g_7 _ _ _ (by omega) h1 (by omega) h96r (fun i hi => (hC i hi)) rfl hf10 hf11 hf12 hf8 hf9 (fun k hk => by show g_7 k = _; simp only [List.mem_cons, List.not_mem_nil, or_false, not_or] at hk; rw [eg_7, va_up_n (by omega), eg_1, va_up_n (by omega)]) (Nat.lt_succ_self _) hW (lv_sub hl [2, 3, 1, 0] rfl)
