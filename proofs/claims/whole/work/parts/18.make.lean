set_option maxHeartbeats 4000000 in
set_option maxRecDepth 100000 in
theorem c_makeNo {l : Launch} {G : va_G} {cy : Nat → ClassId} {N : Nat} {ad : Nat → Nat} {g : Nat → va_E} {M : M4} {lg : List Nat} {lr lt : Nat → Int32} {st T : Nat} {p : Nat → Nat} {x : Nat → TT} {i : Int32} (hX : XAt cy N ad g M lg lr lt st T p x) (hno : ¬ (T < 12 ∧ 0 ≤ i ∧ i < nI lg.length)) : RI l G cy (N, ad, g) yX8_make cX8_make 3 (some .int) (rmN 6) [.ref (ad 0), .int i] (-1) := by
  refine RI.mk (by decide) (by first | rfl | exact bI_nar) (Nat.le_of_ble_eq_true rfl) ?_
  intro jp je js jm below meth jc A Q X hW ret ls hl
  have jx := X.hx
  have jb := X.hb
  have hl : lv_has ls 3 [(0, .ref (ad 0)), (1, .int i)] := hl
  have X : Cx G cy jp js jm _ jc cX8_make 3 RX8 A js.heap := X
  obtain ⟨f0, hM, ⟨fc, hL, hlc, hl96⟩, hS, ⟨psz, pf, mt, ltt, hP⟩, ⟨w0, w1, f62⟩⟩ := id hX
  obtain ⟨hok, h83, bc_, fs_, f1, -⟩ := id hM
  obtain ⟨-, hRL, hst, f4, f8⟩ := id hL
  have f5 := hRL.2.2.2.2.2.2.2.1
  have hlen := hRL.2.2.2.2.2.2.1
  obtain ⟨-, hT, hp12, hinj, ⟨ft, fm, f9, f10, f11, hft⟩, hx⟩ := id hS
  obtain ⟨-, hpsz, f60, f61⟩ := id hP
  refine lv_aload_n jx jb dX8_make_0 rfl (lv_at hl 0 rfl) ?_
  refine w_get X hW K8 (by omega) f0 2 (by decide) fl_X8_26 rfl dX8_make_1 ?_
  refine w_rVr (As := []) X hW (c_spare hS) (by omega) f9 rfl rfl ml_X8_95 mf_X7_spare ⟨Nat.le_of_ble_eq_true rfl, Nat.le_of_ble_eq_true rfl⟩ hl.1 rfl (Nat.le_of_ble_eq_true rfl) ⟨Nat.le_of_ble_eq_true rfl, Nat.le_of_ble_eq_true rfl⟩ dX8_make_4 (fun H locs hW => ?_)
  by_cases hTT : T < 12
  · refine top_q (y := some (ad (12 + 4 * p T))) (if_pos hTT) ?_
    refine lv_astore_n (lv' := [(2, .ref (ad (12 + 4 * p T))), (0, .ref (ad 0)), (1, .int i)]) jx jb dX8_make_7 rfl hl (by decide) rfl (fun ls hl => ?_)
    refine lv_aload_n jx jb dX8_make_8 rfl (lv_at hl 0 rfl) ?_
    refine lv_ifnull jx jb dX8_make_9 ?_
    refine lv_iload_n jx jb dX8_make_12 rfl (lv_at hl 2 rfl) ?_
    refine lv_aload_n jx jb dX8_make_13 rfl (lv_at hl 1 rfl) ?_
    refine w_get X hW K8 (by omega) f0 1 (by decide) fl_X8_19 rfl dX8_make_14 ?_
    refine w_rV (As := []) X hW (c_lSize hL) (by omega) f4 rfl rfl ml_X8_99 mf_X1_size ⟨Nat.le_of_ble_eq_true rfl, Nat.le_of_ble_eq_true rfl⟩ hl.1 rfl (Nat.le_of_ble_eq_true rfl) ⟨Nat.le_of_ble_eq_true rfl, Nat.le_of_ble_eq_true rfl⟩ dX8_make_17 (fun H locs hW => ?_)
    refine w_rS (As := [.int i, .int (nI lg.length)]) X hW (c_isBelow) ml_X8_77 mf_X8_isBelow ⟨Nat.le_of_ble_eq_true rfl, Nat.le_of_ble_eq_true rfl⟩ hl.1 rfl (Nat.le_of_ble_eq_true rfl) ⟨Nat.le_of_ble_eq_true rfl, Nat.le_of_ble_eq_true rfl⟩ dX8_make_20 (fun H locs hW => ?_)
    refine lv_if_ne (tgt := 28) jx jb dX8_make_23 (by decide) (fun c23 => ?_) (fun c23 => ?_)
    · exact absurd ⟨hTT, bI_n0.mp c23⟩ hno
    · refine lv_iconst (v := -1) jx jb dX8_make_26 (by decide) ?_
      exact ret _ _ _ _ _ dX8_make_27 hW rfl
  · refine top_q (y := none) (if_neg hTT) ?_
    refine lv_astore_nN (lv' := [(2, .null), (0, .ref (ad 0)), (1, .int i)]) jx jb dX8_make_7 rfl hl (by decide) rfl (fun ls hl => ?_)
    refine lv_aload_nN jx jb dX8_make_8 rfl (lv_at hl 0 rfl) ?_
    refine lv_ifnullN (tgt := 26) jx jb dX8_make_9 (by decide) ?_
    refine lv_iconst (v := -1) jx jb dX8_make_26 (by decide) ?_
    exact ret _ _ _ _ _ dX8_make_27 hW rfl

/-- the row that a test of call j of the log has -/
def mkRow (M : M4) (lg : List Nat) (j : Nat) : List Nat := shrL M (tI (tkq M (gl (lg.take (j + 1))) 0 j)) (rsq M (gl (lg.take (j + 1))) 0 j) 201 (lg.take (j + 1))
theorem gl_take {l : List Nat} {n i : Nat} (h : i < n) : gl (l.take n) i = gl l i := by
  simp [gl, List.getD, List.getElem?_take, h]

theorem likeK_congr {y z : Nat → TT} {row : List Nat} : ∀ {n : Nat}, (∀ i, i < n → y i = z i) → likeK y row n = likeK z row n
  | 0, _ => rfl
  | n + 1, h => by
    unfold likeK
    rw [h n (by omega), likeK_congr (fun i hi => h i (by omega))]
theorem XAt.putP {cy : Nat → ClassId} {N : Nat} {ad : Nat → Nat} {g g' : Nat → va_E} {M : M4} {lg : List Nat} {lr lt : Nat → Int32} {st T : Nat} {p : Nat → Nat} {x : Nat → TT} {q : Nat} {t : TT} (h : XAt cy N ad g M lg lr lt st T p x) (h1 : ∀ k, k ≠ 12 + 4 * q → k ≠ 13 + 4 * q → k ≠ 14 + 4 * q → k ≠ 15 + 4 * q → k ≠ 60 → k ≠ 61 → g' k = g k) (ht : TstAt cy N ad g' q t) (hP : ∃ psz pf mt lt, RepAt cy N ad g' psz pf mt lt) (hq : q < 12) : XAt cy N ad g' M lg lr lt st T p (va_up x q t) := by
  obtain ⟨a, b, ⟨fc, c1, c2, c3⟩, d, -, ⟨f1, f2, f3⟩⟩ := h
  exact ⟨(h1 0 (by omega) (by omega) (by omega) (by omega) (by omega) (by omega)).trans a, b.fr (fun k hk => h1 k (by omega) (by omega) (by omega) (by omega) (by omega) (by omega)), ⟨fc, c1.fr (fun k _ _ => h1 k (by omega) (by omega) (by omega) (by omega) (by omega) (by omega)), c2, c3⟩, d.put (fun k k1 k2 k3 k4 k5 k6 => h1 k k1 k2 k3 k4 (by omega) (by omega)) ht, hP, ⟨f1, f2, (h1 62 (by omega) (by omega) (by omega) (by omega) (by omega) (by omega)).trans f3⟩⟩
theorem XAt.keep {cy : Nat → ClassId} {N : Nat} {ad : Nat → Nat} {g g' : Nat → va_E} {M : M4} {lg : List Nat} {lr lt : Nat → Int32} {st T T' : Nat} {p p' : Nat → Nat} {x x' : Nat → TT} (h : XAt cy N ad g M lg lr lt st T p x) (h1 : ∀ k, ¬ (9 ≤ k ∧ k < 60) → g' k = g k) (hS : SuAt cy N ad g' T' p' x') : XAt cy N ad g' M lg lr lt st T' p' x' := by
  obtain ⟨a, b, ⟨fc, c1, c2, c3⟩, d, ⟨e1, e2, e3, e4, e5⟩, ⟨f1, f2, f3⟩⟩ := h
  exact ⟨(h1 0 (by omega)).trans a, b.fr (fun k hk => h1 k (by omega)), ⟨fc, c1.fr (fun k _ _ => h1 k (by omega)), c2, c3⟩, hS, ⟨e1, e2, e3, e4, e5.1, e5.2.1, (h1 60 (by omega)).trans e5.2.2.1, (h1 61 (by omega)).trans e5.2.2.2⟩, ⟨f1, f2, (h1 62 (by omega)).trans f3⟩⟩

set_option maxHeartbeats 4000000 in
set_option maxRecDepth 100000 in
theorem c_make {l : Launch} {G : va_G} {cy : Nat → ClassId} {N : Nat} {ad : Nat → Nat} {g : Nat → va_E} {M : M4} {lg : List Nat} {lr lt : Nat → Int32} {st T : Nat} {p : Nat → Nat} {x : Nat → TT} {j : Nat} (hX : XAt cy N ad g M lg lr lt st T p x) (hTT : T < 12) (hj : j < lg.length) : MI l G cy (N, ad, g) yX8_make cX8_make 3 (some .int) (rmN 6) [.ref (ad 0), .int (nI j)] (nA N ad (fun v g1 => if likeK (fun i => x (p i)) (mkRow M lg j) T = true then v = -1 ∧ ∃ t, XAt cy N ad g1 M lg lr lt st T p (va_up x (p T) t) ∧ ∀ k, 63 ≤ k → g1 k = g k else v = nI T ∧ XAt cy N ad g1 M lg lr lt st (T + 1) p (va_up x (p T) (nwT M (mkRow M lg j))) ∧ ∀ k, 63 ≤ k → g1 k = g k)) := by
  refine NI.mk (by decide) (by intros; first | rfl | (simp_all; done)) (Nat.le_of_ble_eq_true rfl) ?_
  intro jp je js jm below meth jc A Q X hW ret ls hl
  have jx := X.hx
  have jb := X.hb
  have hl : lv_has ls 3 [(0, .ref (ad 0)), (1, .int (nI j))] := hl
  have X : Cx G cy jp js jm _ jc cX8_make 3 RX8 A js.heap := X
  obtain ⟨f0, hM, ⟨fc, hL, hlc, hl96⟩, hS, ⟨psz, pf, mt, ltt, hP⟩, ⟨w0, w1, f62⟩⟩ := id hX
  obtain ⟨hok, h83, bc_, fs_, f1, -⟩ := id hM
  obtain ⟨-, hRL, hst, f4, f8⟩ := id hL
  have f5 := hRL.2.2.2.2.2.2.2.1
  have hlen := hRL.2.2.2.2.2.2.1
  obtain ⟨-, hT, hp12, hinj, ⟨ft, fm, f9, f10, f11, hft⟩, hx⟩ := id hS
  obtain ⟨-, hpsz, f60, f61⟩ := id hP
  have hq12 := hp12 T hTT
  obtain ⟨tfc, tfr, t1, tR, tc, t96, ta⟩ := hx (p T) hq12
  have htl := tR.2.2.2.2.2.2.1
  refine lv_aload_n jx jb dX8_make_0 rfl (lv_at hl 0 rfl) ?_
  refine w_get X hW K8 (by omega) f0 2 (by decide) fl_X8_26 rfl dX8_make_1 ?_
  refine w_rVr (As := []) X hW (c_spare hS) (by omega) f9 rfl rfl ml_X8_95 mf_X7_spare ⟨Nat.le_of_ble_eq_true rfl, Nat.le_of_ble_eq_true rfl⟩ hl.1 rfl (Nat.le_of_ble_eq_true rfl) ⟨Nat.le_of_ble_eq_true rfl, Nat.le_of_ble_eq_true rfl⟩ dX8_make_4 (fun H locs hW => ?_)
  refine top_q (y := some (ad (12 + 4 * p T))) (if_pos hTT) ?_
  refine lv_astore_n (lv' := [(2, .ref (ad (12 + 4 * p T))), (0, .ref (ad 0)), (1, .int (nI j))]) jx jb dX8_make_7 rfl hl (by decide) rfl (fun ls hl => ?_)
  refine lv_aload_n jx jb dX8_make_8 rfl (lv_at hl 0 rfl) ?_
  refine lv_ifnull jx jb dX8_make_9 ?_
  refine lv_iload_n jx jb dX8_make_12 rfl (lv_at hl 2 rfl) ?_
  refine lv_aload_n jx jb dX8_make_13 rfl (lv_at hl 1 rfl) ?_
  refine w_get X hW K8 (by omega) f0 1 (by decide) fl_X8_19 rfl dX8_make_14 ?_
  refine w_rV (As := []) X hW (c_lSize hL) (by omega) f4 rfl rfl ml_X8_99 mf_X1_size ⟨Nat.le_of_ble_eq_true rfl, Nat.le_of_ble_eq_true rfl⟩ hl.1 rfl (Nat.le_of_ble_eq_true rfl) ⟨Nat.le_of_ble_eq_true rfl, Nat.le_of_ble_eq_true rfl⟩ dX8_make_17 (fun H locs hW => ?_)
  refine w_rS (As := [.int (nI j), .int (nI lg.length)]) X hW (c_isBelow) ml_X8_77 mf_X8_isBelow ⟨Nat.le_of_ble_eq_true rfl, Nat.le_of_ble_eq_true rfl⟩ hl.1 rfl (Nat.le_of_ble_eq_true rfl) ⟨Nat.le_of_ble_eq_true rfl, Nat.le_of_ble_eq_true rfl⟩ dX8_make_20 (fun H locs hW => ?_)
  refine lv_if_ne (tgt := 28) jx jb dX8_make_23 (by decide) (fun c23 => ?_) (fun c23 => ?_)
  · refine lv_aload_n jx jb dX8_make_28 rfl (lv_at hl 0 rfl) ?_
    refine w_getN X hW K3 (by omega) t1 0 (by decide) fn_X8_102 rfl dX8_make_29 ?_
    refine lv_aload_n jx jb dX8_make_32 rfl (lv_at hl 1 rfl) ?_
    refine w_get X hW K8 (by omega) f0 1 (by decide) fl_X8_19 rfl dX8_make_33 ?_
    refine w_getN X hW K1 (by omega) f4 0 (by decide) fn_X8_108 rfl dX8_make_36 ?_
    refine lv_iload_n jx jb dX8_make_39 rfl (lv_at hl 2 rfl) ?_
    refine lv_iconst (v := 1) jx jb dX8_make_40 (by decide) ?_
    refine lv_iadd jx jb dX8_make_41 ?_
    refine top_eq (y := nI (j + 1)) (nI_1 _) ?_
    refine w_nVv (As := [.ref (ad 5), .int (nI (j + 1))]) X hW (c_copyStart tR hRL (by omega) (by omega)) (by omega) tR.2.2.2.2.2.2.2.1 rfl rfl ml_X8_109 mf_X5_copyStart ⟨Nat.le_of_ble_eq_true rfl, Nat.le_of_ble_eq_true rfl⟩ hl.1 rfl (Nat.le_of_ble_eq_true rfl) ⟨Nat.le_of_ble_eq_true rfl, Nat.le_of_ble_eq_true rfl⟩ dX8_make_42 (fun ga H locs hp hW => ?_)
    obtain ⟨fk, fq, aR, acp, afr⟩ := hp
    have hr0 : (lg.take (j + 1)).length = j + 1 := by rw [List.length_take]; omega
    have hf1 : ga 0 = .inr (8, [.ref (ad 1), .ref (ad 4), .ref (ad 9), .ref (ad 60), .ref (ad 62)]) := (afr 0 (by simp only [List.mem_cons, List.not_mem_nil, or_false, not_or] <;> omega)).trans f0
    have hf2 : ga 9 = .inr (7, [.ref (ad 10), .ref (ad 11), .int (nI T)]) := (afr 9 (by simp only [List.mem_cons, List.not_mem_nil, or_false, not_or] <;> omega)).trans f9
    have hf3 : ga 4 = .inr (1, [.ref (ad 5), .ref (ad 8), .int (nI st)]) := (afr 4 (by simp only [List.mem_cons, List.not_mem_nil, or_false, not_or] <;> omega)).trans f4
    have hf4 : ga 5 = .inr (5, [.ref (ad 6), .ref (ad 7), .int (nI lg.length)]) := (afr 5 (by simp only [List.mem_cons, List.not_mem_nil, or_false, not_or] <;> omega)).trans f5
    have hf5 : ga 60 = .inr (4, [.ref (ad 1), .ref (ad 61), .int (nI psz), .int mt, .int ltt]) := (afr 60 (by simp only [List.mem_cons, List.not_mem_nil, or_false, not_or] <;> omega)).trans f60
    have hf6 : ga 62 = .inr (6, [.ref (ad 1), .int w0, .int w1]) := (afr 62 (by simp only [List.mem_cons, List.not_mem_nil, or_false, not_or] <;> omega)).trans f62
    have hf7 : ga (12 + 4 * p T) = .inr (3, [.ref (ad (13 + 4 * p T)), .int ((x (p T)).2.2.1), .int (bI ((x (p T)).2.2.2.1 = true)), .int (bI ((x (p T)).2.2.2.2 = true))]) := (afr (12 + 4 * p T) (by simp only [List.mem_cons, List.not_mem_nil, or_false, not_or] <;> omega)).trans t1
    have aRc : ∀ i, i < j + 1 → fk i = nI (gl (lg.take (j + 1)) i) := fun i hi => by rw [acp i hi, hlc i (by omega), gl_take hi]
    have a96 : ∀ x, x ∈ (lg.take (j + 1)) → x < 96 := fun x hx => hl96 x (List.mem_of_mem_take hx)
    have hMa : MachAt cy N ad ga M := hM.fr (fun k hk => by show ga k = _; rw [afr k (by simp only [List.mem_cons, List.not_mem_nil, or_false, not_or] <;> omega)])
    have hPa : RepAt cy N ad ga psz pf mt ltt := ⟨h83, hpsz, (afr 60 (by simp only [List.mem_cons, List.not_mem_nil, or_false, not_or] <;> omega)).trans f60, (afr 61 (by simp only [List.mem_cons, List.not_mem_nil, or_false, not_or] <;> omega)).trans f61⟩
    refine lv_aload_n jx jb dX8_make_45 rfl (lv_at hl 1 rfl) ?_
    refine w_get X hW K8 (by omega) hf1 3 (by decide) fl_X8_35 rfl dX8_make_46 ?_
    refine lv_aload_n jx jb dX8_make_49 rfl (lv_at hl 0 rfl) ?_
    refine w_getN X hW K3 (by omega) hf7 0 (by decide) fn_X8_102 rfl dX8_make_50 ?_
    refine w_nVv (As := [.ref (ad (13 + 4 * p T))]) X hW (c_play hMa hPa aR (fun i hi => ⟨aRc i hi, a96 _ (gl_mem (by omega))⟩) (by omega)) (by omega) hf5 rfl rfl ml_X8_115 mf_X4_play ⟨Nat.le_of_ble_eq_true rfl, Nat.le_of_ble_eq_true rfl⟩ hl.1 rfl (Nat.le_of_ble_eq_true rfl) ⟨Nat.le_of_ble_eq_true rfl, Nat.le_of_ble_eq_true rfl⟩ dX8_make_53 (fun gb H locs hp hW => ?_)
    obtain ⟨pb, bP, bres, bfr⟩ := hp
    have hf8 : gb 0 = .inr (8, [.ref (ad 1), .ref (ad 4), .ref (ad 9), .ref (ad 60), .ref (ad 62)]) := (bfr 0 (by simp only [List.mem_cons, List.not_mem_nil, or_false, not_or] <;> omega)).trans hf1
    have hf9 : gb 9 = .inr (7, [.ref (ad 10), .ref (ad 11), .int (nI T)]) := (bfr 9 (by simp only [List.mem_cons, List.not_mem_nil, or_false, not_or] <;> omega)).trans hf2
    have hf10 : gb 4 = .inr (1, [.ref (ad 5), .ref (ad 8), .int (nI st)]) := (bfr 4 (by simp only [List.mem_cons, List.not_mem_nil, or_false, not_or] <;> omega)).trans hf3
    have hf11 : gb 5 = .inr (5, [.ref (ad 6), .ref (ad 7), .int (nI lg.length)]) := (bfr 5 (by simp only [List.mem_cons, List.not_mem_nil, or_false, not_or] <;> omega)).trans hf4
    have hf12 : gb 62 = .inr (6, [.ref (ad 1), .int w0, .int w1]) := (bfr 62 (by simp only [List.mem_cons, List.not_mem_nil, or_false, not_or] <;> omega)).trans hf6
    have hf13 : gb (12 + 4 * p T) = .inr (3, [.ref (ad (13 + 4 * p T)), .int ((x (p T)).2.2.1), .int (bI ((x (p T)).2.2.2.1 = true)), .int (bI ((x (p T)).2.2.2.2 = true))]) := (bfr (12 + 4 * p T) (by simp only [List.mem_cons, List.not_mem_nil, or_false, not_or] <;> omega)).trans hf7
    have hf14 : gb (13 + 4 * p T) = .inr (5, [.ref (ad (14 + 4 * p T)), .ref (ad (15 + 4 * p T)), .int (nI (j + 1))]) := (bfr (13 + 4 * p T) (by simp only [List.mem_cons, List.not_mem_nil, or_false, not_or] <;> omega)).trans aR.2.2.2.2.2.2.2.1
    have bR := aR.fr (bfr (13 + 4 * p T) (by simp only [List.mem_cons, List.not_mem_nil, or_false, not_or] <;> omega)) (bfr (14 + 4 * p T) (by simp only [List.mem_cons, List.not_mem_nil, or_false, not_or] <;> omega)) (bfr (15 + 4 * p T) (by simp only [List.mem_cons, List.not_mem_nil, or_false, not_or] <;> omega))
    have hMb : MachAt cy N ad gb M := hM.fr (fun k hk => by show gb k = _; rw [bfr k (by simp only [List.mem_cons, List.not_mem_nil, or_false, not_or] <;> omega), afr k (by simp only [List.mem_cons, List.not_mem_nil, or_false, not_or] <;> omega)])
    have b62 : gb 62 = _ := (show gb 62 = g 62 from by rw [bfr _ (by simp only [List.mem_cons, List.not_mem_nil, or_false, not_or] <;> omega), afr _ (by simp only [List.mem_cons, List.not_mem_nil, or_false, not_or] <;> omega)]).trans f62
    refine lv_aload_n jx jb dX8_make_56 rfl (lv_at hl 1 rfl) ?_
    refine w_get X hW K8 (by omega) hf8 4 (by decide) fl_X8_42 rfl dX8_make_57 ?_
    refine lv_aload_n jx jb dX8_make_60 rfl (lv_at hl 0 rfl) ?_
    refine w_getN X hW K3 (by omega) hf13 0 (by decide) fn_X8_102 rfl dX8_make_61 ?_
    refine lv_aload_n jx jb dX8_make_64 rfl (lv_at hl 1 rfl) ?_
    refine w_get X hW K8 (by omega) hf8 3 (by decide) fl_X8_35 rfl dX8_make_65 ?_
    refine w_rV (As := []) X hW (c_lastTaken bP) (by omega) bP.2.2.1 rfl rfl ml_X8_119 mf_X4_lastTaken ⟨Nat.le_of_ble_eq_true rfl, Nat.le_of_ble_eq_true rfl⟩ hl.1 rfl (Nat.le_of_ble_eq_true rfl) ⟨Nat.le_of_ble_eq_true rfl, Nat.le_of_ble_eq_true rfl⟩ dX8_make_68 (fun H locs hW => ?_)
    refine top_eq (y := (tI (tkq M (gl (lg.take (j + 1))) 0 j))) (rfl) ?_
    refine lv_aload_n jx jb dX8_make_71 rfl (lv_at hl 1 rfl) ?_
    refine w_get X hW K8 (by omega) hf8 3 (by decide) fl_X8_35 rfl dX8_make_72 ?_
    refine w_rV (As := []) X hW (c_lastResult bP (by omega)) (by omega) bP.2.2.1 rfl rfl ml_X8_122 mf_X4_lastResult ⟨Nat.le_of_ble_eq_true rfl, Nat.le_of_ble_eq_true rfl⟩ hl.1 rfl (Nat.le_of_ble_eq_true rfl) ⟨Nat.le_of_ble_eq_true rfl, Nat.le_of_ble_eq_true rfl⟩ dX8_make_75 (fun H locs hW => ?_)
    refine top_eq (y := (rsq M (gl (lg.take (j + 1))) 0 j)) (bres j (by omega)) ?_
    refine w_nVv (As := [.ref (ad (13 + 4 * p T)), .int (tI (tkq M (gl (lg.take (j + 1))) 0 j)), .int (rsq M (gl (lg.take (j + 1))) 0 j)]) X hW (c_shorten (row := (lg.take (j + 1))) hMb b62 (by rw [hr0]; exact bR) (by omega) a96 (fun i hi => aRc i (by omega)) (by omega)) (by omega) hf12 rfl rfl ml_X8_125 mf_X6_shorten ⟨Nat.le_of_ble_eq_true rfl, Nat.le_of_ble_eq_true rfl⟩ hl.1 rfl (Nat.le_of_ble_eq_true rfl) ⟨Nat.le_of_ble_eq_true rfl, Nat.le_of_ble_eq_true rfl⟩ dX8_make_78 (fun gc H locs hp hW => ?_)
    obtain ⟨fs, cR, ccr, c62, cfr⟩ := hp
    have cpos : 1 ≤ (mkRow M lg j).length := shrL_pos (by omega)
    have c96 : ∀ x, x ∈ (mkRow M lg j) → x < 96 := fun x hx => a96 x (shrL_mem hx)
    have cR : RowAt cy N ad gc (13 + 4 * p T) (14 + 4 * p T) (15 + 4 * p T) (mkRow M lg j).length fs fq := cR
    have ccr : ∀ i, i < (mkRow M lg j).length → fs i = nI (gl (mkRow M lg j) i) := ccr
    have hf15 : gc 0 = .inr (8, [.ref (ad 1), .ref (ad 4), .ref (ad 9), .ref (ad 60), .ref (ad 62)]) := (cfr 0 (by simp only [List.mem_cons, List.not_mem_nil, or_false, not_or] <;> omega)).trans hf8
    have hf16 : gc 9 = .inr (7, [.ref (ad 10), .ref (ad 11), .int (nI T)]) := (cfr 9 (by simp only [List.mem_cons, List.not_mem_nil, or_false, not_or] <;> omega)).trans hf9
    have hf17 : gc 4 = .inr (1, [.ref (ad 5), .ref (ad 8), .int (nI st)]) := (cfr 4 (by simp only [List.mem_cons, List.not_mem_nil, or_false, not_or] <;> omega)).trans hf10
    have hf18 : gc 5 = .inr (5, [.ref (ad 6), .ref (ad 7), .int (nI lg.length)]) := (cfr 5 (by simp only [List.mem_cons, List.not_mem_nil, or_false, not_or] <;> omega)).trans hf11
    have hf19 : gc 60 = .inr (4, [.ref (ad 1), .ref (ad 61), .int (nI (j + 1)), .int (mtq M (gl (lg.take (j + 1))) (j + 1)), .int (ltq M (gl (lg.take (j + 1))) (j + 1))]) := (cfr 60 (by simp only [List.mem_cons, List.not_mem_nil, or_false, not_or] <;> omega)).trans bP.2.2.1
    have hf20 : gc (12 + 4 * p T) = .inr (3, [.ref (ad (13 + 4 * p T)), .int ((x (p T)).2.2.1), .int (bI ((x (p T)).2.2.2.1 = true)), .int (bI ((x (p T)).2.2.2.2 = true))]) := (cfr (12 + 4 * p T) (by simp only [List.mem_cons, List.not_mem_nil, or_false, not_or] <;> omega)).trans hf13
    have cS : SuAt cy N ad gc T p (va_up x (p T) ((mkRow M lg j), fq, (x (p T)).2.2)) := hS.put (fun k k1 k2 k3 k4 k5 k6 => by show gc k = _; rw [cfr k (by simp only [List.mem_cons, List.not_mem_nil, or_false, not_or]; omega), bfr k (by simp only [List.mem_cons, List.not_mem_nil, or_false, not_or]; omega), afr k (by simp only [List.mem_cons, List.not_mem_nil, or_false, not_or]; omega)]) ⟨fs, fq, hf20, cR, ccr, c96, fun i hi => rfl⟩
    have cX : XAt cy N ad gc M lg lr lt st T p (va_up x (p T) ((mkRow M lg j), fq, (x (p T)).2.2)) := ⟨hf15, hM.fr (fun k hk => by show gc k = _; rw [cfr k (by simp only [List.mem_cons, List.not_mem_nil, or_false, not_or] <;> omega), bfr k (by simp only [List.mem_cons, List.not_mem_nil, or_false, not_or] <;> omega), afr k (by simp only [List.mem_cons, List.not_mem_nil, or_false, not_or] <;> omega)]), ⟨fc, hL.fr (fun k hk1 hk2 => by show gc k = _; rw [cfr k (by simp only [List.mem_cons, List.not_mem_nil, or_false, not_or] <;> omega), bfr k (by simp only [List.mem_cons, List.not_mem_nil, or_false, not_or] <;> omega), afr k (by simp only [List.mem_cons, List.not_mem_nil, or_false, not_or] <;> omega)]), hlc, hl96⟩, cS, ⟨_, pb, _, _, bP.1, bP.2.1, (cfr 60 (by simp only [List.mem_cons, List.not_mem_nil, or_false, not_or] <;> omega)).trans bP.2.2.1, (cfr 61 (by simp only [List.mem_cons, List.not_mem_nil, or_false, not_or] <;> omega)).trans bP.2.2.2⟩, ⟨_, _, c62⟩⟩
    have cfr63 : ∀ k, 63 ≤ k → gc k = g k := (fun k hk => by show gc k = _; rw [cfr k (by simp only [List.mem_cons, List.not_mem_nil, or_false, not_or] <;> omega), bfr k (by simp only [List.mem_cons, List.not_mem_nil, or_false, not_or] <;> omega), afr k (by simp only [List.mem_cons, List.not_mem_nil, or_false, not_or] <;> omega)])
    have hlk : likeK (fun i => va_up x (p T) ((mkRow M lg j), fq, (x (p T)).2.2) (p i)) (va_up x (p T) ((mkRow M lg j), fq, (x (p T)).2.2) (p T)).1 T = likeK (fun i => x (p i)) (mkRow M lg j) T := by rw [va_up_s]; exact likeK_congr (fun i hi => by rw [va_up_n (fun e => by have := hinj i T (by omega) hTT e; omega)])
    refine lv_aload_n jx jb dX8_make_81 rfl (lv_at hl 1 rfl) ?_
    refine w_get X hW K8 (by omega) hf15 2 (by decide) fl_X8_26 rfl dX8_make_82 ?_
    refine lv_aload_n jx jb dX8_make_85 rfl (lv_at hl 0 rfl) ?_
    refine w_rV (As := [.ref (ad (12 + 4 * p T))]) X hW (c_hasLike cS hq12) (by omega) hf16 rfl rfl ml_X8_129 mf_X7_hasLike ⟨Nat.le_of_ble_eq_true rfl, Nat.le_of_ble_eq_true rfl⟩ hl.1 rfl (Nat.le_of_ble_eq_true rfl) ⟨Nat.le_of_ble_eq_true rfl, Nat.le_of_ble_eq_true rfl⟩ dX8_make_86 (fun H locs hW => ?_)
    refine top_eq (y := bI (likeK (fun i => x (p i)) (mkRow M lg j) T = true)) (congrArg (fun b : Bool => bI (b = true)) hlk) ?_
    refine lv_if_eq (tgt := 94) jx jb dX8_make_89 (by decide) (fun c89 => ?_) (fun c89 => ?_)
    · obtain ⟨-, -, -, -, ⟨zz1, zz2, zz3, zz4, cX60⟩, -⟩ := id cX
      refine lv_aload_n jx jb dX8_make_94 rfl (lv_at hl 1 rfl) ?_
      refine w_get X hW K8 (by omega) hf15 3 (by decide) fl_X8_35 rfl dX8_make_95 ?_
      refine lv_aload_n jx jb dX8_make_98 rfl (lv_at hl 0 rfl) ?_
      refine w_getN X hW K3 (by omega) hf20 0 (by decide) fn_X8_102 rfl dX8_make_99 ?_
      refine w_nVv (As := [.ref (ad (13 + 4 * p T))]) X hW (c_play cX.2.1 ⟨h83, cX60.2.1, cX60.2.2⟩ cR (fun i hi => ⟨ccr i hi, c96 _ (gl_mem hi)⟩) (by omega)) (by omega) hf19 rfl rfl ml_X8_115 mf_X4_play ⟨Nat.le_of_ble_eq_true rfl, Nat.le_of_ble_eq_true rfl⟩ hl.1 rfl (Nat.le_of_ble_eq_true rfl) ⟨Nat.le_of_ble_eq_true rfl, Nat.le_of_ble_eq_true rfl⟩ dX8_make_102 (fun gd H locs hp hW => ?_)
      obtain ⟨pd, dP, dres, dfr⟩ := hp
      have hf21 : gd 0 = .inr (8, [.ref (ad 1), .ref (ad 4), .ref (ad 9), .ref (ad 60), .ref (ad 62)]) := (dfr 0 (by simp only [List.mem_cons, List.not_mem_nil, or_false, not_or] <;> omega)).trans hf15
      have hf22 : gd 9 = .inr (7, [.ref (ad 10), .ref (ad 11), .int (nI T)]) := (dfr 9 (by simp only [List.mem_cons, List.not_mem_nil, or_false, not_or] <;> omega)).trans hf16
      have hf23 : gd 4 = .inr (1, [.ref (ad 5), .ref (ad 8), .int (nI st)]) := (dfr 4 (by simp only [List.mem_cons, List.not_mem_nil, or_false, not_or] <;> omega)).trans hf17
      have hf24 : gd 5 = .inr (5, [.ref (ad 6), .ref (ad 7), .int (nI lg.length)]) := (dfr 5 (by simp only [List.mem_cons, List.not_mem_nil, or_false, not_or] <;> omega)).trans hf18
      have hf25 : gd 62 = .inr (6, [.ref (ad 1), .int (tI (tkq M (gl (lg.take (j + 1))) 0 j)), .int (rsq M (gl (lg.take (j + 1))) 0 j)]) := (dfr 62 (by simp only [List.mem_cons, List.not_mem_nil, or_false, not_or] <;> omega)).trans c62
      have hf26 : gd (12 + 4 * p T) = .inr (3, [.ref (ad (13 + 4 * p T)), .int ((x (p T)).2.2.1), .int (bI ((x (p T)).2.2.2.1 = true)), .int (bI ((x (p T)).2.2.2.2 = true))]) := (dfr (12 + 4 * p T) (by simp only [List.mem_cons, List.not_mem_nil, or_false, not_or] <;> omega)).trans hf20
      have hf27 : gd (13 + 4 * p T) = .inr (5, [.ref (ad (14 + 4 * p T)), .ref (ad (15 + 4 * p T)), .int (nI (mkRow M lg j).length)]) := (dfr (13 + 4 * p T) (by simp only [List.mem_cons, List.not_mem_nil, or_false, not_or] <;> omega)).trans cR.2.2.2.2.2.2.2.1
      have dR := cR.fr (dfr (13 + 4 * p T) (by simp only [List.mem_cons, List.not_mem_nil, or_false, not_or] <;> omega)) (dfr (14 + 4 * p T) (by simp only [List.mem_cons, List.not_mem_nil, or_false, not_or] <;> omega)) (dfr (15 + 4 * p T) (by simp only [List.mem_cons, List.not_mem_nil, or_false, not_or] <;> omega))
      refine lv_aload_n jx jb dX8_make_105 rfl (lv_at hl 0 rfl) ?_
      refine lv_aload_n jx jb dX8_make_106 rfl (lv_at hl 1 rfl) ?_
      refine w_get X hW K8 (by omega) hf21 3 (by decide) fl_X8_35 rfl dX8_make_107 ?_
      refine w_nVv (As := [.ref (ad 60)]) X hW (c_settle dP dR (by omega) (by omega) hf26 (by omega)) (by omega) hf26 rfl rfl ml_X8_133 mf_X3_settle ⟨Nat.le_of_ble_eq_true rfl, Nat.le_of_ble_eq_true rfl⟩ hl.1 rfl (Nat.le_of_ble_eq_true rfl) ⟨Nat.le_of_ble_eq_true rfl, Nat.le_of_ble_eq_true rfl⟩ dX8_make_110 (fun ge H locs hp hW => ?_)
      obtain ⟨fe, e1, eR, eres, efr⟩ := hp
      have eX : XAt cy N ad ge M lg lr lt st T p (va_up x (p T) (nwT M (mkRow M lg j))) := by rw [← va_up_up (a := ((mkRow M lg j), fq, (x (p T)).2.2))]; exact XAt.putP cX (fun k k1 k2 k3 k4 k5 k6 => by show ge k = _; rw [efr k (by simp only [List.mem_cons, List.not_mem_nil, or_false, not_or]; omega), dfr k (by simp only [List.mem_cons, List.not_mem_nil, or_false, not_or]; omega)]) ⟨fs, fe, e1, eR, ccr, c96, fun i hi => by rw [eres i hi, dres i hi]; rfl⟩ ⟨_, pd, _, _, dP.1, dP.2.1, (efr 60 (by simp only [List.mem_cons, List.not_mem_nil, or_false, not_or] <;> omega)).trans dP.2.2.1, (efr 61 (by simp only [List.mem_cons, List.not_mem_nil, or_false, not_or] <;> omega)).trans dP.2.2.2⟩ hq12
      obtain ⟨e0, -, -, eS_, -, -⟩ := id eX
      obtain ⟨-, -, -, -, ⟨-, -, e9, -, -, -⟩, -⟩ := id eS_
      have efr63 : ∀ k, 63 ≤ k → ge k = g k := fun k hk => by show ge k = _; rw [efr k (by simp only [List.mem_cons, List.not_mem_nil, or_false, not_or]; omega), dfr k (by simp only [List.mem_cons, List.not_mem_nil, or_false, not_or]; omega), cfr63 k hk]
      refine lv_aload_n jx jb dX8_make_113 rfl (lv_at hl 1 rfl) ?_
      refine w_get X hW K8 (by omega) e0 2 (by decide) fl_X8_26 rfl dX8_make_114 ?_
      refine w_nV (As := []) X hW (c_keepSpare eS_ hTT) (by omega) e9 rfl rfl ml_X8_137 mf_X7_keepSpare ⟨Nat.le_of_ble_eq_true rfl, Nat.le_of_ble_eq_true rfl⟩ hl.1 rfl (Nat.le_of_ble_eq_true rfl) ⟨Nat.le_of_ble_eq_true rfl, Nat.le_of_ble_eq_true rfl⟩ dX8_make_117 (fun r1 gf H locs hp hW => ?_)
      obtain ⟨er, fS, ffr⟩ := hp
      exact ret _ _ _ _ _ _ dX8_make_120 hW (by rw [if_neg (bI_0.mp c89)]; exact ⟨er, eX.keep ffr fS, fun k hk => by show gf k = _; rw [ffr k (by omega), efr63 k hk]⟩)
    · refine lv_iconst (v := -1) jx jb dX8_make_92 (by decide) ?_
      exact ret _ _ _ _ _ _ dX8_make_93 hW (by rw [if_pos (bI_n0.mp c89)]; exact ⟨rfl, _, cX, cfr63⟩)
  · exact absurd (c23.symm.trans (bel_t hj (by omega))) (by decide)
