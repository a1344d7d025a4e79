def cntX (M : M4) (lg : List Nat) (lr : Nat → Int32) (T : Nat) (y : Nat → TT) (what : Int32) : Int32 := if what = 0 then nI lg.length else if what = 1 then nI T else if what = 2 then bcI (abq M 24) else if what = 3 then nI (cntB (fun i => (y i).2.2.2.1) T) else if what = 4 then nI (cntB (fun i => (y i).2.2.2.2) T) else if what = 5 then nI (dfq (rsq M (gl lg) 0) lr lg.length) else -1
def toldV (M : M4) (t : TT) (what : Int32) : Int32 := if what = 0 then nI t.1.length else if what = 1 then bI (t.2.2.2.1 = true) else if what = 2 then bI (t.2.2.2.2 = true) else if what = 3 then bI (¬ fdT M t = -1) else if what = 4 then t.2.2.1 else if what = 5 then mtT M t else -1
def rowV (M : M4) (t : TT) (k what : Int32) : Int32 := if 0 ≤ k ∧ k < nI t.1.length then (if what = 0 then nI (gl t.1 k.toNatClampNeg / 16) else if what = 1 then nI (gl t.1 k.toNatClampNeg % 16) else if what = 2 then t.2.1 k.toNatClampNeg else if what = 3 then rsq M (gl t.1) 0 k.toNatClampNeg else -1) else -1
def rnT (M : M4) (t : TT) : TT := if t.2.2.2.1 = true then (t.1, t.2.1, t.2.2.1, false, decide (¬ fdT M t = -1)) else t
def rnB (M : M4) (t : TT) : Bool := t.2.2.2.1 && decide (¬ fdT M t = -1)
def nwT (M : M4) (row : List Nat) : TT := (row, rsq M (gl row) 0, mtq M (gl row) row.length, false, false)
theorem bI_not {a b : Int32} (h : a = b) : (0 : Int32) = bI (¬ a = b) := (bI_f (fun q => q h)).symm
theorem bI_yes {a b : Int32} (h : ¬ a = b) : (1 : Int32) = bI (¬ a = b) := (bI_t h).symm
theorem bI_b0 {b : Prop} [Decidable b] (h : bI b = 0) : (0 : Int32) = bI b := h.symm
theorem bI_b1 {b : Prop} [Decidable b] (h : ¬ bI b = 0) : (1 : Int32) = bI b := (bI_t (bI_n0.mp h)).symm

set_option maxHeartbeats 4000000 in
set_option maxRecDepth 100000 in
theorem c_count {l : Launch} {G : va_G} {cy : Nat → ClassId} {N : Nat} {ad : Nat → Nat} {g : Nat → va_E} {M : M4} {lg : List Nat} {lr lt : Nat → Int32} {st T : Nat} {p : Nat → Nat} {x : Nat → TT} {what : Int32} (hX : XAt cy N ad g M lg lr lt st T p x) : MI l G cy (N, ad, g) yX8_count cX8_count 2 (some .int) (rmN 5) [.ref (ad 0), .int what] (nA N ad (fun v g1 => v = cntX M lg lr T (fun i => x (p i)) what ∧ XAt cy N ad g1 M lg lr lt st T p x ∧ ∀ k, 63 ≤ k → g1 k = g k)) := by
  refine NI.mk (by decide) (by intros; first | rfl | (simp_all; done)) (Nat.le_of_ble_eq_true rfl) ?_
  intro jp je js jm below meth jc A Q X hW ret ls hl
  have jx := X.hx
  have jb := X.hb
  have hl : lv_has ls 2 [(0, .ref (ad 0)), (1, .int what)] := hl
  have X : Cx G cy jp js jm _ jc cX8_count 2 RX8 A js.heap := X
  obtain ⟨f0, hM, ⟨fc, hL, hlc, hl96⟩, hS, ⟨psz, pf, mt, ltt, hP⟩, ⟨w0, w1, f62⟩⟩ := id hX
  obtain ⟨hok, h83, bc_, fs_, f1, -⟩ := id hM
  obtain ⟨-, hRL, hst, f4, f8⟩ := id hL
  have f5 := hRL.2.2.2.2.2.2.2.1
  have hlen := hRL.2.2.2.2.2.2.1
  obtain ⟨-, hT, hp12, hinj, ⟨ft, fm, f9, f10, f11, hft⟩, hx⟩ := id hS
  obtain ⟨-, hpsz, f60, f61⟩ := id hP
  refine lv_iload_n jx jb dX8_count_0 rfl (lv_at hl 1 rfl) ?_
  rcases sw_cases what 6 (by decide) with ⟨kS, hkS, eS⟩ | eS
  · rcases (show kS = 0 ∨ kS = 1 ∨ kS = 2 ∨ kS = 3 ∨ kS = 4 ∨ kS = 5 by omega) with rfl | rfl | rfl | rfl | rfl | rfl
    · refine lv_tableIn (tgt := 40) (off := 39) jx jb dX8_count_1 (by rw [eS]; decide) (by rw [eS]; decide) (by rw [eS]; rfl) (by decide) ?_
      refine lv_aload_n jx jb dX8_count_40 rfl (lv_at hl 0 rfl) ?_
      refine w_get X hW K8 (by omega) f0 1 (by decide) fl_X8_19 rfl dX8_count_41 ?_
      refine w_rV (As := []) X hW (c_lSize hL) (by omega) f4 rfl rfl ml_X8_99 mf_X1_size ⟨Nat.le_of_ble_eq_true rfl, Nat.le_of_ble_eq_true rfl⟩ hl.1 rfl (Nat.le_of_ble_eq_true rfl) ⟨Nat.le_of_ble_eq_true rfl, Nat.le_of_ble_eq_true rfl⟩ dX8_count_44 (fun H locs hW => ?_)
      exact ret _ _ _ _ _ _ dX8_count_47 hW ⟨(by unfold cntX; rw [eS]; rfl), hX, fun k hk => rfl⟩
    · refine lv_tableIn (tgt := 48) (off := 47) jx jb dX8_count_1 (by rw [eS]; decide) (by rw [eS]; decide) (by rw [eS]; rfl) (by decide) ?_
      refine lv_aload_n jx jb dX8_count_48 rfl (lv_at hl 0 rfl) ?_
      refine w_get X hW K8 (by omega) f0 2 (by decide) fl_X8_26 rfl dX8_count_49 ?_
      refine w_rV (As := []) X hW (c_sSize hS) (by omega) f9 rfl rfl ml_X8_184 mf_X7_size ⟨Nat.le_of_ble_eq_true rfl, Nat.le_of_ble_eq_true rfl⟩ hl.1 rfl (Nat.le_of_ble_eq_true rfl) ⟨Nat.le_of_ble_eq_true rfl, Nat.le_of_ble_eq_true rfl⟩ dX8_count_52 (fun H locs hW => ?_)
      exact ret _ _ _ _ _ _ dX8_count_55 hW ⟨(by unfold cntX; rw [eS]; rfl), hX, fun k hk => rfl⟩
    · refine lv_tableIn (tgt := 56) (off := 55) jx jb dX8_count_1 (by rw [eS]; decide) (by rw [eS]; decide) (by rw [eS]; rfl) (by decide) ?_
      refine lv_aload_n jx jb dX8_count_56 rfl (lv_at hl 0 rfl) ?_
      refine w_get X hW K8 (by omega) f0 0 (by decide) fl_X8_12 rfl dX8_count_57 ?_
      refine w_rV (As := []) X hW (c_allBits hM) (by omega) f1 rfl rfl ml_X8_185 mf_X2_allBits ⟨Nat.le_of_ble_eq_true rfl, Nat.le_of_ble_eq_true rfl⟩ hl.1 rfl (Nat.le_of_ble_eq_true rfl) ⟨Nat.le_of_ble_eq_true rfl, Nat.le_of_ble_eq_true rfl⟩ dX8_count_60 (fun H locs hW => ?_)
      refine w_rS (As := [.int (abq M 24)]) X hW (c_bitCount) ml_X8_192 mf_J6_bitCount_0f7a4 ⟨Nat.le_of_ble_eq_true rfl, Nat.le_of_ble_eq_true rfl⟩ hl.1 rfl (Nat.le_of_ble_eq_true rfl) ⟨Nat.le_of_ble_eq_true rfl, Nat.le_of_ble_eq_true rfl⟩ dX8_count_63 (fun H locs hW => ?_)
      exact ret _ _ _ _ _ _ dX8_count_66 hW ⟨(by unfold cntX; rw [eS]; rfl), hX, fun k hk => rfl⟩
    · refine lv_tableIn (tgt := 67) (off := 66) jx jb dX8_count_1 (by rw [eS]; decide) (by rw [eS]; decide) (by rw [eS]; rfl) (by decide) ?_
      refine lv_aload_n jx jb dX8_count_67 rfl (lv_at hl 0 rfl) ?_
      refine w_get X hW K8 (by omega) f0 2 (by decide) fl_X8_26 rfl dX8_count_68 ?_
      refine w_rV (As := []) X hW (c_touchedOnes hS) (by omega) f9 rfl rfl ml_X8_203 mf_X7_touchedOnes ⟨Nat.le_of_ble_eq_true rfl, Nat.le_of_ble_eq_true rfl⟩ hl.1 rfl (Nat.le_of_ble_eq_true rfl) ⟨Nat.le_of_ble_eq_true rfl, Nat.le_of_ble_eq_true rfl⟩ dX8_count_71 (fun H locs hW => ?_)
      exact ret _ _ _ _ _ _ dX8_count_74 hW ⟨(by unfold cntX; rw [eS]; rfl), hX, fun k hk => rfl⟩
    · refine lv_tableIn (tgt := 75) (off := 74) jx jb dX8_count_1 (by rw [eS]; decide) (by rw [eS]; decide) (by rw [eS]; rfl) (by decide) ?_
      refine lv_aload_n jx jb dX8_count_75 rfl (lv_at hl 0 rfl) ?_
      refine w_get X hW K8 (by omega) f0 2 (by decide) fl_X8_26 rfl dX8_count_76 ?_
      refine w_rV (As := []) X hW (c_brokenOnes hS) (by omega) f9 rfl rfl ml_X8_206 mf_X7_brokenOnes ⟨Nat.le_of_ble_eq_true rfl, Nat.le_of_ble_eq_true rfl⟩ hl.1 rfl (Nat.le_of_ble_eq_true rfl) ⟨Nat.le_of_ble_eq_true rfl, Nat.le_of_ble_eq_true rfl⟩ dX8_count_79 (fun H locs hW => ?_)
      exact ret _ _ _ _ _ _ dX8_count_82 hW ⟨(by unfold cntX; rw [eS]; rfl), hX, fun k hk => rfl⟩
    · refine lv_tableIn (tgt := 83) (off := 82) jx jb dX8_count_1 (by rw [eS]; decide) (by rw [eS]; decide) (by rw [eS]; rfl) (by decide) ?_
      refine lv_aload_n jx jb dX8_count_83 rfl (lv_at hl 0 rfl) ?_
      refine w_nV (As := []) X hW (c_diffLog hX) (by omega) f0 rfl rfl ml_X8_209 mf_X8_differencesOfLog ⟨Nat.le_of_ble_eq_true rfl, Nat.le_of_ble_eq_true rfl⟩ hl.1 rfl (Nat.le_of_ble_eq_true rfl) ⟨Nat.le_of_ble_eq_true rfl, Nat.le_of_ble_eq_true rfl⟩ dX8_count_84 (fun r1 g1 H locs hp hW => ?_)
      obtain ⟨er, hX1, pfr⟩ := hp
      refine top_eq (y := nI (dfq (rsq M (gl lg) 0) lr lg.length)) (er) ?_
      exact ret _ _ _ _ _ _ dX8_count_87 hW ⟨(by unfold cntX; rw [eS]; rfl), hX1, pfr⟩
  · refine lv_tableOut (tgt := 88) jx jb dX8_count_1 eS (by decide) ?_
    refine lv_iconst (v := -1) jx jb dX8_count_88 (by decide) ?_
    exact ret _ _ _ _ _ _ dX8_count_89 hW ⟨by unfold cntX; rw [if_neg (show ¬ what = 0 from sw_out (k := 0) (by decide) eS (by decide)), if_neg (show ¬ what = 1 from sw_out (k := 1) (by decide) eS (by decide)), if_neg (show ¬ what = 2 from sw_out (k := 2) (by decide) eS (by decide)), if_neg (show ¬ what = 3 from sw_out (k := 3) (by decide) eS (by decide)), if_neg (show ¬ what = 4 from sw_out (k := 4) (by decide) eS (by decide)), if_neg (show ¬ what = 5 from sw_out (k := 5) (by decide) eS (by decide))], hX, fun k hk => rfl⟩

set_option maxHeartbeats 4000000 in
set_option maxRecDepth 100000 in
theorem c_toldNo {l : Launch} {G : va_G} {cy : Nat → ClassId} {N : Nat} {ad : Nat → Nat} {g : Nat → va_E} {M : M4} {lg : List Nat} {lr lt : Nat → Int32} {st T : Nat} {p : Nat → Nat} {x : Nat → TT} {i what : Int32} (hX : XAt cy N ad g M lg lr lt st T p x) (hno : ¬ (0 ≤ i ∧ i < nI T)) : RI l G cy (N, ad, g) yX8_told cX8_told 4 (some .int) (rmN 5) [.ref (ad 0), .int i, .int what] (-1) := by
  refine RI.mk (by decide) (by first | rfl | exact bI_nar) (Nat.le_of_ble_eq_true rfl) ?_
  intro jp je js jm below meth jc A Q X hW ret ls hl
  have jx := X.hx
  have jb := X.hb
  have hl : lv_has ls 4 [(0, .ref (ad 0)), (1, .int i), (2, .int what)] := hl
  have X : Cx G cy jp js jm _ jc cX8_told 4 RX8 A js.heap := X
  obtain ⟨f0, hM, ⟨fc, hL, hlc, hl96⟩, hS, ⟨psz, pf, mt, ltt, hP⟩, ⟨w0, w1, f62⟩⟩ := id hX
  obtain ⟨hok, h83, bc_, fs_, f1, -⟩ := id hM
  obtain ⟨-, hRL, hst, f4, f8⟩ := id hL
  have f5 := hRL.2.2.2.2.2.2.2.1
  have hlen := hRL.2.2.2.2.2.2.1
  obtain ⟨-, hT, hp12, hinj, ⟨ft, fm, f9, f10, f11, hft⟩, hx⟩ := id hS
  obtain ⟨-, hpsz, f60, f61⟩ := id hP
  refine lv_aload_n jx jb dX8_told_0 rfl (lv_at hl 0 rfl) ?_
  refine w_get X hW K8 (by omega) f0 2 (by decide) fl_X8_26 rfl dX8_told_1 ?_
  refine lv_iload_n jx jb dX8_told_4 rfl (lv_at hl 1 rfl) ?_
  refine w_rVr (As := [.int i]) X hW (c_at hS) (by omega) f9 rfl rfl ml_X8_143 mf_X7_at ⟨Nat.le_of_ble_eq_true rfl, Nat.le_of_ble_eq_true rfl⟩ hl.1 rfl (Nat.le_of_ble_eq_true rfl) ⟨Nat.le_of_ble_eq_true rfl, Nat.le_of_ble_eq_true rfl⟩ dX8_told_5 (fun H locs hW => ?_)
  refine top_q (y := none) (if_neg hno) ?_
  refine lv_astore_nN (lv' := [(3, .null), (0, .ref (ad 0)), (1, .int i), (2, .int what)]) jx jb dX8_told_8 rfl hl (by decide) rfl (fun ls hl => ?_)
  refine lv_aload_nN jx jb dX8_told_9 rfl (lv_at hl 0 rfl) ?_
  refine lv_ifnonnullN jx jb dX8_told_10 ?_
  refine lv_iconst (v := -1) jx jb dX8_told_13 (by decide) ?_
  exact ret _ _ _ _ _ dX8_told_14 hW rfl

set_option maxHeartbeats 4000000 in
set_option maxRecDepth 100000 in
theorem c_told {l : Launch} {G : va_G} {cy : Nat → ClassId} {N : Nat} {ad : Nat → Nat} {g : Nat → va_E} {M : M4} {lg : List Nat} {lr lt : Nat → Int32} {st T : Nat} {p : Nat → Nat} {x : Nat → TT} {j : Nat} {what : Int32} (hX : XAt cy N ad g M lg lr lt st T p x) (hj : j < T) : MI l G cy (N, ad, g) yX8_told cX8_told 4 (some .int) (rmN 5) [.ref (ad 0), .int (nI j), .int what] (nA N ad (fun v g1 => v = toldV M (x (p j)) what ∧ XAt cy N ad g1 M lg lr lt st T p x ∧ ∀ k, 63 ≤ k → g1 k = g k)) := by
  refine NI.mk (by decide) (by intros; first | rfl | (simp_all; done)) (Nat.le_of_ble_eq_true rfl) ?_
  intro jp je js jm below meth jc A Q X hW ret ls hl
  have jx := X.hx
  have jb := X.hb
  have hl : lv_has ls 4 [(0, .ref (ad 0)), (1, .int (nI j)), (2, .int what)] := hl
  have X : Cx G cy jp js jm _ jc cX8_told 4 RX8 A js.heap := X
  obtain ⟨f0, hM, ⟨fc, hL, hlc, hl96⟩, hS, ⟨psz, pf, mt, ltt, hP⟩, ⟨w0, w1, f62⟩⟩ := id hX
  obtain ⟨hok, h83, bc_, fs_, f1, -⟩ := id hM
  obtain ⟨-, hRL, hst, f4, f8⟩ := id hL
  have f5 := hRL.2.2.2.2.2.2.2.1
  have hlen := hRL.2.2.2.2.2.2.1
  obtain ⟨-, hT, hp12, hinj, ⟨ft, fm, f9, f10, f11, hft⟩, hx⟩ := id hS
  obtain ⟨-, hpsz, f60, f61⟩ := id hP
  have hpj := hp12 j (by omega)
  obtain ⟨tfc, tfr, t1, tR, tc, t96, ta⟩ := hx (p j) hpj
  have htl := tR.2.2.2.2.2.2.1
  refine lv_aload_n jx jb dX8_told_0 rfl (lv_at hl 0 rfl) ?_
  refine w_get X hW K8 (by omega) f0 2 (by decide) fl_X8_26 rfl dX8_told_1 ?_
  refine lv_iload_n jx jb dX8_told_4 rfl (lv_at hl 1 rfl) ?_
  refine w_rVr (As := [.int (nI j)]) X hW (c_at hS) (by omega) f9 rfl rfl ml_X8_143 mf_X7_at ⟨Nat.le_of_ble_eq_true rfl, Nat.le_of_ble_eq_true rfl⟩ hl.1 rfl (Nat.le_of_ble_eq_true rfl) ⟨Nat.le_of_ble_eq_true rfl, Nat.le_of_ble_eq_true rfl⟩ dX8_told_5 (fun H locs hW => ?_)
  refine top_q (y := some (ad (12 + 4 * p j))) (by rw [if_pos ⟨i_0le (by omega), nI_lt hj (by omega)⟩, i_cl (by omega)]) ?_
  refine lv_astore_n (lv' := [(3, .ref (ad (12 + 4 * p j))), (0, .ref (ad 0)), (1, .int (nI j)), (2, .int what)]) jx jb dX8_told_8 rfl hl (by decide) rfl (fun ls hl => ?_)
  refine lv_aload_n jx jb dX8_told_9 rfl (lv_at hl 0 rfl) ?_
  refine lv_ifnonnull (tgt := 15) jx jb dX8_told_10 (by decide) ?_
  refine lv_iload_n jx jb dX8_told_15 rfl (lv_at hl 3 rfl) ?_
  rcases sw_cases what 6 (by decide) with ⟨kS, hkS, eS⟩ | eS
  · rcases (show kS = 0 ∨ kS = 1 ∨ kS = 2 ∨ kS = 3 ∨ kS = 4 ∨ kS = 5 by omega) with rfl | rfl | rfl | rfl | rfl | rfl
    · refine lv_tableIn (tgt := 56) (off := 40) jx jb dX8_told_16 (by rw [eS]; decide) (by rw [eS]; decide) (by rw [eS]; rfl) (by decide) ?_
      refine lv_aload_n jx jb dX8_told_56 rfl (lv_at hl 0 rfl) ?_
      refine w_getN X hW K3 (by omega) t1 0 (by decide) fn_X8_102 rfl dX8_told_57 ?_
      refine w_rV (As := []) X hW (c_rSize tR) tR.1 tR.2.2.2.2.2.2.2.1 rfl rfl ml_X8_147 mf_X5_size ⟨Nat.le_of_ble_eq_true rfl, Nat.le_of_ble_eq_true rfl⟩ hl.1 rfl (Nat.le_of_ble_eq_true rfl) ⟨Nat.le_of_ble_eq_true rfl, Nat.le_of_ble_eq_true rfl⟩ dX8_told_60 (fun H locs hW => ?_)
      exact ret _ _ _ _ _ _ dX8_told_63 hW ⟨(by unfold toldV; rw [eS]; rfl), hX, fun k hk => rfl⟩
    · refine lv_tableIn (tgt := 64) (off := 48) jx jb dX8_told_16 (by rw [eS]; decide) (by rw [eS]; decide) (by rw [eS]; rfl) (by decide) ?_
      refine lv_aload_n jx jb dX8_told_64 rfl (lv_at hl 0 rfl) ?_
      refine w_getN X hW K3 (by omega) t1 2 (by decide) fn_X8_148 rfl dX8_told_65 ?_
      refine lv_if_eq (tgt := 75) jx jb dX8_told_68 (by decide) (fun c68 => ?_) (fun c68 => ?_)
      · refine lv_iconst (v := 0) jx jb dX8_told_75 (by decide) ?_
        exact ret _ _ _ _ _ _ dX8_told_76 hW ⟨(by unfold toldV; rw [eS]; exact bI_b0 c68), hX, fun k hk => rfl⟩
      · refine lv_iconst (v := 1) jx jb dX8_told_71 (by decide) ?_
        refine lv_goto (tgt := 76) jx jb dX8_told_72 (by decide) ?_
        exact ret _ _ _ _ _ _ dX8_told_76 hW ⟨(by unfold toldV; rw [eS]; exact bI_b1 c68), hX, fun k hk => rfl⟩
    · refine lv_tableIn (tgt := 77) (off := 61) jx jb dX8_told_16 (by rw [eS]; decide) (by rw [eS]; decide) (by rw [eS]; rfl) (by decide) ?_
      refine lv_aload_n jx jb dX8_told_77 rfl (lv_at hl 0 rfl) ?_
      refine w_getN X hW K3 (by omega) t1 3 (by decide) fn_X8_152 rfl dX8_told_78 ?_
      refine lv_if_eq (tgt := 88) jx jb dX8_told_81 (by decide) (fun c81 => ?_) (fun c81 => ?_)
      · refine lv_iconst (v := 0) jx jb dX8_told_88 (by decide) ?_
        exact ret _ _ _ _ _ _ dX8_told_89 hW ⟨(by unfold toldV; rw [eS]; exact bI_b0 c81), hX, fun k hk => rfl⟩
      · refine lv_iconst (v := 1) jx jb dX8_told_84 (by decide) ?_
        refine lv_goto (tgt := 89) jx jb dX8_told_85 (by decide) ?_
        exact ret _ _ _ _ _ _ dX8_told_89 hW ⟨(by unfold toldV; rw [eS]; exact bI_b1 c81), hX, fun k hk => rfl⟩
    · refine lv_tableIn (tgt := 90) (off := 74) jx jb dX8_told_16 (by rw [eS]; decide) (by rw [eS]; decide) (by rw [eS]; rfl) (by decide) ?_
      refine lv_aload_n jx jb dX8_told_90 rfl (lv_at hl 1 rfl) ?_
      refine lv_aload_n jx jb dX8_told_91 rfl (lv_at hl 0 rfl) ?_
      refine w_nV (As := [.ref (ad (12 + 4 * p j))]) X hW (c_xFirstDiff hX hj) (by omega) f0 rfl rfl ml_X8_155 mf_X8_firstDifference ⟨Nat.le_of_ble_eq_true rfl, Nat.le_of_ble_eq_true rfl⟩ hl.1 rfl (Nat.le_of_ble_eq_true rfl) ⟨Nat.le_of_ble_eq_true rfl, Nat.le_of_ble_eq_true rfl⟩ dX8_told_92 (fun r1 g1 H locs hp hW => ?_)
      obtain ⟨er, hX1, pfr⟩ := hp
      refine top_eq (y := fdT M (x (p j))) (er) ?_
      refine lv_iconst (v := -1) jx jb dX8_told_95 (by decide) ?_
      refine lv_icmp_ne (tgt := 103) jx jb dX8_told_96 (by decide) (fun c96 => ?_) (fun c96 => ?_)
      · refine lv_iconst (v := 1) jx jb dX8_told_103 (by decide) ?_
        exact ret _ _ _ _ _ _ dX8_told_104 hW ⟨(by unfold toldV; rw [eS]; exact bI_yes c96), hX1, pfr⟩
      · refine lv_iconst (v := 0) jx jb dX8_told_99 (by decide) ?_
        refine lv_goto (tgt := 104) jx jb dX8_told_100 (by decide) ?_
        exact ret _ _ _ _ _ _ dX8_told_104 hW ⟨(by unfold toldV; rw [eS]; exact bI_not c96), hX1, pfr⟩
    · refine lv_tableIn (tgt := 105) (off := 89) jx jb dX8_told_16 (by rw [eS]; decide) (by rw [eS]; decide) (by rw [eS]; rfl) (by decide) ?_
      refine lv_aload_n jx jb dX8_told_105 rfl (lv_at hl 0 rfl) ?_
      refine w_getN X hW K3 (by omega) t1 1 (by decide) fn_X8_159 rfl dX8_told_106 ?_
      exact ret _ _ _ _ _ _ dX8_told_109 hW ⟨(by unfold toldV; rw [eS]; rfl), hX, fun k hk => rfl⟩
    · refine lv_tableIn (tgt := 110) (off := 94) jx jb dX8_told_16 (by rw [eS]; decide) (by rw [eS]; decide) (by rw [eS]; rfl) (by decide) ?_
      refine lv_aload_n jx jb dX8_told_110 rfl (lv_at hl 1 rfl) ?_
      refine w_get X hW K8 (by omega) f0 3 (by decide) fl_X8_35 rfl dX8_told_111 ?_
      refine lv_aload_n jx jb dX8_told_114 rfl (lv_at hl 0 rfl) ?_
      refine w_getN X hW K3 (by omega) t1 0 (by decide) fn_X8_102 rfl dX8_told_115 ?_
      refine w_nV (As := [.ref (ad (13 + 4 * p j))]) X hW (c_meets hM hP tR (fun i hi => ⟨tc i hi, t96 _ (gl_mem hi)⟩) (by omega)) (by omega) f60 rfl rfl ml_X8_163 mf_X4_meets ⟨Nat.le_of_ble_eq_true rfl, Nat.le_of_ble_eq_true rfl⟩ hl.1 rfl (Nat.le_of_ble_eq_true rfl) ⟨Nat.le_of_ble_eq_true rfl, Nat.le_of_ble_eq_true rfl⟩ dX8_told_118 (fun r1 g1 H locs hp hW => ?_)
      obtain ⟨er, pf1, hP1, hres, pfr⟩ := hp
      refine top_eq (y := mtT M (x (p j))) (er) ?_
      exact ret _ _ _ _ _ _ dX8_told_121 hW ⟨(by unfold toldV; rw [eS]; rfl), ⟨((show g1 0 = g 0 from by rw [pfr _ (by simp only [List.mem_cons, List.not_mem_nil, or_false, not_or] <;> omega)]).trans f0), hM.fr (fun k hk => by show g1 k = _; rw [pfr k (by simp only [List.mem_cons, List.not_mem_nil, or_false, not_or] <;> omega)]), ⟨fc, hL.fr (fun k hk1 hk2 => by show g1 k = _; rw [pfr k (by simp only [List.mem_cons, List.not_mem_nil, or_false, not_or] <;> omega)]), hlc, hl96⟩, hS.fr (fun k hk1 hk2 => by show g1 k = _; rw [pfr k (by simp only [List.mem_cons, List.not_mem_nil, or_false, not_or] <;> omega)]), ⟨_, pf1, _, _, hP1⟩, ⟨w0, w1, (show g1 62 = g 62 from by rw [pfr _ (by simp only [List.mem_cons, List.not_mem_nil, or_false, not_or] <;> omega)]).trans f62⟩⟩, (fun k hk => by show g1 k = _; rw [pfr k (by simp only [List.mem_cons, List.not_mem_nil, or_false, not_or] <;> omega)])⟩
  · refine lv_tableOut (tgt := 122) jx jb dX8_told_16 eS (by decide) ?_
    refine lv_iconst (v := -1) jx jb dX8_told_122 (by decide) ?_
    exact ret _ _ _ _ _ _ dX8_told_123 hW ⟨by unfold toldV; rw [if_neg (show ¬ what = 0 from sw_out (k := 0) (by decide) eS (by decide)), if_neg (show ¬ what = 1 from sw_out (k := 1) (by decide) eS (by decide)), if_neg (show ¬ what = 2 from sw_out (k := 2) (by decide) eS (by decide)), if_neg (show ¬ what = 3 from sw_out (k := 3) (by decide) eS (by decide)), if_neg (show ¬ what = 4 from sw_out (k := 4) (by decide) eS (by decide)), if_neg (show ¬ what = 5 from sw_out (k := 5) (by decide) eS (by decide))], hX, fun k hk => rfl⟩

set_option maxHeartbeats 4000000 in
set_option maxRecDepth 100000 in
theorem c_rowNo {l : Launch} {G : va_G} {cy : Nat → ClassId} {N : Nat} {ad : Nat → Nat} {g : Nat → va_E} {M : M4} {lg : List Nat} {lr lt : Nat → Int32} {st T : Nat} {p : Nat → Nat} {x : Nat → TT} {i k what : Int32} (hX : XAt cy N ad g M lg lr lt st T p x) (hno : ¬ (0 ≤ i ∧ i < nI T)) : RI l G cy (N, ad, g) yX8_row cX8_row 5 (some .int) (rmN 5) [.ref (ad 0), .int i, .int k, .int what] (-1) := by
  refine RI.mk (by decide) (by first | rfl | exact bI_nar) (Nat.le_of_ble_eq_true rfl) ?_
  intro jp je js jm below meth jc A Q X hW ret ls hl
  have jx := X.hx
  have jb := X.hb
  have hl : lv_has ls 5 [(0, .ref (ad 0)), (1, .int i), (2, .int k), (3, .int what)] := hl
  have X : Cx G cy jp js jm _ jc cX8_row 5 RX8 A js.heap := X
  obtain ⟨f0, hM, ⟨fc, hL, hlc, hl96⟩, hS, ⟨psz, pf, mt, ltt, hP⟩, ⟨w0, w1, f62⟩⟩ := id hX
  obtain ⟨hok, h83, bc_, fs_, f1, -⟩ := id hM
  obtain ⟨-, hRL, hst, f4, f8⟩ := id hL
  have f5 := hRL.2.2.2.2.2.2.2.1
  have hlen := hRL.2.2.2.2.2.2.1
  obtain ⟨-, hT, hp12, hinj, ⟨ft, fm, f9, f10, f11, hft⟩, hx⟩ := id hS
  obtain ⟨-, hpsz, f60, f61⟩ := id hP
  refine lv_aload_n jx jb dX8_row_0 rfl (lv_at hl 0 rfl) ?_
  refine w_get X hW K8 (by omega) f0 2 (by decide) fl_X8_26 rfl dX8_row_1 ?_
  refine lv_iload_n jx jb dX8_row_4 rfl (lv_at hl 1 rfl) ?_
  refine w_rVr (As := [.int i]) X hW (c_at hS) (by omega) f9 rfl rfl ml_X8_143 mf_X7_at ⟨Nat.le_of_ble_eq_true rfl, Nat.le_of_ble_eq_true rfl⟩ hl.1 rfl (Nat.le_of_ble_eq_true rfl) ⟨Nat.le_of_ble_eq_true rfl, Nat.le_of_ble_eq_true rfl⟩ dX8_row_5 (fun H locs hW => ?_)
  refine top_q (y := none) (if_neg hno) ?_
  refine lv_astoreN (lv' := [(4, .null), (0, .ref (ad 0)), (1, .int i), (2, .int k), (3, .int what)]) jx jb dX8_row_8 hl (by decide) rfl (fun ls hl => ?_)
  refine lv_aloadN jx jb dX8_row_10 (lv_at hl 0 rfl) ?_
  refine lv_ifnullN (tgt := 30) jx jb dX8_row_12 (by decide) ?_
  refine lv_iconst (v := -1) jx jb dX8_row_30 (by decide) ?_
  exact ret _ _ _ _ _ dX8_row_31 hW rfl

set_option maxHeartbeats 4000000 in
set_option maxRecDepth 100000 in
theorem c_row {l : Launch} {G : va_G} {cy : Nat → ClassId} {N : Nat} {ad : Nat → Nat} {g : Nat → va_E} {M : M4} {lg : List Nat} {lr lt : Nat → Int32} {st T : Nat} {p : Nat → Nat} {x : Nat → TT} {j : Nat} {k what : Int32} (hX : XAt cy N ad g M lg lr lt st T p x) (hj : j < T) : MI l G cy (N, ad, g) yX8_row cX8_row 5 (some .int) (rmN 5) [.ref (ad 0), .int (nI j), .int k, .int what] (nA N ad (fun v g1 => v = rowV M (x (p j)) k what ∧ XAt cy N ad g1 M lg lr lt st T p x ∧ ∀ k, 63 ≤ k → g1 k = g k)) := by
  refine NI.mk (by decide) (by intros; first | rfl | (simp_all; done)) (Nat.le_of_ble_eq_true rfl) ?_
  intro jp je js jm below meth jc A Q X hW ret ls hl
  have jx := X.hx
  have jb := X.hb
  have hl : lv_has ls 5 [(0, .ref (ad 0)), (1, .int (nI j)), (2, .int k), (3, .int what)] := hl
  have X : Cx G cy jp js jm _ jc cX8_row 5 RX8 A js.heap := X
  obtain ⟨f0, hM, ⟨fc, hL, hlc, hl96⟩, hS, ⟨psz, pf, mt, ltt, hP⟩, ⟨w0, w1, f62⟩⟩ := id hX
  obtain ⟨hok, h83, bc_, fs_, f1, -⟩ := id hM
  obtain ⟨-, hRL, hst, f4, f8⟩ := id hL
  have f5 := hRL.2.2.2.2.2.2.2.1
  have hlen := hRL.2.2.2.2.2.2.1
  obtain ⟨-, hT, hp12, hinj, ⟨ft, fm, f9, f10, f11, hft⟩, hx⟩ := id hS
  obtain ⟨-, hpsz, f60, f61⟩ := id hP
  have hpj := hp12 j (by omega)
  obtain ⟨tfc, tfr, t1, tR, tc, t96, ta⟩ := hx (p j) hpj
  have htl := tR.2.2.2.2.2.2.1
  refine lv_aload_n jx jb dX8_row_0 rfl (lv_at hl 0 rfl) ?_
  refine w_get X hW K8 (by omega) f0 2 (by decide) fl_X8_26 rfl dX8_row_1 ?_
  refine lv_iload_n jx jb dX8_row_4 rfl (lv_at hl 1 rfl) ?_
  refine w_rVr (As := [.int (nI j)]) X hW (c_at hS) (by omega) f9 rfl rfl ml_X8_143 mf_X7_at ⟨Nat.le_of_ble_eq_true rfl, Nat.le_of_ble_eq_true rfl⟩ hl.1 rfl (Nat.le_of_ble_eq_true rfl) ⟨Nat.le_of_ble_eq_true rfl, Nat.le_of_ble_eq_true rfl⟩ dX8_row_5 (fun H locs hW => ?_)
  refine top_q (y := some (ad (12 + 4 * p j))) (by rw [if_pos ⟨i_0le (by omega), nI_lt hj (by omega)⟩, i_cl (by omega)]) ?_
  refine lv_astore (lv' := [(4, .ref (ad (12 + 4 * p j))), (0, .ref (ad 0)), (1, .int (nI j)), (2, .int k), (3, .int what)]) jx jb dX8_row_8 hl (by decide) rfl (fun ls hl => ?_)
  refine lv_aload jx jb dX8_row_10 (lv_at hl 0 rfl) ?_
  refine lv_ifnull jx jb dX8_row_12 ?_
  refine lv_iload_n jx jb dX8_row_15 rfl (lv_at hl 3 rfl) ?_
  refine lv_aload jx jb dX8_row_16 (lv_at hl 0 rfl) ?_
  refine w_getN X hW K3 (by omega) t1 0 (by decide) fn_X8_102 rfl dX8_row_18 ?_
  refine w_rV (As := []) X hW (c_rSize tR) tR.1 tR.2.2.2.2.2.2.2.1 rfl rfl ml_X8_147 mf_X5_size ⟨Nat.le_of_ble_eq_true rfl, Nat.le_of_ble_eq_true rfl⟩ hl.1 rfl (Nat.le_of_ble_eq_true rfl) ⟨Nat.le_of_ble_eq_true rfl, Nat.le_of_ble_eq_true rfl⟩ dX8_row_21 (fun H locs hW => ?_)
  refine w_rS (As := [.int k, .int (nI (x (p j)).1.length)]) X hW (c_isBelow) ml_X8_77 mf_X8_isBelow ⟨Nat.le_of_ble_eq_true rfl, Nat.le_of_ble_eq_true rfl⟩ hl.1 rfl (Nat.le_of_ble_eq_true rfl) ⟨Nat.le_of_ble_eq_true rfl, Nat.le_of_ble_eq_true rfl⟩ dX8_row_24 (fun H locs hW => ?_)
  refine lv_if_ne (tgt := 32) jx jb dX8_row_27 (by decide) (fun c27 => ?_) (fun c27 => ?_)
  · have hbe := bI_n0.mp c27
    obtain ⟨q, hq, eq⟩ := i_below (by omega) hbe
    have h96 := t96 _ (gl_mem hq)
    refine lv_iload_n jx jb dX8_row_32 rfl (lv_at hl 4 rfl) ?_
    rcases sw_cases what 4 (by decide) with ⟨kS, hkS, eS⟩ | eS
    · rcases (show kS = 0 ∨ kS = 1 ∨ kS = 2 ∨ kS = 3 by omega) with rfl | rfl | rfl | rfl
      · refine lv_tableIn (tgt := 64) (off := 31) jx jb dX8_row_33 (by rw [eS]; decide) (by rw [eS]; decide) (by rw [eS]; rfl) (by decide) ?_
        refine lv_aload jx jb dX8_row_64 (lv_at hl 0 rfl) ?_
        refine w_getN X hW K3 (by omega) t1 0 (by decide) fn_X8_102 rfl dX8_row_66 ?_
        refine lv_iload_n jx jb dX8_row_69 rfl (lv_at hl 3 rfl) ?_
        refine top_eq (y := nI q) eq ?_
        refine w_rV (As := [.int (nI q)]) X hW (c_callAt tR hq) tR.1 tR.2.2.2.2.2.2.2.1 rfl rfl ml_X8_167 mf_X5_callAt ⟨Nat.le_of_ble_eq_true rfl, Nat.le_of_ble_eq_true rfl⟩ hl.1 rfl (Nat.le_of_ble_eq_true rfl) ⟨Nat.le_of_ble_eq_true rfl, Nat.le_of_ble_eq_true rfl⟩ dX8_row_70 (fun H locs hW => ?_)
        refine top_eq (y := nI (gl (x (p j)).1 q)) (tc q hq) ?_
        refine w_rS (As := [.int (nI (gl (x (p j)).1 q))]) X hW (c_kindOf (by omega)) ml_X8_171 mf_X8_kindOf ⟨Nat.le_of_ble_eq_true rfl, Nat.le_of_ble_eq_true rfl⟩ hl.1 rfl (Nat.le_of_ble_eq_true rfl) ⟨Nat.le_of_ble_eq_true rfl, Nat.le_of_ble_eq_true rfl⟩ dX8_row_73 (fun H locs hW => ?_)
        exact ret _ _ _ _ _ _ dX8_row_76 hW ⟨(by unfold rowV; rw [if_pos hbe, eq, i_cl (by omega), eS]; rfl), hX, fun k hk => rfl⟩
      · refine lv_tableIn (tgt := 77) (off := 44) jx jb dX8_row_33 (by rw [eS]; decide) (by rw [eS]; decide) (by rw [eS]; rfl) (by decide) ?_
        refine lv_aload jx jb dX8_row_77 (lv_at hl 0 rfl) ?_
        refine w_getN X hW K3 (by omega) t1 0 (by decide) fn_X8_102 rfl dX8_row_79 ?_
        refine lv_iload_n jx jb dX8_row_82 rfl (lv_at hl 3 rfl) ?_
        refine top_eq (y := nI q) eq ?_
        refine w_rV (As := [.int (nI q)]) X hW (c_callAt tR hq) tR.1 tR.2.2.2.2.2.2.2.1 rfl rfl ml_X8_167 mf_X5_callAt ⟨Nat.le_of_ble_eq_true rfl, Nat.le_of_ble_eq_true rfl⟩ hl.1 rfl (Nat.le_of_ble_eq_true rfl) ⟨Nat.le_of_ble_eq_true rfl, Nat.le_of_ble_eq_true rfl⟩ dX8_row_83 (fun H locs hW => ?_)
        refine top_eq (y := nI (gl (x (p j)).1 q)) (tc q hq) ?_
        refine w_rS (As := [.int (nI (gl (x (p j)).1 q))]) X hW (c_numberOf (by omega)) ml_X8_174 mf_X8_numberOf ⟨Nat.le_of_ble_eq_true rfl, Nat.le_of_ble_eq_true rfl⟩ hl.1 rfl (Nat.le_of_ble_eq_true rfl) ⟨Nat.le_of_ble_eq_true rfl, Nat.le_of_ble_eq_true rfl⟩ dX8_row_86 (fun H locs hW => ?_)
        exact ret _ _ _ _ _ _ dX8_row_89 hW ⟨(by unfold rowV; rw [if_pos hbe, eq, i_cl (by omega), eS]; rfl), hX, fun k hk => rfl⟩
      · refine lv_tableIn (tgt := 90) (off := 57) jx jb dX8_row_33 (by rw [eS]; decide) (by rw [eS]; decide) (by rw [eS]; rfl) (by decide) ?_
        refine lv_aload jx jb dX8_row_90 (lv_at hl 0 rfl) ?_
        refine w_getN X hW K3 (by omega) t1 0 (by decide) fn_X8_102 rfl dX8_row_92 ?_
        refine lv_iload_n jx jb dX8_row_95 rfl (lv_at hl 3 rfl) ?_
        refine top_eq (y := nI q) eq ?_
        refine w_rV (As := [.int (nI q)]) X hW (c_resultAt tR hq) tR.1 tR.2.2.2.2.2.2.2.1 rfl rfl ml_X8_177 mf_X5_resultAt ⟨Nat.le_of_ble_eq_true rfl, Nat.le_of_ble_eq_true rfl⟩ hl.1 rfl (Nat.le_of_ble_eq_true rfl) ⟨Nat.le_of_ble_eq_true rfl, Nat.le_of_ble_eq_true rfl⟩ dX8_row_96 (fun H locs hW => ?_)
        refine top_eq (y := (x (p j)).2.1 q) (ta q hq) ?_
        exact ret _ _ _ _ _ _ dX8_row_99 hW ⟨(by unfold rowV; rw [if_pos hbe, eq, i_cl (by omega), eS]; rfl), hX, fun k hk => rfl⟩
      · refine lv_tableIn (tgt := 100) (off := 67) jx jb dX8_row_33 (by rw [eS]; decide) (by rw [eS]; decide) (by rw [eS]; rfl) (by decide) ?_
        refine lv_aload_n jx jb dX8_row_100 rfl (lv_at hl 1 rfl) ?_
        refine lv_aload jx jb dX8_row_101 (lv_at hl 0 rfl) ?_
        refine lv_iload_n jx jb dX8_row_103 rfl (lv_at hl 3 rfl) ?_
        refine top_eq (y := nI q) eq ?_
        refine w_nV (As := [.ref (ad (12 + 4 * p j)), .int (nI q)]) X hW (c_resultNow hX hj hq) (by omega) f0 rfl rfl ml_X8_180 mf_X8_resultNow ⟨Nat.le_of_ble_eq_true rfl, Nat.le_of_ble_eq_true rfl⟩ hl.1 rfl (Nat.le_of_ble_eq_true rfl) ⟨Nat.le_of_ble_eq_true rfl, Nat.le_of_ble_eq_true rfl⟩ dX8_row_104 (fun r1 g1 H locs hp hW => ?_)
        obtain ⟨er, hX1, pfr⟩ := hp
        refine top_eq (y := rsq M (gl (x (p j)).1) 0 q) (er) ?_
        exact ret _ _ _ _ _ _ dX8_row_107 hW ⟨(by unfold rowV; rw [if_pos hbe, eq, i_cl (by omega), eS]; rfl), hX1, pfr⟩
    · refine lv_tableOut (tgt := 108) jx jb dX8_row_33 eS (by decide) ?_
      refine lv_iconst (v := -1) jx jb dX8_row_108 (by decide) ?_
      exact ret _ _ _ _ _ _ dX8_row_109 hW ⟨by unfold rowV; rw [if_pos hbe, if_neg (show ¬ what = 0 from sw_out (k := 0) (by decide) eS (by decide)), if_neg (show ¬ what = 1 from sw_out (k := 1) (by decide) eS (by decide)), if_neg (show ¬ what = 2 from sw_out (k := 2) (by decide) eS (by decide)), if_neg (show ¬ what = 3 from sw_out (k := 3) (by decide) eS (by decide))], hX, fun k hk => rfl⟩
  · refine lv_iconst (v := -1) jx jb dX8_row_30 (by decide) ?_
    exact ret _ _ _ _ _ _ dX8_row_31 hW ⟨by unfold rowV; rw [if_neg (bI_0.mp c27)], hX, fun k hk => rfl⟩

theorem va_up_id {α : Type} {f : Nat → α} {k : Nat} : va_up f k (f k) = f := by
  funext j
  by_cases h : j = k
  · rw [h, va_up_s]
  · rw [va_up_n h]
theorem va_up_up {α : Type} {f : Nat → α} {k : Nat} {a b : α} : va_up (va_up f k a) k b = va_up f k b := by
  funext j
  by_cases h : j = k
  · rw [h, va_up_s, va_up_s]
  · rw [va_up_n h, va_up_n h, va_up_n h]
theorem XAt.putT {cy : Nat → ClassId} {N : Nat} {ad : Nat → Nat} {g g' : Nat → va_E} {M : M4} {lg : List Nat} {lr lt : Nat → Int32} {st T : Nat} {p : Nat → Nat} {x : Nat → TT} {q : Nat} {t : TT} (h : XAt cy N ad g M lg lr lt st T p x) (h1 : ∀ k, k ≠ 12 + 4 * q → k ≠ 13 + 4 * q → k ≠ 14 + 4 * q → k ≠ 15 + 4 * q → g' k = g k) (ht : TstAt cy N ad g' q t) (hq : q < 12 := by omega) : XAt cy N ad g' M lg lr lt st T p (va_up x q t) := by
  obtain ⟨a, b, ⟨fc, c1, c2, c3⟩, d, ⟨e1, e2, e3, e4, e5⟩, ⟨f1, f2, f3⟩⟩ := h
  exact ⟨(h1 0 (by omega) (by omega) (by omega) (by omega)).trans a, b.fr (fun k hk => h1 k (by omega) (by omega) (by omega) (by omega)), ⟨fc, c1.fr (fun k _ _ => h1 k (by omega) (by omega) (by omega) (by omega)), c2, c3⟩, d.put (fun k k1 k2 k3 k4 _ _ => h1 k k1 k2 k3 k4) ht, ⟨e1, e2, e3, e4, e5.1, e5.2.1, (h1 60 (by omega) (by omega) (by omega) (by omega)).trans e5.2.2.1, (h1 61 (by omega) (by omega) (by omega) (by omega)).trans e5.2.2.2⟩, ⟨f1, f2, (h1 62 (by omega) (by omega) (by omega) (by omega)).trans f3⟩⟩

set_option maxHeartbeats 4000000 in
set_option maxRecDepth 100000 in
theorem c_run {l : Launch} {G : va_G} {cy : Nat → ClassId} {N : Nat} {ad : Nat → Nat} {g : Nat → va_E} {M : M4} {lg : List Nat} {lr lt : Nat → Int32} {st T : Nat} {p : Nat → Nat} {x : Nat → TT} (hX : XAt cy N ad g M lg lr lt st T p x) : MI l G cy (N, ad, g) yX8_run cX8_run 4 (some .int) (rmN 5) [.ref (ad 0)] (nA N ad (fun v g1 => v = nI (cntB (fun i => rnB M (x (p i))) T) ∧ XAt cy N ad g1 M lg lr lt st T p (mapT p (rnT M) x T) ∧ ∀ k, 63 ≤ k → g1 k = g k)) := by
  refine NI.mk (by decide) (by intros; first | rfl | (simp_all; done)) (Nat.le_of_ble_eq_true rfl) ?_
  intro jp je js jm below meth jc A Q X hW ret ls hl
  have jx := X.hx
  have jb := X.hb
  have hl : lv_has ls 4 [(0, .ref (ad 0))] := hl
  have X : Cx G cy jp js jm _ jc cX8_run 4 RX8 A js.heap := X
  have hT : T ≤ 12 := hX.2.2.2.1.2.1
  refine lv_iconst (v := 0) jx jb dX8_run_0 (by decide) ?_
  refine lv_istore_n (lv' := [(1, .int 0), (0, .ref (ad 0))]) jx jb dX8_run_1 rfl hl (by decide) rfl (fun ls hl => ?_)
  refine lv_iconst (v := 0) jx jb dX8_run_2 (by decide) ?_
  refine lv_istore_n (lv' := [(2, .int 0), (1, .int 0), (0, .ref (ad 0))]) jx jb dX8_run_3 rfl hl (by decide) rfl (fun ls hl => ?_)
  have loop4 : ∀ (fuel4 : Nat) (k : Nat) (gL4 : Nat → va_E) (H : Heap) (locs : List Loc) (ls : Array Slot), (k ≤ T) → (XAt cy N ad gL4 M lg lr lt st T p (mapT p (rnT M) x k)) → (∀ k, 63 ≤ k → gL4 k = g k) → T - k < fuel4 → Wd G A js.heap (N, ad, gL4) H locs → lv_has ls 4 [(0, .ref (ad 0)), (1, .int (nI (cntB (fun i => rnB M (x (p i))) k))), (2, .int (nI k))] → W jp l je (rmN 5) js jm [.ref (ad 0)].toArray below meth jc H locs 0 0 Q (F0 jm 4 ls []) := by
    intro fuel4
    induction fuel4 with
    | zero => intro k gL4 H locs ls hk hX hfr  hm4; exact absurd hm4 (Nat.not_lt_zero _)
    | succ fuel4 ih4 =>
      intro k gL4 H locs ls hk hX hfr  hm4 hW hl
      obtain ⟨f0, hM, ⟨fc, hL, hlc, hl96⟩, hS, ⟨psz, pf, mt, ltt, hP⟩, ⟨w0, w1, f62⟩⟩ := id hX
      obtain ⟨hok, h83, bc_, fs_, f1, -⟩ := id hM
      obtain ⟨-, hRL, hst, f4, f8⟩ := id hL
      have f5 := hRL.2.2.2.2.2.2.2.1
      have hlen := hRL.2.2.2.2.2.2.1
      obtain ⟨-, hT, hp12, hinj, ⟨ft, fm, f9, f10, f11, hft⟩, hx⟩ := id hS
      obtain ⟨-, hpsz, f60, f61⟩ := id hP
      refine lv_iload_n jx jb dX8_run_4 rfl (lv_at hl 2 rfl) ?_
      refine lv_aload_n jx jb dX8_run_5 rfl (lv_at hl 0 rfl) ?_
      refine w_get X hW K8 (by omega) f0 2 (by decide) fl_X8_26 rfl dX8_run_6 ?_
      refine w_rV (As := []) X hW (c_sSize hS) (by omega) f9 rfl rfl ml_X8_184 mf_X7_size ⟨Nat.le_of_ble_eq_true rfl, Nat.le_of_ble_eq_true rfl⟩ hl.1 rfl (Nat.le_of_ble_eq_true rfl) ⟨Nat.le_of_ble_eq_true rfl, Nat.le_of_ble_eq_true rfl⟩ dX8_run_9 (fun H locs hW => ?_)
      refine lv_icmp_ge (tgt := 79) jx jb dX8_run_12 (by decide) (fun c12 => ?_) (fun c12 => ?_)
      · refine lv_iload_n jx jb dX8_run_79 rfl (lv_at hl 1 rfl) ?_
        exact ret _ _ _ _ _ _ dX8_run_80 hW (by have := n_le (by omega) (by omega) c12; have e : k = T := (by omega); subst e; exact ⟨rfl, hX, hfr⟩)
      · have hlt : k < T := n_nle (by omega) (by omega) c12
        have hpk := hp12 k (by omega)
        obtain ⟨tfc, tfr, t1, tR, tc, t96, ta⟩ := hx (p k) hpk
        have hxk : mapT p (rnT M) x k (p k) = x (p k) := mapT_out (fun i hi e => by have := hinj i k (by omega) (by omega) e; omega)
        rw [hxk] at t1 tR tc t96 ta
        refine lv_aload_n jx jb dX8_run_15 rfl (lv_at hl 0 rfl) ?_
        refine w_get X hW K8 (by omega) f0 2 (by decide) fl_X8_26 rfl dX8_run_16 ?_
        refine lv_iload_n jx jb dX8_run_19 rfl (lv_at hl 2 rfl) ?_
        refine w_rVr (As := [.int (nI k)]) X hW (c_at hS) (by omega) f9 rfl rfl ml_X8_143 mf_X7_at ⟨Nat.le_of_ble_eq_true rfl, Nat.le_of_ble_eq_true rfl⟩ hl.1 rfl (Nat.le_of_ble_eq_true rfl) ⟨Nat.le_of_ble_eq_true rfl, Nat.le_of_ble_eq_true rfl⟩ dX8_run_20 (fun H locs hW => ?_)
        refine top_q (y := some (ad (12 + 4 * p k))) (by rw [if_pos ⟨i_0le (by omega), nI_lt hlt (by omega)⟩, i_cl (by omega)]) ?_
        refine lv_astore_n (lv' := [(3, .ref (ad (12 + 4 * p k))), (0, .ref (ad 0)), (1, .int (nI (cntB (fun i => rnB M (x (p i))) k))), (2, .int (nI k))]) jx jb dX8_run_23 rfl hl (by decide) rfl (fun ls hl => ?_)
        refine lv_aload_n jx jb dX8_run_24 rfl (lv_at hl 0 rfl) ?_
        refine lv_ifnull jx jb dX8_run_25 ?_
        refine lv_aload_n jx jb dX8_run_28 rfl (lv_at hl 0 rfl) ?_
        refine w_getN X hW K3 (by omega) t1 2 (by decide) fn_X8_148 rfl dX8_run_29 ?_
        refine lv_if_eq (tgt := 73) jx jb dX8_run_32 (by decide) (fun c32 => ?_) (fun c32 => ?_)
        · have htou := bI_0.mp c32
          refine lv_iinc (v := nI (k + 1)) (lv' := [(2, .int (nI (k + 1))), (3, .ref (ad (12 + 4 * p k))), (0, .ref (ad 0)), (1, .int (nI (cntB (fun i => rnB M (x (p i))) k)))]) jx jb dX8_run_73 hl (k := 3) rfl (show nI k + 1 = nI (k + 1) from nI_1 _) (by decide) rfl (fun ls hl => ?_)
          refine lv_goto (tgt := 4) jx jb dX8_run_76 (by decide) ?_
          have hX5 : XAt cy N ad gL4 M lg lr lt st T p (mapT p (rnT M) x (k + 1)) := by rw [show mapT p (rnT M) x (k + 1) = va_up (mapT p (rnT M) x k) (p k) (rnT M (mapT p (rnT M) x k (p k))) from rfl, hxk, show rnT M (x (p k)) = x (p k) from if_neg htou, ← hxk, va_up_id]; exact hX
          have hl : lv_has ls 4 [(2, .int (nI (k + 1))), (3, .ref (ad (12 + 4 * p k))), (0, .ref (ad 0)), (1, .int (nI (cntB (fun i => rnB M (x (p i))) (k + 1))))] := by rw [show nI (cntB (fun i => rnB M (x (p i))) (k + 1)) = nI (cntB (fun i => rnB M (x (p i))) k) from by rw [show cntB (fun i => rnB M (x (p i))) (k + 1) = cntB (fun i => rnB M (x (p i))) k + (if rnB M (x (p k)) = true then 1 else 0) from rfl, if_neg (by unfold rnB; rw [Bool.and_eq_true]; exact fun z => htou z.1)]; rfl]; exact hl
          exact ih4 (k + 1) gL4 _ _ _ (by omega) hX5 hfr  (by omega) hW (lv_sub hl [2, 3, 0] rfl)
        · have htou := bI_n0.mp c32
          refine lv_aload_n jx jb dX8_run_35 rfl (lv_at hl 0 rfl) ?_
          refine lv_iconst (v := 0) jx jb dX8_run_36 (by decide) ?_
          refine w_putN X hW K3 (by omega) t1 2 (by decide) fn_X8_148 rfl rfl rfl (Nat.le_of_ble_eq_true rfl) dX8_run_37 (fun H locs hW => ?_)
          obtain ⟨g_1, eg_1⟩ : ∃ zz, zz = va_up gL4 (12 + 4 * p k) (.inr (3, [.ref (ad (13 + 4 * p k)), .int ((x (p k)).2.2.1), .int 0, .int (bI ((x (p k)).2.2.2.2 = true))])) := ⟨_, rfl⟩
          have hW : Wd G A js.heap (N, ad, g_1) H locs := by rw [eg_1]; exact hW
          have hf2 : g_1 0 = .inr (8, [.ref (ad 1), .ref (ad 4), .ref (ad 9), .ref (ad 60), .ref (ad 62)]) := by rw [eg_1]; exact (va_up_n (by omega)).trans f0
          have hf3 : g_1 9 = .inr (7, [.ref (ad 10), .ref (ad 11), .int (nI T)]) := by rw [eg_1]; exact (va_up_n (by omega)).trans f9
          have hf4 : g_1 (12 + 4 * p k) = .inr (3, [.ref (ad (13 + 4 * p k)), .int ((x (p k)).2.2.1), .int 0, .int (bI ((x (p k)).2.2.2.2 = true))]) := by rw [eg_1]; exact va_up_s
          have tR2 := tR.fr (show g_1 (13 + 4 * p k) = _ from by rw [eg_1, va_up_n (by omega)]) (show g_1 (14 + 4 * p k) = _ from by rw [eg_1, va_up_n (by omega)]) (show g_1 (15 + 4 * p k) = _ from by rw [eg_1, va_up_n (by omega)])
          have hX2 : XAt cy N ad g_1 M lg lr lt st T p (va_up (mapT p (rnT M) x k) (p k) ((x (p k)).1, (x (p k)).2.1, (x (p k)).2.2.1, false, (x (p k)).2.2.2.2)) := XAt.putT hX (fun k1 h1 h2 h3 h4 => by show g_1 k1 = _; rw [eg_1, va_up_n (by omega)]) ⟨tfc, tfr, hf4, tR2, tc, t96, ta⟩
          refine lv_aload_n jx jb dX8_run_40 rfl (lv_at hl 0 rfl) ?_
          refine lv_aload_n jx jb dX8_run_41 rfl (lv_at hl 1 rfl) ?_
          refine lv_aload_n jx jb dX8_run_42 rfl (lv_at hl 0 rfl) ?_
          refine w_nV (As := [.ref (ad (12 + 4 * p k))]) X hW (c_xFirstDiff hX2 hlt) (by omega) hf2 rfl rfl ml_X8_155 mf_X8_firstDifference ⟨Nat.le_of_ble_eq_true rfl, Nat.le_of_ble_eq_true rfl⟩ hl.1 rfl (Nat.le_of_ble_eq_true rfl) ⟨Nat.le_of_ble_eq_true rfl, Nat.le_of_ble_eq_true rfl⟩ dX8_run_43 (fun r1 g1 H locs hp hW => ?_)
          obtain ⟨er, hX3, pfr⟩ := hp
          rw [va_up_s] at er
          obtain ⟨f0z, -, -, ⟨-, -, -, -, -, hx3⟩, -, -⟩ := id hX3
          obtain ⟨ufc, ufr, u1, uR, uc, u96, ua⟩ := hx3 (p k) hpk
          rw [va_up_s] at u1 uR uc u96 ua
          refine top_eq (y := fdT M (x (p k))) (er) ?_
          refine lv_iconst (v := -1) jx jb dX8_run_46 (by decide) ?_
          refine lv_icmp_eq (tgt := 54) jx jb dX8_run_47 (by decide) (fun c47 => ?_) (fun c47 => ?_)
          · refine lv_iconst (v := 0) jx jb dX8_run_54 (by decide) ?_
            refine top_eq (y := bI (decide (¬ fdT M (x (p k)) = -1) = true)) ((bI_f (by rw [decide_eq_true_eq]; exact fun z => z c47)).symm) ?_
            refine w_putN X hW K3 (by omega) u1 3 (by decide) fn_X8_152 rfl bI_nar bI_fit (Nat.le_of_ble_eq_true rfl) dX8_run_55 (fun H locs hW => ?_)
            obtain ⟨g_5, eg_5⟩ : ∃ zz, zz = va_up g1 (12 + 4 * p k) (.inr (3, [.ref (ad (13 + 4 * p k)), .int ((x (p k)).2.2.1), .int (bI (false = true)), .int (bI (decide (¬ fdT M (x (p k)) = -1) = true))])) := ⟨_, rfl⟩
            have hW : Wd G A js.heap (N, ad, g_5) H locs := by rw [eg_5]; exact hW
            have hf6 : g_5 0 = .inr (8, [.ref (ad 1), .ref (ad 4), .ref (ad 9), .ref (ad 60), .ref (ad 62)]) := by rw [eg_5]; exact (va_up_n (by omega)).trans f0z
            have hf7 : g_5 (12 + 4 * p k) = .inr (3, [.ref (ad (13 + 4 * p k)), .int ((x (p k)).2.2.1), .int (bI (false = true)), .int (bI (decide (¬ fdT M (x (p k)) = -1) = true))]) := by rw [eg_5]; exact va_up_s
            have uR2 := uR.fr (show g_5 (13 + 4 * p k) = _ from by rw [eg_5, va_up_n (by omega)]) (show g_5 (14 + 4 * p k) = _ from by rw [eg_5, va_up_n (by omega)]) (show g_5 (15 + 4 * p k) = _ from by rw [eg_5, va_up_n (by omega)])
            have hrn : rnT M (x (p k)) = ((x (p k)).1, (x (p k)).2.1, (x (p k)).2.2.1, false, decide (¬ fdT M (x (p k)) = -1)) := if_pos htou
            have hX5 : XAt cy N ad g_5 M lg lr lt st T p (mapT p (rnT M) x (k + 1)) := by rw [show mapT p (rnT M) x (k + 1) = va_up (mapT p (rnT M) x k) (p k) (rnT M (mapT p (rnT M) x k (p k))) from rfl, hxk, hrn, ← va_up_up]; exact XAt.putT hX3 (fun k1 h1 h2 h3 h4 => by show g_5 k1 = _; rw [eg_5, va_up_n (by omega)]) ⟨ufc, ufr, hf7, uR2, uc, u96, ua⟩
            refine lv_iload_n jx jb dX8_run_58 rfl (lv_at hl 2 rfl) ?_
            refine lv_aload_n jx jb dX8_run_59 rfl (lv_at hl 0 rfl) ?_
            refine w_getN X hW K3 (by omega) hf7 3 (by decide) fn_X8_152 rfl dX8_run_60 ?_
            refine lv_if_eq (tgt := 70) jx jb dX8_run_63 (by decide) (fun c63 => ?_) (fun c63 => ?_)
            · refine lv_iconst (v := 0) jx jb dX8_run_70 (by decide) ?_
              refine lv_iadd jx jb dX8_run_71 ?_
              refine top_eq (y := nI (cntB (fun i => rnB M (x (p i))) (k + 1))) (by rw [show cntB (fun i => rnB M (x (p i))) (k + 1) = cntB (fun i => rnB M (x (p i))) k + (if rnB M (x (p k)) = true then 1 else 0) from rfl, if_neg (by unfold rnB; rw [Bool.and_eq_true]; exact fun z => bI_0.mp c63 z.2), ← nI_add]; rfl) ?_
              refine lv_istore_n (lv' := [(1, .int (nI (cntB (fun i => rnB M (x (p i))) (k + 1)))), (3, .ref (ad (12 + 4 * p k))), (0, .ref (ad 0)), (2, .int (nI k))]) jx jb dX8_run_72 rfl hl (by decide) rfl (fun ls hl => ?_)
              refine lv_iinc (v := nI (k + 1)) (lv' := [(2, .int (nI (k + 1))), (1, .int (nI (cntB (fun i => rnB M (x (p i))) (k + 1)))), (3, .ref (ad (12 + 4 * p k))), (0, .ref (ad 0))]) jx jb dX8_run_73 hl (k := 3) rfl (show nI k + 1 = nI (k + 1) from nI_1 _) (by decide) rfl (fun ls hl => ?_)
              refine lv_goto (tgt := 4) jx jb dX8_run_76 (by decide) ?_
              exact ih4 (k + 1) g_5 _ _ _ (by omega) hX5 (fun k hk => by show g_5 k = _; rw [eg_5, va_up_n (by omega), pfr k (by omega), eg_1, va_up_n (by omega), hfr k (by omega)])  (by omega) hW (lv_sub hl [3, 1, 0] rfl)
            · refine lv_iconst (v := 1) jx jb dX8_run_66 (by decide) ?_
              refine lv_goto (tgt := 71) jx jb dX8_run_67 (by decide) ?_
              refine lv_iadd jx jb dX8_run_71 ?_
              refine top_eq (y := nI (cntB (fun i => rnB M (x (p i))) (k + 1))) (by rw [show cntB (fun i => rnB M (x (p i))) (k + 1) = cntB (fun i => rnB M (x (p i))) k + (if rnB M (x (p k)) = true then 1 else 0) from rfl, if_pos (by unfold rnB; rw [Bool.and_eq_true]; exact ⟨htou, bI_n0.mp c63⟩), ← nI_add]; rfl) ?_
              refine lv_istore_n (lv' := [(1, .int (nI (cntB (fun i => rnB M (x (p i))) (k + 1)))), (3, .ref (ad (12 + 4 * p k))), (0, .ref (ad 0)), (2, .int (nI k))]) jx jb dX8_run_72 rfl hl (by decide) rfl (fun ls hl => ?_)
              refine lv_iinc (v := nI (k + 1)) (lv' := [(2, .int (nI (k + 1))), (1, .int (nI (cntB (fun i => rnB M (x (p i))) (k + 1)))), (3, .ref (ad (12 + 4 * p k))), (0, .ref (ad 0))]) jx jb dX8_run_73 hl (k := 3) rfl (show nI k + 1 = nI (k + 1) from nI_1 _) (by decide) rfl (fun ls hl => ?_)
              refine lv_goto (tgt := 4) jx jb dX8_run_76 (by decide) ?_
              exact ih4 (k + 1) g_5 _ _ _ (by omega) hX5 (fun k hk => by show g_5 k = _; rw [eg_5, va_up_n (by omega), pfr k (by omega), eg_1, va_up_n (by omega), hfr k (by omega)])  (by omega) hW (lv_sub hl [3, 1, 0] rfl)
          · refine lv_iconst (v := 1) jx jb dX8_run_50 (by decide) ?_
            refine lv_goto (tgt := 55) jx jb dX8_run_51 (by decide) ?_
            refine top_eq (y := bI (decide (¬ fdT M (x (p k)) = -1) = true)) ((bI_t (by rw [decide_eq_true_eq]; exact c47)).symm) ?_
            refine w_putN X hW K3 (by omega) u1 3 (by decide) fn_X8_152 rfl bI_nar bI_fit (Nat.le_of_ble_eq_true rfl) dX8_run_55 (fun H locs hW => ?_)
            obtain ⟨g_8, eg_8⟩ : ∃ zz, zz = va_up g1 (12 + 4 * p k) (.inr (3, [.ref (ad (13 + 4 * p k)), .int ((x (p k)).2.2.1), .int (bI (false = true)), .int (bI (decide (¬ fdT M (x (p k)) = -1) = true))])) := ⟨_, rfl⟩
            have hW : Wd G A js.heap (N, ad, g_8) H locs := by rw [eg_8]; exact hW
            have hf9 : g_8 0 = .inr (8, [.ref (ad 1), .ref (ad 4), .ref (ad 9), .ref (ad 60), .ref (ad 62)]) := by rw [eg_8]; exact (va_up_n (by omega)).trans f0z
            have hf10 : g_8 (12 + 4 * p k) = .inr (3, [.ref (ad (13 + 4 * p k)), .int ((x (p k)).2.2.1), .int (bI (false = true)), .int (bI (decide (¬ fdT M (x (p k)) = -1) = true))]) := by rw [eg_8]; exact va_up_s
            have uR2 := uR.fr (show g_8 (13 + 4 * p k) = _ from by rw [eg_8, va_up_n (by omega)]) (show g_8 (14 + 4 * p k) = _ from by rw [eg_8, va_up_n (by omega)]) (show g_8 (15 + 4 * p k) = _ from by rw [eg_8, va_up_n (by omega)])
            have hrn : rnT M (x (p k)) = ((x (p k)).1, (x (p k)).2.1, (x (p k)).2.2.1, false, decide (¬ fdT M (x (p k)) = -1)) := if_pos htou
            have hX5 : XAt cy N ad g_8 M lg lr lt st T p (mapT p (rnT M) x (k + 1)) := by rw [show mapT p (rnT M) x (k + 1) = va_up (mapT p (rnT M) x k) (p k) (rnT M (mapT p (rnT M) x k (p k))) from rfl, hxk, hrn, ← va_up_up]; exact XAt.putT hX3 (fun k1 h1 h2 h3 h4 => by show g_8 k1 = _; rw [eg_8, va_up_n (by omega)]) ⟨ufc, ufr, hf10, uR2, uc, u96, ua⟩
            refine lv_iload_n jx jb dX8_run_58 rfl (lv_at hl 2 rfl) ?_
            refine lv_aload_n jx jb dX8_run_59 rfl (lv_at hl 0 rfl) ?_
            refine w_getN X hW K3 (by omega) hf10 3 (by decide) fn_X8_152 rfl dX8_run_60 ?_
            refine lv_if_eq (tgt := 70) jx jb dX8_run_63 (by decide) (fun c63 => ?_) (fun c63 => ?_)
            · refine lv_iconst (v := 0) jx jb dX8_run_70 (by decide) ?_
              refine lv_iadd jx jb dX8_run_71 ?_
              refine top_eq (y := nI (cntB (fun i => rnB M (x (p i))) (k + 1))) (by rw [show cntB (fun i => rnB M (x (p i))) (k + 1) = cntB (fun i => rnB M (x (p i))) k + (if rnB M (x (p k)) = true then 1 else 0) from rfl, if_neg (by unfold rnB; rw [Bool.and_eq_true]; exact fun z => bI_0.mp c63 z.2), ← nI_add]; rfl) ?_
              refine lv_istore_n (lv' := [(1, .int (nI (cntB (fun i => rnB M (x (p i))) (k + 1)))), (3, .ref (ad (12 + 4 * p k))), (0, .ref (ad 0)), (2, .int (nI k))]) jx jb dX8_run_72 rfl hl (by decide) rfl (fun ls hl => ?_)
              refine lv_iinc (v := nI (k + 1)) (lv' := [(2, .int (nI (k + 1))), (1, .int (nI (cntB (fun i => rnB M (x (p i))) (k + 1)))), (3, .ref (ad (12 + 4 * p k))), (0, .ref (ad 0))]) jx jb dX8_run_73 hl (k := 3) rfl (show nI k + 1 = nI (k + 1) from nI_1 _) (by decide) rfl (fun ls hl => ?_)
              refine lv_goto (tgt := 4) jx jb dX8_run_76 (by decide) ?_
              exact ih4 (k + 1) g_8 _ _ _ (by omega) hX5 (fun k hk => by show g_8 k = _; rw [eg_8, va_up_n (by omega), pfr k (by omega), eg_1, va_up_n (by omega), hfr k (by omega)])  (by omega) hW (lv_sub hl [3, 1, 0] rfl)
            · refine lv_iconst (v := 1) jx jb dX8_run_66 (by decide) ?_
              refine lv_goto (tgt := 71) jx jb dX8_run_67 (by decide) ?_
              refine lv_iadd jx jb dX8_run_71 ?_
              refine top_eq (y := nI (cntB (fun i => rnB M (x (p i))) (k + 1))) (by rw [show cntB (fun i => rnB M (x (p i))) (k + 1) = cntB (fun i => rnB M (x (p i))) k + (if rnB M (x (p k)) = true then 1 else 0) from rfl, if_pos (by unfold rnB; rw [Bool.and_eq_true]; exact ⟨htou, bI_n0.mp c63⟩), ← nI_add]; rfl) ?_
              refine lv_istore_n (lv' := [(1, .int (nI (cntB (fun i => rnB M (x (p i))) (k + 1)))), (3, .ref (ad (12 + 4 * p k))), (0, .ref (ad 0)), (2, .int (nI k))]) jx jb dX8_run_72 rfl hl (by decide) rfl (fun ls hl => ?_)
              refine lv_iinc (v := nI (k + 1)) (lv' := [(2, .int (nI (k + 1))), (1, .int (nI (cntB (fun i => rnB M (x (p i))) (k + 1)))), (3, .ref (ad (12 + 4 * p k))), (0, .ref (ad 0))]) jx jb dX8_run_73 hl (k := 3) rfl (show nI k + 1 = nI (k + 1) from nI_1 _) (by decide) rfl (fun ls hl => ?_)
              refine lv_goto (tgt := 4) jx jb dX8_run_76 (by decide) ?_
              exact ih4 (k + 1) g_8 _ _ _ (by omega) hX5 (fun k hk => by show g_8 k = _; rw [eg_8, va_up_n (by omega), pfr k (by omega), eg_1, va_up_n (by omega), hfr k (by omega)])  (by omega) hW (lv_sub hl [3, 1, 0] rfl)
  exact loop4 _ 0 g _ _ _ (by omega) hX (fun k hk => rfl)  (Nat.lt_succ_self _) hW (lv_sub hl [2, 1, 0] rfl)

set_option maxHeartbeats 4000000 in
set_option maxRecDepth 100000 in
theorem c_callNo {l : Launch} {G : va_G} {cy : Nat → ClassId} {N : Nat} {ad : Nat → Nat} {g : Nat → va_E} {M : M4} {lg : List Nat} {lr lt : Nat → Int32} {st T : Nat} {p : Nat → Nat} {x : Nat → TT} {a b : Int32} (hX : XAt cy N ad g M lg lr lt st T p x) (hno : ¬ ((0 ≤ a ∧ a < 6) ∧ 0 ≤ b ∧ b < 16)) : RI l G cy (N, ad, g) yX8_call cX8_call 3 (some .int) (rmN 4) [.ref (ad 0), .int a, .int b] (-1) := by
  refine RI.mk (by decide) (by first | rfl | exact bI_nar) (Nat.le_of_ble_eq_true rfl) ?_
  intro jp je js jm below meth jc A Q X hW ret ls hl
  have jx := X.hx
  have jb := X.hb
  have hl : lv_has ls 3 [(0, .ref (ad 0)), (1, .int a), (2, .int b)] := hl
  have X : Cx G cy jp js jm _ jc cX8_call 3 RX8 A js.heap := X
  obtain ⟨f0, hM, ⟨fc, hL, hlc, hl96⟩, hS, ⟨psz, pf, mt, ltt, hP⟩, ⟨w0, w1, f62⟩⟩ := id hX
  obtain ⟨hok, h83, bc_, fs_, f1, -⟩ := id hM
  obtain ⟨-, hRL, hst, f4, f8⟩ := id hL
  have f5 := hRL.2.2.2.2.2.2.2.1
  have hlen := hRL.2.2.2.2.2.2.1
  obtain ⟨-, hT, hp12, hinj, ⟨ft, fm, f9, f10, f11, hft⟩, hx⟩ := id hS
  obtain ⟨-, hpsz, f60, f61⟩ := id hP
  refine lv_iload_n jx jb dX8_call_0 rfl (lv_at hl 1 rfl) ?_
  refine lv_bipush (v := 6) jx jb dX8_call_1 (by decide) ?_
  refine w_rS (As := [.int a, .int 6]) X hW (c_isBelow) ml_X8_77 mf_X8_isBelow ⟨Nat.le_of_ble_eq_true rfl, Nat.le_of_ble_eq_true rfl⟩ hl.1 rfl (Nat.le_of_ble_eq_true rfl) ⟨Nat.le_of_ble_eq_true rfl, Nat.le_of_ble_eq_true rfl⟩ dX8_call_3 (fun H locs hW => ?_)
  refine lv_if_eq (tgt := 18) jx jb dX8_call_6 (by decide) (fun c6 => ?_) (fun c6 => ?_)
  · refine lv_iconst (v := -1) jx jb dX8_call_18 (by decide) ?_
    exact ret _ _ _ _ _ dX8_call_19 hW rfl
  · refine lv_iload_n jx jb dX8_call_9 rfl (lv_at hl 2 rfl) ?_
    refine lv_bipush (v := 16) jx jb dX8_call_10 (by decide) ?_
    refine w_rS (As := [.int b, .int 16]) X hW (c_isBelow) ml_X8_77 mf_X8_isBelow ⟨Nat.le_of_ble_eq_true rfl, Nat.le_of_ble_eq_true rfl⟩ hl.1 rfl (Nat.le_of_ble_eq_true rfl) ⟨Nat.le_of_ble_eq_true rfl, Nat.le_of_ble_eq_true rfl⟩ dX8_call_12 (fun H locs hW => ?_)
    refine lv_if_ne (tgt := 20) jx jb dX8_call_15 (by decide) (fun c15 => ?_) (fun c15 => ?_)
    · exact absurd ⟨bI_n0.mp c6, bI_n0.mp c15⟩ hno
    · refine lv_iconst (v := -1) jx jb dX8_call_18 (by decide) ?_
      exact ret _ _ _ _ _ dX8_call_19 hW rfl

set_option maxHeartbeats 4000000 in
set_option maxRecDepth 100000 in
theorem c_callFull {l : Launch} {G : va_G} {cy : Nat → ClassId} {N : Nat} {ad : Nat → Nat} {g : Nat → va_E} {M : M4} {lg : List Nat} {lr lt : Nat → Int32} {st T : Nat} {p : Nat → Nat} {x : Nat → TT} {k q : Nat} (hX : XAt cy N ad g M lg lr lt st T p x) (hk : k < 6) (hq : q < 16) (h200 : lg.length = 200) : RI l G cy (N, ad, g) yX8_call cX8_call 3 (some .int) (rmN 4) [.ref (ad 0), .int (nI k), .int (nI q)] (-1) := by
  refine RI.mk (by decide) (by first | rfl | exact bI_nar) (Nat.le_of_ble_eq_true rfl) ?_
  intro jp je js jm below meth jc A Q X hW ret ls hl
  have jx := X.hx
  have jb := X.hb
  have hl : lv_has ls 3 [(0, .ref (ad 0)), (1, .int (nI k)), (2, .int (nI q))] := hl
  have X : Cx G cy jp js jm _ jc cX8_call 3 RX8 A js.heap := X
  obtain ⟨f0, hM, ⟨fc, hL, hlc, hl96⟩, hS, ⟨psz, pf, mt, ltt, hP⟩, ⟨w0, w1, f62⟩⟩ := id hX
  obtain ⟨hok, h83, bc_, fs_, f1, -⟩ := id hM
  obtain ⟨-, hRL, hst, f4, f8⟩ := id hL
  have f5 := hRL.2.2.2.2.2.2.2.1
  have hlen := hRL.2.2.2.2.2.2.1
  obtain ⟨-, hT, hp12, hinj, ⟨ft, fm, f9, f10, f11, hft⟩, hx⟩ := id hS
  obtain ⟨-, hpsz, f60, f61⟩ := id hP
  refine lv_iload_n jx jb dX8_call_0 rfl (lv_at hl 1 rfl) ?_
  refine lv_bipush (v := 6) jx jb dX8_call_1 (by decide) ?_
  refine w_rS (As := [.int (nI k), .int 6]) X hW (c_isBelow) ml_X8_77 mf_X8_isBelow ⟨Nat.le_of_ble_eq_true rfl, Nat.le_of_ble_eq_true rfl⟩ hl.1 rfl (Nat.le_of_ble_eq_true rfl) ⟨Nat.le_of_ble_eq_true rfl, Nat.le_of_ble_eq_true rfl⟩ dX8_call_3 (fun H locs hW => ?_)
  refine lv_if_eq (tgt := 18) jx jb dX8_call_6 (by decide) (fun c6 => ?_) (fun c6 => ?_)
  · exact absurd (c6.symm.trans (bel_t (b := 6) hk (by decide))) (by decide)
  · refine lv_iload_n jx jb dX8_call_9 rfl (lv_at hl 2 rfl) ?_
    refine lv_bipush (v := 16) jx jb dX8_call_10 (by decide) ?_
    refine w_rS (As := [.int (nI q), .int 16]) X hW (c_isBelow) ml_X8_77 mf_X8_isBelow ⟨Nat.le_of_ble_eq_true rfl, Nat.le_of_ble_eq_true rfl⟩ hl.1 rfl (Nat.le_of_ble_eq_true rfl) ⟨Nat.le_of_ble_eq_true rfl, Nat.le_of_ble_eq_true rfl⟩ dX8_call_12 (fun H locs hW => ?_)
    refine lv_if_ne (tgt := 20) jx jb dX8_call_15 (by decide) (fun c15 => ?_) (fun c15 => ?_)
    · refine lv_aload_n jx jb dX8_call_20 rfl (lv_at hl 0 rfl) ?_
      refine w_get X hW K8 (by omega) f0 1 (by decide) fl_X8_19 rfl dX8_call_21 ?_
      refine lv_iload_n jx jb dX8_call_24 rfl (lv_at hl 1 rfl) ?_
      refine lv_iload_n jx jb dX8_call_25 rfl (lv_at hl 2 rfl) ?_
      refine w_rS (As := [.int (nI k), .int (nI q)]) X hW (c_callOf) ml_X8_81 mf_X8_callOf ⟨Nat.le_of_ble_eq_true rfl, Nat.le_of_ble_eq_true rfl⟩ hl.1 rfl (Nat.le_of_ble_eq_true rfl) ⟨Nat.le_of_ble_eq_true rfl, Nat.le_of_ble_eq_true rfl⟩ dX8_call_26 (fun H locs hW => ?_)
      refine lv_aload_n jx jb dX8_call_29 rfl (lv_at hl 0 rfl) ?_
      refine w_get X hW K8 (by omega) f0 0 (by decide) fl_X8_12 rfl dX8_call_30 ?_
      refine w_rV (As := [.int (nI (k * 16 + q)), .ref (ad 1)]) X hW (c_logFull hL h200) (by omega) f4 rfl rfl ml_X8_85 mf_X1_add ⟨Nat.le_of_ble_eq_true rfl, Nat.le_of_ble_eq_true rfl⟩ hl.1 rfl (Nat.le_of_ble_eq_true rfl) ⟨Nat.le_of_ble_eq_true rfl, Nat.le_of_ble_eq_true rfl⟩ dX8_call_33 (fun H locs hW => ?_)
      exact ret _ _ _ _ _ dX8_call_36 hW rfl
    · exact absurd (c15.symm.trans (bel_t (b := 16) hq (by decide))) (by decide)

set_option maxHeartbeats 4000000 in
set_option maxRecDepth 100000 in
theorem c_call {l : Launch} {G : va_G} {cy : Nat → ClassId} {N : Nat} {ad : Nat → Nat} {g : Nat → va_E} {M : M4} {lg : List Nat} {lr lt : Nat → Int32} {st T : Nat} {p : Nat → Nat} {x : Nat → TT} {k q : Nat} (hX : XAt cy N ad g M lg lr lt st T p x) (hk : k < 6) (hq : q < 16) (hs : lg.length < 200) : MI l G cy (N, ad, g) yX8_call cX8_call 3 (some .int) (rmN 4) [.ref (ad 0), .int (nI k), .int (nI q)] (nA N ad (fun v g1 => v = rs M (tk M ((k * 16 + q) / 16) st) (stp M (k * 16 + q) st) ∧ XAt cy N ad g1 M (lg ++ [(k * 16 + q)]) (upd lr lg.length (rs M (tk M ((k * 16 + q) / 16) st) (stp M (k * 16 + q) st))) (upd lt lg.length (tI (tk M ((k * 16 + q) / 16) st))) (stp M (k * 16 + q) st) T p x ∧ ∀ k, 63 ≤ k → g1 k = g k)) := by
  refine NI.mk (by decide) (by intros; first | rfl | (simp_all; done)) (Nat.le_of_ble_eq_true rfl) ?_
  intro jp je js jm below meth jc A Q X hW ret ls hl
  have jx := X.hx
  have jb := X.hb
  have hl : lv_has ls 3 [(0, .ref (ad 0)), (1, .int (nI k)), (2, .int (nI q))] := hl
  have X : Cx G cy jp js jm _ jc cX8_call 3 RX8 A js.heap := X
  obtain ⟨f0, hM, ⟨fc, hL, hlc, hl96⟩, hS, ⟨psz, pf, mt, ltt, hP⟩, ⟨w0, w1, f62⟩⟩ := id hX
  obtain ⟨hok, h83, bc_, fs_, f1, -⟩ := id hM
  obtain ⟨-, hRL, hst, f4, f8⟩ := id hL
  have f5 := hRL.2.2.2.2.2.2.2.1
  have hlen := hRL.2.2.2.2.2.2.1
  obtain ⟨-, hT, hp12, hinj, ⟨ft, fm, f9, f10, f11, hft⟩, hx⟩ := id hS
  obtain ⟨-, hpsz, f60, f61⟩ := id hP
  refine lv_iload_n jx jb dX8_call_0 rfl (lv_at hl 1 rfl) ?_
  refine lv_bipush (v := 6) jx jb dX8_call_1 (by decide) ?_
  refine w_rS (As := [.int (nI k), .int 6]) X hW (c_isBelow) ml_X8_77 mf_X8_isBelow ⟨Nat.le_of_ble_eq_true rfl, Nat.le_of_ble_eq_true rfl⟩ hl.1 rfl (Nat.le_of_ble_eq_true rfl) ⟨Nat.le_of_ble_eq_true rfl, Nat.le_of_ble_eq_true rfl⟩ dX8_call_3 (fun H locs hW => ?_)
  refine lv_if_eq (tgt := 18) jx jb dX8_call_6 (by decide) (fun c6 => ?_) (fun c6 => ?_)
  · exact absurd (c6.symm.trans (bel_t (b := 6) hk (by decide))) (by decide)
  · refine lv_iload_n jx jb dX8_call_9 rfl (lv_at hl 2 rfl) ?_
    refine lv_bipush (v := 16) jx jb dX8_call_10 (by decide) ?_
    refine w_rS (As := [.int (nI q), .int 16]) X hW (c_isBelow) ml_X8_77 mf_X8_isBelow ⟨Nat.le_of_ble_eq_true rfl, Nat.le_of_ble_eq_true rfl⟩ hl.1 rfl (Nat.le_of_ble_eq_true rfl) ⟨Nat.le_of_ble_eq_true rfl, Nat.le_of_ble_eq_true rfl⟩ dX8_call_12 (fun H locs hW => ?_)
    refine lv_if_ne (tgt := 20) jx jb dX8_call_15 (by decide) (fun c15 => ?_) (fun c15 => ?_)
    · refine lv_aload_n jx jb dX8_call_20 rfl (lv_at hl 0 rfl) ?_
      refine w_get X hW K8 (by omega) f0 1 (by decide) fl_X8_19 rfl dX8_call_21 ?_
      refine lv_iload_n jx jb dX8_call_24 rfl (lv_at hl 1 rfl) ?_
      refine lv_iload_n jx jb dX8_call_25 rfl (lv_at hl 2 rfl) ?_
      refine w_rS (As := [.int (nI k), .int (nI q)]) X hW (c_callOf) ml_X8_81 mf_X8_callOf ⟨Nat.le_of_ble_eq_true rfl, Nat.le_of_ble_eq_true rfl⟩ hl.1 rfl (Nat.le_of_ble_eq_true rfl) ⟨Nat.le_of_ble_eq_true rfl, Nat.le_of_ble_eq_true rfl⟩ dX8_call_26 (fun H locs hW => ?_)
      refine lv_aload_n jx jb dX8_call_29 rfl (lv_at hl 0 rfl) ?_
      refine w_get X hW K8 (by omega) f0 0 (by decide) fl_X8_12 rfl dX8_call_30 ?_
      refine w_nV (As := [.int (nI (k * 16 + q)), .ref (ad 1)]) X hW (c_logAdd hM hL (by omega) hs) (by omega) f4 rfl rfl ml_X8_85 mf_X1_add ⟨Nat.le_of_ble_eq_true rfl, Nat.le_of_ble_eq_true rfl⟩ hl.1 rfl (Nat.le_of_ble_eq_true rfl) ⟨Nat.le_of_ble_eq_true rfl, Nat.le_of_ble_eq_true rfl⟩ dX8_call_33 (fun r1 g1 H locs hp hW => ?_)
      obtain ⟨er, hL1, pfr⟩ := hp
      exact ret _ _ _ _ _ _ dX8_call_36 hW ⟨er, ⟨((show g1 0 = g 0 from by rw [pfr _ (by simp only [List.mem_cons, List.not_mem_nil, or_false, not_or] <;> omega)]).trans f0), hM.fr (fun k hk => by show g1 k = _; rw [pfr k (by simp only [List.mem_cons, List.not_mem_nil, or_false, not_or] <;> omega)]), ⟨_, (by rw [List.length_append]; exact hL1), (fun i hi => by simp at hi; by_cases e : i = lg.length; (rw [e, pk_us, show gl (lg ++ [(k * 16 + q)]) lg.length = (k * 16 + q) from gl_app_r (i := 0)]); (rw [pk_un e, gl_app_l (by omega)]; exact hlc i (by omega))), (fun z hz => by rcases List.mem_append.mp hz with h | h; exact hl96 z h; (simp at h; omega))⟩, hS.fr (fun k hk1 hk2 => by show g1 k = _; rw [pfr k (by simp only [List.mem_cons, List.not_mem_nil, or_false, not_or] <;> omega)]), ⟨psz, pf, mt, ltt, h83, hpsz, (show g1 60 = g 60 from by rw [pfr _ (by simp only [List.mem_cons, List.not_mem_nil, or_false, not_or] <;> omega)]).trans f60, (show g1 61 = g 61 from by rw [pfr _ (by simp only [List.mem_cons, List.not_mem_nil, or_false, not_or] <;> omega)]).trans f61⟩, ⟨w0, w1, (show g1 62 = g 62 from by rw [pfr _ (by simp only [List.mem_cons, List.not_mem_nil, or_false, not_or] <;> omega)]).trans f62⟩⟩, (fun k hk => by show g1 k = _; rw [pfr k (by simp only [List.mem_cons, List.not_mem_nil, or_false, not_or] <;> omega)])⟩
    · exact absurd (c15.symm.trans (bel_t (b := 16) hq (by decide))) (by decide)
