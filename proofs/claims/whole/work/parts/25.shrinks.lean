theorem filL_app {o : Nat → Bool} {lg : List Nat} : ∀ {d k : Nat}, filL o lg (k + d) = filL o lg k ++ restL o lg k d
  | 0, k => by simp [restL]
  | d + 1, k => by
    rw [show k + (d + 1) = (k + 1) + d by omega, filL_app (d := d) (k := k + 1)]
    show (if o k = true then filL o lg k else filL o lg k ++ [gl lg k]) ++ restL o lg (k + 1) d = filL o lg k ++ (if o k = true then restL o lg (k + 1) d else gl lg k :: restL o lg (k + 1) d)
    split
    · rfl
    · rw [List.append_assoc]; rfl
theorem filL_congr {o o' : Nat → Bool} {lg : List Nat} : ∀ {k : Nat}, (∀ i, i < k → o i = o' i) → filL o lg k = filL o' lg k
  | 0, _ => rfl
  | k + 1, h => by
    unfold filL
    rw [h k (by omega), filL_congr (fun i hi => h i (by omega))]
theorem restL_congr {o o' : Nat → Bool} {lg : List Nat} : ∀ {d k : Nat}, (∀ i, k ≤ i → i < k + d → o i = o' i) → restL o lg k d = restL o' lg k d
  | 0, _, _ => rfl
  | d + 1, k, h => by
    unfold restL
    rw [h k (by omega) (by omega), restL_congr (fun i h1 h2 => h i (by omega) (by omega))]
theorem restL_ne {o : Nat → Bool} {lg : List Nat} {j : Nat} (hj : o j = false) : ∀ {d k : Nat}, k ≤ j → j < k + d → restL o lg k d ≠ []
  | 0, k, h1, h2 => absurd h2 (by omega)
  | d + 1, k, h1, h2 => by
    unfold restL
    split
    · rename_i hk
      have : k ≠ j := fun e => by rw [e, hj] at hk; cases hk
      exact restL_ne hj (by omega) (by omega)
    · simp
theorem filL_none {lg : List Nat} {o : Nat → Bool} : ∀ {k : Nat}, (∀ i, i < k → o i = false) → k ≤ lg.length → filL o lg k = lg.take k
  | 0, _, _ => by simp [filL]
  | k + 1, h, hk => by
    show (if o k = true then filL o lg k else filL o lg k ++ [gl lg k]) = _
    rw [if_neg (by rw [h k (by omega)]; decide), filL_none (fun i hi => h i (by omega)) (by omega), List.take_succ]
    congr 1
    simp [gl, List.getD, show k < lg.length by omega]
theorem stq_app {M : M4} {a b : List Nat} {s : Nat} : ∀ {i : Nat}, i ≤ b.length → stq M (gl (a ++ b)) s (a.length + i) = stq M (gl b) (stq M (gl a) s a.length) i
  | 0, _ => stq_congr (fun i hi => gl_app_l hi)
  | i + 1, h => by
    show stp M (gl (a ++ b) (a.length + i)) (stq M (gl (a ++ b)) s (a.length + i)) = stp M (gl b i) (stq M (gl b) (stq M (gl a) s a.length) i)
    rw [gl_app_r, stq_app (i := i) (by omega)]
theorem tkq_app {M : M4} {a b : List Nat} {s : Nat} (hb : b ≠ []) : tkq M (gl (a ++ b)) s ((a ++ b).length - 1) = tkq M (gl b) (stq M (gl a) s a.length) (b.length - 1) := by
  have h1 : 1 ≤ b.length := by cases b with | nil => exact absurd rfl hb | cons _ _ => simp
  unfold tkq
  rw [show (a ++ b).length - 1 = a.length + (b.length - 1) by simp; omega, gl_app_r, stq_app (by omega)]
theorem rsq_app {M : M4} {a b : List Nat} {s : Nat} (hb : b ≠ []) : rsq M (gl (a ++ b)) s ((a ++ b).length - 1) = rsq M (gl b) (stq M (gl a) s a.length) (b.length - 1) := by
  have h1 : 1 ≤ b.length := by cases b with | nil => exact absurd rfl hb | cons _ _ => simp
  unfold rsq
  rw [tkq_app hb, show (a ++ b).length - 1 + 1 = a.length + (b.length - 1 + 1) by simp; omega, stq_app (by omega)]
theorem alk_app {M : M4} {wT wR : Int32} {a b : List Nat} (hb : b ≠ []) : (tI (tkq M (gl (a ++ b)) 0 ((a ++ b).length - 1)) = wT ∧ rsq M (gl (a ++ b)) 0 ((a ++ b).length - 1) = wR) ↔ alk M wT wR (stq M (gl a) 0 a.length) b = true := by
  unfold alk
  rw [tkq_app hb, rsq_app hb, decide_eq_true_eq]
theorem pasL_cons {M : M4} {wT wR : Int32} {s x : Nat} {r : List Nat} : pasL M wT wR s (x :: r) = if r = [] then [x] else if alk M wT wR s r = true then pasL M wT wR s r else x :: pasL M wT wR (stp M x s) r := rfl
theorem shrL_stable {M : M4} {wT wR : Int32} : ∀ {f : Nat} {l : List Nat}, l.length ≤ f → shrL M wT wR f l = shrL M wT wR l.length l
  | 0, l, h => by rw [show l.length = 0 by omega]
  | f + 1, l, h => by
    cases hl : l.length with
    | zero =>
      have : l = [] := List.length_eq_zero_iff.mp hl
      subst this
      rfl
    | succ m =>
      unfold shrL
      rw [hl]
      split
      · rename_i hlt
        rw [shrL_stable (f := f) (by omega), shrL_stable (f := m) (by omega)]
      · rfl
theorem shrL_pass {M : M4} {wT wR : Int32} {l : List Nat} (h : 1 ≤ l.length) : shrL M wT wR l.length l = if (pasL M wT wR 0 l).length < l.length then shrL M wT wR (pasL M wT wR 0 l).length (pasL M wT wR 0 l) else pasL M wT wR 0 l := by
  obtain ⟨m, hm⟩ : ∃ m, l.length = m + 1 := ⟨l.length - 1, by omega⟩
  rw [hm]
  show (if (pasL M wT wR 0 l).length < l.length then shrL M wT wR m (pasL M wT wR 0 l) else pasL M wT wR 0 l) = _
  rw [hm]
  split
  · rw [shrL_stable (f := m) (by omega)]
  · rfl

set_option maxHeartbeats 4000000 in
set_option maxRecDepth 100000 in
theorem c_shrinks {l : Launch} {G : va_G} {cy : Nat → ClassId} {N : Nat} {ad : Nat → Nat} {g : Nat → va_E} {q : Nat → Nat → Int32} {te to : Int32} {M : M4} {lg : List Nat} {lr lt : Nat → Int32} {j : Nat} (hR : MRaw cy N ad g q (nI lg.length) te to) (hok : okM M) (hQ : QM q M) (hL : QL q lg lr lt) (hj : j < lg.length) : MV l G cy (N, ad, g) yX9_shrinks cX9_shrinks 6 none (rmN 3) [.ref (ad 63), .int (nI j)] (nV N ad (fun g1 => ∃ o q1 tv, MRaw cy N ad g1 q1 (nI lg.length) te tv ∧ (∀ i, i ≤ j → q1 81 i = bI (o i = true)) ∧ o j = false ∧ filL o lg (j + 1) = mkRow M lg j ∧ (∀ a, a ≠ 80 → a ≠ 81 → q1 a = q a) ∧ ∀ k, ¬ (63 ≤ k ∧ k < 83) → g1 k = g k)) := by
  refine NV.mk (by decide) (Nat.le_of_ble_eq_true rfl) ?_
  intro jp je js jm below meth jc A Q X hW ret ls hl
  have jx := X.hx
  have jb := X.hb
  have hl : lv_has ls 6 [(0, .ref (ad 63)), (1, .int (nI j))] := hl
  have X : Cx G cy jp js jm _ jc cX9_shrinks 6 RX9 A js.heap := X
  have h83 : 83 ≤ N := hR.1
  have hl200 := hL.1
  refine lv_iconst (v := 0) jx jb dX9_shrinks_0 (by decide) ?_
  refine lv_istore_n (lv' := [(2, .int 0), (0, .ref (ad 63)), (1, .int (nI j))]) jx jb dX9_shrinks_1 rfl hl (by decide) rfl (fun ls hl => ?_)
  have loop2 : ∀ (fuel2 : Nat) (k : Nat) (qL2 : Nat → Nat → Int32) (gL2 : Nat → va_E) (H : Heap) (locs : List Loc) (ls : Array Slot), (MRaw cy N ad gL2 qL2 (nI lg.length) te to) → (∀ k, ¬ (63 ≤ k ∧ k < 83) → gL2 k = g k) → (k ≤ j + 1) → (∀ m, m < k → qL2 81 m = 0) → (∀ a, a ≠ 81 → qL2 a = q a) → j + 1 - k < fuel2 → Wd G A js.heap (N, ad, gL2) H locs → lv_has ls 6 [(0, .ref (ad 63)), (1, .int (nI j)), (2, .int (nI k))] → W jp l je (rmN 3) js jm [.ref (ad 63), .int (nI j)].toArray below meth jc H locs 0 0 Q (F0 jm 2 ls []) := by
    intro fuel2
    induction fuel2 with
    | zero => intro k qL2 gL2 H locs ls hR2 hfr2 hk h0 hsm  hm2; exact absurd hm2 (Nat.not_lt_zero _)
    | succ fuel2 ih2 =>
      intro k qL2 gL2 H locs ls hR2 hfr2 hk h0 hsm  hm2 hW hl
      refine lv_iload_n jx jb dX9_shrinks_2 rfl (lv_at hl 2 rfl) ?_
      refine lv_iload_n jx jb dX9_shrinks_3 rfl (lv_at hl 1 rfl) ?_
      refine lv_icmp_gt (tgt := 20) jx jb dX9_shrinks_4 (by decide) (fun c4 => ?_) (fun c4 => ?_)
      · refine lv_aload_n jx jb dX9_shrinks_20 rfl (lv_at hl 0 rfl) ?_
        refine lv_iload_n jx jb dX9_shrinks_21 rfl (lv_at hl 1 rfl) ?_
        have hk1 : k = j + 1 := by have := n_lt (by omega) (by omega) c4; omega
        have hfl0 : ∀ i, i ≤ j → qL2 81 i = bI ((fun _ : Nat => false) i = true) := fun i hi => h0 i (by omega)
        have hrow0 : filL (fun _ => false) lg (j + 1) = lg.take (j + 1) := filL_none (fun i hi => rfl) (by omega)
        have hr0 : (lg.take (j + 1)).length = j + 1 := by rw [List.length_take]; omega
        have m2 : gL2 63 = .inr (9, [.ref (ad 64), .ref (ad 65), .ref (ad 66), .ref (ad 67), .int (nI lg.length), .ref (ad 68), .ref (ad 69), .ref (ad 70), .ref (ad 71), .ref (ad 72), .int te, .ref (ad 73), .ref (ad 74), .ref (ad 75), .ref (ad 76), .ref (ad 77), .ref (ad 78), .ref (ad 79), .ref (ad 80), .int to, .ref (ad 81), .ref (ad 82)]) := hR2.2.1
        refine w_nV (As := [.int (nI j)]) X hW (c_ends (o := (fun _ => false)) hR2 hok (hQ.of (fun a h1 h2 => hsm a (by omega))) (hL.of (fun a h1 h2 => hsm a (by omega))) hj hfl0 rfl) (by omega) m2 rfl rfl ml_X9_106 mf_X9_ends ⟨Nat.le_of_ble_eq_true rfl, Nat.le_of_ble_eq_true rfl⟩ hl.1 rfl (Nat.le_of_ble_eq_true rfl) ⟨Nat.le_of_ble_eq_true rfl, Nat.le_of_ble_eq_true rfl⟩ dX9_shrinks_22 (fun re1 gEe1 H locs hp hW => ?_)
        obtain ⟨ere1, qEe1, hREe1, hsEe1, frEe1⟩ := hp
        refine top_eq (y := rsq M (gl (lg.take (j + 1))) 0 j) (by rw [ere1, hrow0, hr0]; rfl) ?_
        rw [hrow0, hr0] at hREe1
        have hREe1 : MRaw cy N ad gEe1 qEe1 (nI lg.length) te (tI (tkq M (gl (lg.take (j + 1))) 0 j)) := hREe1
        refine lv_istore_n (lv' := [(2, .int (rsq M (gl (lg.take (j + 1))) 0 j)), (0, .ref (ad 63)), (1, .int (nI j))]) jx jb dX9_shrinks_25 rfl hl (by decide) rfl (fun ls hl => ?_)
        refine lv_aload_n jx jb dX9_shrinks_26 rfl (lv_at hl 1 rfl) ?_
        have m3 : gEe1 63 = .inr (9, [.ref (ad 64), .ref (ad 65), .ref (ad 66), .ref (ad 67), .int (nI lg.length), .ref (ad 68), .ref (ad 69), .ref (ad 70), .ref (ad 71), .ref (ad 72), .int te, .ref (ad 73), .ref (ad 74), .ref (ad 75), .ref (ad 76), .ref (ad 77), .ref (ad 78), .ref (ad 79), .ref (ad 80), .int (tI (tkq M (gl (lg.take (j + 1))) 0 j)), .ref (ad 81), .ref (ad 82)]) := hREe1.2.1
        refine w_get X hW K9 (by omega) m3 19 (by decide) fl_X9_90 rfl dX9_shrinks_27 ?_
        refine lv_istore_n (lv' := [(3, .int (tI (tkq M (gl (lg.take (j + 1))) 0 j))), (2, .int (rsq M (gl (lg.take (j + 1))) 0 j)), (0, .ref (ad 63)), (1, .int (nI j))]) jx jb dX9_shrinks_30 rfl hl (by decide) rfl (fun ls hl => ?_)
        refine lv_iconst (v := 1) jx jb dX9_shrinks_31 (by decide) ?_
        refine lv_istore (lv' := [(4, .int 1), (3, .int (tI (tkq M (gl (lg.take (j + 1))) 0 j))), (2, .int (rsq M (gl (lg.take (j + 1))) 0 j)), (0, .ref (ad 63)), (1, .int (nI j))]) jx jb dX9_shrinks_32 hl (by decide) rfl (fun ls hl => ?_)
        have loop34 : ∀ (fuel34 : Nat) (mt : Bool) (o : Nat → Bool) (tv : Int32) (qL34 : Nat → Nat → Int32) (gL34 : Nat → va_E) (H : Heap) (locs : List Loc) (ls : Array Slot), (MRaw cy N ad gL34 qL34 (nI lg.length) te tv) → (∀ k, ¬ (63 ≤ k ∧ k < 83) → gL34 k = g k) → (∀ i, i ≤ j → qL34 81 i = bI (o i = true)) → (∀ a, a ≠ 80 → a ≠ 81 → qL34 a = q a) → (o j = false) → (1 ≤ (filL o lg (j + 1)).length) → ((if mt = true then shrL M (tI (tkq M (gl (lg.take (j + 1))) 0 j)) (rsq M (gl (lg.take (j + 1))) 0 j) (filL o lg (j + 1)).length (filL o lg (j + 1)) else filL o lg (j + 1)) = shrL M (tI (tkq M (gl (lg.take (j + 1))) 0 j)) (rsq M (gl (lg.take (j + 1))) 0 j) (j + 1) (lg.take (j + 1))) → (if mt = true then (filL o lg (j + 1)).length + 1 else 0) < fuel34 → Wd G A js.heap (N, ad, gL34) H locs → lv_has ls 6 [(0, .ref (ad 63)), (1, .int (nI j)), (2, .int (rsq M (gl (lg.take (j + 1))) 0 j)), (3, .int (tI (tkq M (gl (lg.take (j + 1))) 0 j))), (4, .int (bI (mt = true)))] → W jp l je (rmN 3) js jm [.ref (ad 63), .int (nI j)].toArray below meth jc H locs 0 0 Q (F0 jm 34 ls []) := by
          intro fuel34
          induction fuel34 with
          | zero => intro mt o tv qL34 gL34 H locs ls hR34 hfr34 hfl hsm hoj h1R hsh  hm34; exact absurd hm34 (Nat.not_lt_zero _)
          | succ fuel34 ih34 =>
            intro mt o tv qL34 gL34 H locs ls hR34 hfr34 hfl hsm hoj h1R hsh  hm34 hW hl
            refine lv_iload jx jb dX9_shrinks_34 (lv_at hl 4 rfl) ?_
            refine lv_if_eq (tgt := 132) jx jb dX9_shrinks_36 (by decide) (fun c36 => ?_) (fun c36 => ?_)
            · exact ret _ _ _ _ _ dX9_shrinks_132 hW (by rw [if_neg (bI_0.mp c36)] at hsh; exact ⟨o, qL34, _, hR34, hfl, hoj, (by rw [hsh, mkRow, shrL_stable (f := 201) (by rw [hr0]; omega), hr0]), hsm, (fun k hk => by show gL34 k = _; rw [hfr34 k hk])⟩)
            · have hmt := bI_n0.mp c36
              obtain ⟨R0, eR0⟩ : ∃ zz, zz = filL o lg (j + 1) := ⟨_, rfl⟩
              rw [← eR0] at h1R hsh hm34
              rw [if_pos hmt] at hsh hm34
              refine lv_iconst (v := 0) jx jb dX9_shrinks_39 (by decide) ?_
              refine lv_istore (lv' := [(4, .int 0), (0, .ref (ad 63)), (1, .int (nI j)), (2, .int (rsq M (gl (lg.take (j + 1))) 0 j)), (3, .int (tI (tkq M (gl (lg.take (j + 1))) 0 j)))]) jx jb dX9_shrinks_40 hl (by decide) rfl (fun ls hl => ?_)
              refine lv_iconst (v := 0) jx jb dX9_shrinks_42 (by decide) ?_
              refine lv_istore (lv' := [(5, .int 0), (4, .int 0), (0, .ref (ad 63)), (1, .int (nI j)), (2, .int (rsq M (gl (lg.take (j + 1))) 0 j)), (3, .int (tI (tkq M (gl (lg.take (j + 1))) 0 j)))]) jx jb dX9_shrinks_43 hl (by decide) rfl (fun ls hl => ?_)
              have loop45 : ∀ (fuel45 : Nat) (k : Nat) (mo : Bool) (o : Nat → Bool) (tv : Int32) (qL45 : Nat → Nat → Int32) (gL45 : Nat → va_E) (H : Heap) (locs : List Loc) (ls : Array Slot), (MRaw cy N ad gL45 qL45 (nI lg.length) te tv) → (∀ k, ¬ (63 ≤ k ∧ k < 83) → gL45 k = g k) → (k ≤ j) → (∀ i, i ≤ j → qL45 81 i = bI (o i = true)) → (∀ a, a ≠ 80 → a ≠ 81 → qL45 a = q a) → (o j = false) → (filL o lg k ++ pasL M (tI (tkq M (gl (lg.take (j + 1))) 0 j)) (rsq M (gl (lg.take (j + 1))) 0 j) (stq M (gl (filL o lg k)) 0 (filL o lg k).length) (restL o lg k (j + 1 - k)) = pasL M (tI (tkq M (gl (lg.take (j + 1))) 0 j)) (rsq M (gl (lg.take (j + 1))) 0 j) 0 R0) → (mo = true ↔ (filL o lg (j + 1)).length < R0.length) → ((filL o lg (j + 1)).length ≤ R0.length) → j - k < fuel45 → Wd G A js.heap (N, ad, gL45) H locs → lv_has ls 6 [(0, .ref (ad 63)), (1, .int (nI j)), (2, .int (rsq M (gl (lg.take (j + 1))) 0 j)), (3, .int (tI (tkq M (gl (lg.take (j + 1))) 0 j))), (4, .int (bI (mo = true))), (5, .int (nI k))] → W jp l je (rmN 3) js jm [.ref (ad 63), .int (nI j)].toArray below meth jc H locs 0 0 Q (F0 jm 45 ls []) := by
                intro fuel45
                induction fuel45 with
                | zero => intro k mo o tv qL45 gL45 H locs ls hR45 hfr45 hk hfl hsm hoj hpas hmo hle  hm45; exact absurd hm45 (Nat.not_lt_zero _)
                | succ fuel45 ih45 =>
                  intro k mo o tv qL45 gL45 H locs ls hR45 hfr45 hk hfl hsm hoj hpas hmo hle  hm45 hW hl
                  refine lv_iload jx jb dX9_shrinks_45 (lv_at hl 5 rfl) ?_
                  refine lv_iload_n jx jb dX9_shrinks_47 rfl (lv_at hl 1 rfl) ?_
                  refine lv_icmp_ge (tgt := 129) jx jb dX9_shrinks_48 (by decide) (fun c48 => ?_) (fun c48 => ?_)
                  · have hke : j = k := by have := n_le (by omega) (by omega) c48; omega
                    subst hke
                    have hfj : filL o lg (j + 1) = filL o lg j ++ [gl lg j] := if_neg (by rw [hoj]; decide)
                    have hrj : restL o lg j (j + 1 - j) = [gl lg j] := by rw [show j + 1 - j = 0 + 1 by omega]; show (if o j = true then _ else _) = _; rw [if_neg (by rw [hoj]; decide)]; rfl
                    have hend : filL o lg (j + 1) = pasL M (tI (tkq M (gl (lg.take (j + 1))) 0 j)) (rsq M (gl (lg.take (j + 1))) 0 j) 0 R0 := by rw [hfj, ← hpas, hrj]; rfl
                    have h1e : 1 ≤ (filL o lg (j + 1)).length := by rw [hend]; exact pasL_pos h1R
                    have hsh2 : (if mo = true then shrL M (tI (tkq M (gl (lg.take (j + 1))) 0 j)) (rsq M (gl (lg.take (j + 1))) 0 j) (filL o lg (j + 1)).length (filL o lg (j + 1)) else filL o lg (j + 1)) = shrL M (tI (tkq M (gl (lg.take (j + 1))) 0 j)) (rsq M (gl (lg.take (j + 1))) 0 j) (j + 1) (lg.take (j + 1)) := by
                      rw [← hsh, shrL_pass h1R, ← hend]
                      by_cases z : mo = true
                      · rw [if_pos z, if_pos (hmo.mp z)]
                      · rw [if_neg z, if_neg (fun y => z (hmo.mpr y))]
                    refine lv_goto (tgt := 34) jx jb dX9_shrinks_129 (by decide) ?_
                    exact ih34 mo o _ qL45 gL45 _ _ _ hR45 (fun k hk => by show gL45 k = _; rw [hfr45 k hk]) hfl hsm hoj h1e hsh2  (by by_cases z : mo = true; (have := hmo.mp z; rw [if_pos z]; omega); (rw [if_neg z]; omega)) hW (lv_sub hl [0, 1, 2, 3, 4] rfl)
                  · have hkj : k < j := n_nle (by omega) (by omega) c48
                    refine lv_aload_n jx jb dX9_shrinks_51 rfl (lv_at hl 0 rfl) ?_
                    have m4 : gL45 63 = .inr (9, [.ref (ad 64), .ref (ad 65), .ref (ad 66), .ref (ad 67), .int (nI lg.length), .ref (ad 68), .ref (ad 69), .ref (ad 70), .ref (ad 71), .ref (ad 72), .int te, .ref (ad 73), .ref (ad 74), .ref (ad 75), .ref (ad 76), .ref (ad 77), .ref (ad 78), .ref (ad 79), .ref (ad 80), .int tv, .ref (ad 81), .ref (ad 82)]) := hR45.2.1
                    refine w_get X hW K9 (by omega) m4 20 (by decide) fl_X9_62 rfl dX9_shrinks_52 ?_
                    refine lv_iload jx jb dX9_shrinks_55 (lv_at hl 5 rfl) ?_
                    have m5 : gL45 81 = .inl (cy 1, 200, .inl (qL45 81)) := hR45.2.2 81 (by decide) (by decide)
                    refine w_zld X hW (by omega) m5 k rfl (by omega) (by decide) dX9_shrinks_57 ?_
                    refine top_eq (y := bI (o k = true)) (hfl k (by omega)) ?_
                    refine lv_if_eq (tgt := 64) jx jb dX9_shrinks_58 (by decide) (fun c58 => ?_) (fun c58 => ?_)
                    · have hof : o k = false := by have := bI_0.mp c58; cases h : o k with | false => rfl | true => exact absurd h this
                      refine lv_aload_n jx jb dX9_shrinks_64 rfl (lv_at hl 0 rfl) ?_
                      refine w_get X hW K9 (by omega) m4 20 (by decide) fl_X9_62 rfl dX9_shrinks_65 ?_
                      refine lv_iload jx jb dX9_shrinks_68 (lv_at hl 5 rfl) ?_
                      refine lv_iconst (v := 1) jx jb dX9_shrinks_70 (by decide) ?_
                      refine w_zst X hW (by omega) m5 k rfl (by omega) (by decide) (by first | exact Or.inl rfl | exact Or.inr rfl | exact bI_01) dX9_shrinks_71 (fun H locs hW => ?_)
                      obtain ⟨g_6, eg_6⟩ : ∃ zz, zz = va_up gL45 81 (.inl (cy 1, 200, .inl (upd (qL45 81) k 1))) := ⟨_, rfl⟩
                      have hW : Wd G A js.heap (N, ad, g_6) H locs := by rw [eg_6]; exact hW
                      obtain ⟨q_8, eq_8⟩ : ∃ zz, zz = va_up qL45 81 (upd (qL45 81) k 1) := ⟨_, rfl⟩
                      have hR7 : MRaw cy N ad g_6 q_8 (nI lg.length) te tv := by rw [eq_8]; exact hR45.put (by decide) (by decide) (fun k hk => by rw [eg_6, va_up_n hk]) (by rw [eg_6]; exact va_up_s)
                      refine lv_aload_n jx jb dX9_shrinks_72 rfl (lv_at hl 0 rfl) ?_
                      have m9 : g_6 63 = .inr (9, [.ref (ad 64), .ref (ad 65), .ref (ad 66), .ref (ad 67), .int (nI lg.length), .ref (ad 68), .ref (ad 69), .ref (ad 70), .ref (ad 71), .ref (ad 72), .int te, .ref (ad 73), .ref (ad 74), .ref (ad 75), .ref (ad 76), .ref (ad 77), .ref (ad 78), .ref (ad 79), .ref (ad 80), .int tv, .ref (ad 81), .ref (ad 82)]) := hR7.2.1
                      refine w_get X hW K9 (by omega) m9 20 (by decide) fl_X9_62 rfl dX9_shrinks_73 ?_
                      refine lv_iload jx jb dX9_shrinks_76 (lv_at hl 5 rfl) ?_
                      refine lv_aload_n jx jb dX9_shrinks_78 rfl (lv_at hl 0 rfl) ?_
                      refine lv_iload_n jx jb dX9_shrinks_79 rfl (lv_at hl 1 rfl) ?_
                      have hfl1 : ∀ i, i ≤ j → q_8 81 i = bI (va_up o k true i = true) := fun i hi => by rw [eq_8, va_up_s]; by_cases z : i = k; (rw [z, pk_us, va_up_s]; rfl); (rw [pk_un z, va_up_n z]; exact hfl i hi)
                      refine w_nV (As := [.int (nI j)]) X hW (c_ends (o := (va_up o k true)) hR7 hok (hQ.of (fun a h1 h2 => by rw [eq_8, va_up_n (by omega)]; exact hsm a (by omega) (by omega))) (hL.of (fun a h1 h2 => by rw [eq_8, va_up_n (by omega)]; exact hsm a (by omega) (by omega))) hj hfl1 (by rw [va_up_n (by omega)]; exact hoj)) (by omega) m9 rfl rfl ml_X9_106 mf_X9_ends ⟨Nat.le_of_ble_eq_true rfl, Nat.le_of_ble_eq_true rfl⟩ hl.1 rfl (Nat.le_of_ble_eq_true rfl) ⟨Nat.le_of_ble_eq_true rfl, Nat.le_of_ble_eq_true rfl⟩ dX9_shrinks_80 (fun re10 gEe10 H locs hp hW => ?_)
                      obtain ⟨ere10, qEe10, hREe10, hsEe10, frEe10⟩ := hp
                      have hf1 : filL (va_up o k true) lg (k + 1) = filL o lg k := by
                        show (if va_up o k true k = true then filL (va_up o k true) lg k else _) = _
                        rw [if_pos va_up_s]
                        exact filL_congr (fun i hi => va_up_n (by omega))
                      have hr1 : restL (va_up o k true) lg (k + 1) (j + 1 - (k + 1)) = restL o lg (k + 1) (j + 1 - (k + 1)) := restL_congr (fun i h1 h2 => va_up_n (by omega))
                      have hrne : restL o lg (k + 1) (j + 1 - (k + 1)) ≠ [] := restL_ne hoj (by omega) (by omega)
                      have hL1 : filL (va_up o k true) lg (j + 1) = filL o lg k ++ restL o lg (k + 1) (j + 1 - (k + 1)) := by
                        conv => lhs; rw [show j + 1 = (k + 1) + (j + 1 - (k + 1)) by omega, filL_app, hf1, hr1]
                      have hrk : restL o lg k (j + 1 - k) = gl lg k :: restL o lg (k + 1) (j + 1 - (k + 1)) := by
                        rw [show j + 1 - k = (j + 1 - (k + 1)) + 1 by omega]
                        exact if_neg (by rw [hof]; decide)
                      have hL0 : filL o lg (j + 1) = filL o lg k ++ gl lg k :: restL o lg (k + 1) (j + 1 - (k + 1)) := by
                        conv => lhs; rw [show j + 1 = k + (j + 1 - k) by omega, filL_app, hrk]
                      have halk := alk_app (M := M) (wT := tI (tkq M (gl (lg.take (j + 1))) 0 j)) (wR := rsq M (gl (lg.take (j + 1))) 0 j) (a := filL o lg k) hrne
                      rw [← hL1] at halk
                      refine lv_iload_n jx jb dX9_shrinks_83 rfl (lv_at hl 2 rfl) ?_
                      refine lv_icmp_ne (tgt := 99) jx jb dX9_shrinks_84 (by decide) (fun c84 => ?_) (fun c84 => ?_)
                      · refine lv_iconst (v := 0) jx jb dX9_shrinks_99 (by decide) ?_
                        have hal : ¬ alk M (tI (tkq M (gl (lg.take (j + 1))) 0 j)) (rsq M (gl (lg.take (j + 1))) 0 j) (stq M (gl (filL o lg k)) 0 (filL o lg k).length) (restL o lg (k + 1) (j + 1 - (k + 1))) = true := fun z => c84 (ere10.trans (halk.mpr z).2)
                        have m11 : gEe10 81 = .inl (cy 1, 200, .inl (qEe10 81)) := hREe10.2.2 81 (by decide) (by decide)
                        refine w_zst X hW (by omega) m11 k rfl (by omega) (by decide) (by first | exact Or.inl rfl | exact Or.inr rfl | exact bI_01) dX9_shrinks_100 (fun H locs hW => ?_)
                        obtain ⟨g_12, eg_12⟩ : ∃ zz, zz = va_up gEe10 81 (.inl (cy 1, 200, .inl (upd (qEe10 81) k 0))) := ⟨_, rfl⟩
                        have hW : Wd G A js.heap (N, ad, g_12) H locs := by rw [eg_12]; exact hW
                        obtain ⟨q_14, eq_14⟩ : ∃ zz, zz = va_up qEe10 81 (upd (qEe10 81) k 0) := ⟨_, rfl⟩
                        have hR13 : MRaw cy N ad g_12 q_14 (nI lg.length) te (tI (tkq M (gl (filL (va_up o k true) lg (j + 1))) 0 ((filL (va_up o k true) lg (j + 1)).length - 1))) := by rw [eq_14]; exact hREe10.put (by decide) (by decide) (fun k hk => by rw [eg_12, va_up_n hk]) (by rw [eg_12]; exact va_up_s)
                        refine lv_iload jx jb dX9_shrinks_101 (lv_at hl 4 rfl) ?_
                        refine lv_if_ne (tgt := 116) jx jb dX9_shrinks_103 (by decide) (fun c103 => ?_) (fun c103 => ?_)
                        · have hmot := bI_n0.mp c103
                          refine lv_iconst (v := 1) jx jb dX9_shrinks_116 (by decide) ?_
                          refine lv_goto (tgt := 121) jx jb dX9_shrinks_117 (by decide) ?_
                          refine top_eq (y := bI (mo = true)) ((bI_t hmot).symm) ?_
                          refine lv_istore (lv' := [(4, .int (bI (mo = true))), (0, .ref (ad 63)), (1, .int (nI j)), (2, .int (rsq M (gl (lg.take (j + 1))) 0 j)), (3, .int (tI (tkq M (gl (lg.take (j + 1))) 0 j))), (5, .int (nI k))]) jx jb dX9_shrinks_121 hl (by decide) rfl (fun ls hl => ?_)
                          refine lv_iinc (v := nI (k + 1)) (lv' := [(5, .int (nI (k + 1))), (4, .int (bI (mo = true))), (0, .ref (ad 63)), (1, .int (nI j)), (2, .int (rsq M (gl (lg.take (j + 1))) 0 j)), (3, .int (tI (tkq M (gl (lg.take (j + 1))) 0 j)))]) jx jb dX9_shrinks_123 hl (k := 5) rfl (show nI k + 1 = nI (k + 1) from nI_1 _) (by decide) rfl (fun ls hl => ?_)
                          refine lv_goto (tgt := 45) jx jb dX9_shrinks_126 (by decide) ?_
                          exact ih45 (k + 1) mo o _ q_14 g_12 _ _ _ hR13 (fun k hk => by show g_12 k = _; rw [eg_12, va_up_n (by omega), frEe10 k hk, eg_6, va_up_n (by omega), hfr45 k hk]) (by omega) (fun i hi => by rw [eq_14, va_up_s]; by_cases z : i = k; (rw [z, pk_us, hof]; rfl); (rw [pk_un z, hsEe10 81 (by decide), eq_8, va_up_s, pk_un z]; exact hfl i hi)) (fun a h1 h2 => by rw [eq_14, va_up_n h2, hsEe10 a h1, eq_8, va_up_n h2]; exact hsm a h1 h2) hoj (by rw [show filL o lg (k + 1) = filL o lg k ++ [gl lg k] from if_neg (by rw [hof]; decide), stq_snoc, ← hpas, hrk]; rw [pasL_cons, if_neg hrne, if_neg hal, List.append_assoc]; rfl) hmo hle  (by omega) hW (lv_sub hl [2, 3, 4, 5, 1, 0] rfl)
                        · have hmof := bI_0.mp c103
                          refine lv_aload_n jx jb dX9_shrinks_106 rfl (lv_at hl 0 rfl) ?_
                          have m15 : g_12 63 = .inr (9, [.ref (ad 64), .ref (ad 65), .ref (ad 66), .ref (ad 67), .int (nI lg.length), .ref (ad 68), .ref (ad 69), .ref (ad 70), .ref (ad 71), .ref (ad 72), .int te, .ref (ad 73), .ref (ad 74), .ref (ad 75), .ref (ad 76), .ref (ad 77), .ref (ad 78), .ref (ad 79), .ref (ad 80), .int (tI (tkq M (gl (filL (va_up o k true) lg (j + 1))) 0 ((filL (va_up o k true) lg (j + 1)).length - 1))), .ref (ad 81), .ref (ad 82)]) := hR13.2.1
                          refine w_get X hW K9 (by omega) m15 20 (by decide) fl_X9_62 rfl dX9_shrinks_107 ?_
                          refine lv_iload jx jb dX9_shrinks_110 (lv_at hl 5 rfl) ?_
                          have m16 : g_12 81 = .inl (cy 1, 200, .inl (q_14 81)) := hR13.2.2 81 (by decide) (by decide)
                          refine w_zld X hW (by omega) m16 k rfl (by omega) (by decide) dX9_shrinks_112 ?_
                          refine top_eq (y := 0) (by rw [eq_14, va_up_s, pk_us]) ?_
                          refine lv_if_eq (tgt := 120) jx jb dX9_shrinks_113 (by decide) (fun c113 => ?_) (fun c113 => ?_)
                          · refine lv_iconst (v := 0) jx jb dX9_shrinks_120 (by decide) ?_
                            refine top_eq (y := bI (mo = true)) ((bI_f hmof).symm) ?_
                            refine lv_istore (lv' := [(4, .int (bI (mo = true))), (0, .ref (ad 63)), (1, .int (nI j)), (2, .int (rsq M (gl (lg.take (j + 1))) 0 j)), (3, .int (tI (tkq M (gl (lg.take (j + 1))) 0 j))), (5, .int (nI k))]) jx jb dX9_shrinks_121 hl (by decide) rfl (fun ls hl => ?_)
                            refine lv_iinc (v := nI (k + 1)) (lv' := [(5, .int (nI (k + 1))), (4, .int (bI (mo = true))), (0, .ref (ad 63)), (1, .int (nI j)), (2, .int (rsq M (gl (lg.take (j + 1))) 0 j)), (3, .int (tI (tkq M (gl (lg.take (j + 1))) 0 j)))]) jx jb dX9_shrinks_123 hl (k := 5) rfl (show nI k + 1 = nI (k + 1) from nI_1 _) (by decide) rfl (fun ls hl => ?_)
                            refine lv_goto (tgt := 45) jx jb dX9_shrinks_126 (by decide) ?_
                            exact ih45 (k + 1) mo o _ q_14 g_12 _ _ _ hR13 (fun k hk => by show g_12 k = _; rw [eg_12, va_up_n (by omega), frEe10 k hk, eg_6, va_up_n (by omega), hfr45 k hk]) (by omega) (fun i hi => by rw [eq_14, va_up_s]; by_cases z : i = k; (rw [z, pk_us, hof]; rfl); (rw [pk_un z, hsEe10 81 (by decide), eq_8, va_up_s, pk_un z]; exact hfl i hi)) (fun a h1 h2 => by rw [eq_14, va_up_n h2, hsEe10 a h1, eq_8, va_up_n h2]; exact hsm a h1 h2) hoj (by rw [show filL o lg (k + 1) = filL o lg k ++ [gl lg k] from if_neg (by rw [hof]; decide), stq_snoc, ← hpas, hrk]; rw [pasL_cons, if_neg hrne, if_neg hal, List.append_assoc]; rfl) hmo hle  (by omega) hW (lv_sub hl [2, 3, 4, 5, 1, 0] rfl)
                          · exact absurd rfl c113
                      · refine lv_aload_n jx jb dX9_shrinks_87 rfl (lv_at hl 0 rfl) ?_
                        have m17 : gEe10 63 = .inr (9, [.ref (ad 64), .ref (ad 65), .ref (ad 66), .ref (ad 67), .int (nI lg.length), .ref (ad 68), .ref (ad 69), .ref (ad 70), .ref (ad 71), .ref (ad 72), .int te, .ref (ad 73), .ref (ad 74), .ref (ad 75), .ref (ad 76), .ref (ad 77), .ref (ad 78), .ref (ad 79), .ref (ad 80), .int (tI (tkq M (gl (filL (va_up o k true) lg (j + 1))) 0 ((filL (va_up o k true) lg (j + 1)).length - 1))), .ref (ad 81), .ref (ad 82)]) := hREe10.2.1
                        refine w_get X hW K9 (by omega) m17 19 (by decide) fl_X9_90 rfl dX9_shrinks_88 ?_
                        refine lv_iload_n jx jb dX9_shrinks_91 rfl (lv_at hl 3 rfl) ?_
                        refine lv_icmp_ne (tgt := 99) jx jb dX9_shrinks_92 (by decide) (fun c92 => ?_) (fun c92 => ?_)
                        · refine lv_iconst (v := 0) jx jb dX9_shrinks_99 (by decide) ?_
                          have hal : ¬ alk M (tI (tkq M (gl (lg.take (j + 1))) 0 j)) (rsq M (gl (lg.take (j + 1))) 0 j) (stq M (gl (filL o lg k)) 0 (filL o lg k).length) (restL o lg (k + 1) (j + 1 - (k + 1))) = true := fun z => c92 (halk.mpr z).1
                          have m18 : gEe10 81 = .inl (cy 1, 200, .inl (qEe10 81)) := hREe10.2.2 81 (by decide) (by decide)
                          refine w_zst X hW (by omega) m18 k rfl (by omega) (by decide) (by first | exact Or.inl rfl | exact Or.inr rfl | exact bI_01) dX9_shrinks_100 (fun H locs hW => ?_)
                          obtain ⟨g_19, eg_19⟩ : ∃ zz, zz = va_up gEe10 81 (.inl (cy 1, 200, .inl (upd (qEe10 81) k 0))) := ⟨_, rfl⟩
                          have hW : Wd G A js.heap (N, ad, g_19) H locs := by rw [eg_19]; exact hW
                          obtain ⟨q_21, eq_21⟩ : ∃ zz, zz = va_up qEe10 81 (upd (qEe10 81) k 0) := ⟨_, rfl⟩
                          have hR20 : MRaw cy N ad g_19 q_21 (nI lg.length) te (tI (tkq M (gl (filL (va_up o k true) lg (j + 1))) 0 ((filL (va_up o k true) lg (j + 1)).length - 1))) := by rw [eq_21]; exact hREe10.put (by decide) (by decide) (fun k hk => by rw [eg_19, va_up_n hk]) (by rw [eg_19]; exact va_up_s)
                          refine lv_iload jx jb dX9_shrinks_101 (lv_at hl 4 rfl) ?_
                          refine lv_if_ne (tgt := 116) jx jb dX9_shrinks_103 (by decide) (fun c103 => ?_) (fun c103 => ?_)
                          · have hmot := bI_n0.mp c103
                            refine lv_iconst (v := 1) jx jb dX9_shrinks_116 (by decide) ?_
                            refine lv_goto (tgt := 121) jx jb dX9_shrinks_117 (by decide) ?_
                            refine top_eq (y := bI (mo = true)) ((bI_t hmot).symm) ?_
                            refine lv_istore (lv' := [(4, .int (bI (mo = true))), (0, .ref (ad 63)), (1, .int (nI j)), (2, .int (rsq M (gl (lg.take (j + 1))) 0 j)), (3, .int (tI (tkq M (gl (lg.take (j + 1))) 0 j))), (5, .int (nI k))]) jx jb dX9_shrinks_121 hl (by decide) rfl (fun ls hl => ?_)
                            refine lv_iinc (v := nI (k + 1)) (lv' := [(5, .int (nI (k + 1))), (4, .int (bI (mo = true))), (0, .ref (ad 63)), (1, .int (nI j)), (2, .int (rsq M (gl (lg.take (j + 1))) 0 j)), (3, .int (tI (tkq M (gl (lg.take (j + 1))) 0 j)))]) jx jb dX9_shrinks_123 hl (k := 5) rfl (show nI k + 1 = nI (k + 1) from nI_1 _) (by decide) rfl (fun ls hl => ?_)
                            refine lv_goto (tgt := 45) jx jb dX9_shrinks_126 (by decide) ?_
                            exact ih45 (k + 1) mo o _ q_21 g_19 _ _ _ hR20 (fun k hk => by show g_19 k = _; rw [eg_19, va_up_n (by omega), frEe10 k hk, eg_6, va_up_n (by omega), hfr45 k hk]) (by omega) (fun i hi => by rw [eq_21, va_up_s]; by_cases z : i = k; (rw [z, pk_us, hof]; rfl); (rw [pk_un z, hsEe10 81 (by decide), eq_8, va_up_s, pk_un z]; exact hfl i hi)) (fun a h1 h2 => by rw [eq_21, va_up_n h2, hsEe10 a h1, eq_8, va_up_n h2]; exact hsm a h1 h2) hoj (by rw [show filL o lg (k + 1) = filL o lg k ++ [gl lg k] from if_neg (by rw [hof]; decide), stq_snoc, ← hpas, hrk]; rw [pasL_cons, if_neg hrne, if_neg hal, List.append_assoc]; rfl) hmo hle  (by omega) hW (lv_sub hl [2, 3, 4, 5, 1, 0] rfl)
                          · have hmof := bI_0.mp c103
                            refine lv_aload_n jx jb dX9_shrinks_106 rfl (lv_at hl 0 rfl) ?_
                            have m22 : g_19 63 = .inr (9, [.ref (ad 64), .ref (ad 65), .ref (ad 66), .ref (ad 67), .int (nI lg.length), .ref (ad 68), .ref (ad 69), .ref (ad 70), .ref (ad 71), .ref (ad 72), .int te, .ref (ad 73), .ref (ad 74), .ref (ad 75), .ref (ad 76), .ref (ad 77), .ref (ad 78), .ref (ad 79), .ref (ad 80), .int (tI (tkq M (gl (filL (va_up o k true) lg (j + 1))) 0 ((filL (va_up o k true) lg (j + 1)).length - 1))), .ref (ad 81), .ref (ad 82)]) := hR20.2.1
                            refine w_get X hW K9 (by omega) m22 20 (by decide) fl_X9_62 rfl dX9_shrinks_107 ?_
                            refine lv_iload jx jb dX9_shrinks_110 (lv_at hl 5 rfl) ?_
                            have m23 : g_19 81 = .inl (cy 1, 200, .inl (q_21 81)) := hR20.2.2 81 (by decide) (by decide)
                            refine w_zld X hW (by omega) m23 k rfl (by omega) (by decide) dX9_shrinks_112 ?_
                            refine top_eq (y := 0) (by rw [eq_21, va_up_s, pk_us]) ?_
                            refine lv_if_eq (tgt := 120) jx jb dX9_shrinks_113 (by decide) (fun c113 => ?_) (fun c113 => ?_)
                            · refine lv_iconst (v := 0) jx jb dX9_shrinks_120 (by decide) ?_
                              refine top_eq (y := bI (mo = true)) ((bI_f hmof).symm) ?_
                              refine lv_istore (lv' := [(4, .int (bI (mo = true))), (0, .ref (ad 63)), (1, .int (nI j)), (2, .int (rsq M (gl (lg.take (j + 1))) 0 j)), (3, .int (tI (tkq M (gl (lg.take (j + 1))) 0 j))), (5, .int (nI k))]) jx jb dX9_shrinks_121 hl (by decide) rfl (fun ls hl => ?_)
                              refine lv_iinc (v := nI (k + 1)) (lv' := [(5, .int (nI (k + 1))), (4, .int (bI (mo = true))), (0, .ref (ad 63)), (1, .int (nI j)), (2, .int (rsq M (gl (lg.take (j + 1))) 0 j)), (3, .int (tI (tkq M (gl (lg.take (j + 1))) 0 j)))]) jx jb dX9_shrinks_123 hl (k := 5) rfl (show nI k + 1 = nI (k + 1) from nI_1 _) (by decide) rfl (fun ls hl => ?_)
                              refine lv_goto (tgt := 45) jx jb dX9_shrinks_126 (by decide) ?_
                              exact ih45 (k + 1) mo o _ q_21 g_19 _ _ _ hR20 (fun k hk => by show g_19 k = _; rw [eg_19, va_up_n (by omega), frEe10 k hk, eg_6, va_up_n (by omega), hfr45 k hk]) (by omega) (fun i hi => by rw [eq_21, va_up_s]; by_cases z : i = k; (rw [z, pk_us, hof]; rfl); (rw [pk_un z, hsEe10 81 (by decide), eq_8, va_up_s, pk_un z]; exact hfl i hi)) (fun a h1 h2 => by rw [eq_21, va_up_n h2, hsEe10 a h1, eq_8, va_up_n h2]; exact hsm a h1 h2) hoj (by rw [show filL o lg (k + 1) = filL o lg k ++ [gl lg k] from if_neg (by rw [hof]; decide), stq_snoc, ← hpas, hrk]; rw [pasL_cons, if_neg hrne, if_neg hal, List.append_assoc]; rfl) hmo hle  (by omega) hW (lv_sub hl [2, 3, 4, 5, 1, 0] rfl)
                            · exact absurd rfl c113
                        · refine lv_iconst (v := 1) jx jb dX9_shrinks_95 (by decide) ?_
                          refine lv_goto (tgt := 100) jx jb dX9_shrinks_96 (by decide) ?_
                          have hal := halk.mp ⟨c92, ere10.symm.trans c84⟩
                          have m24 : gEe10 81 = .inl (cy 1, 200, .inl (qEe10 81)) := hREe10.2.2 81 (by decide) (by decide)
                          refine w_zst X hW (by omega) m24 k rfl (by omega) (by decide) (by first | exact Or.inl rfl | exact Or.inr rfl | exact bI_01) dX9_shrinks_100 (fun H locs hW => ?_)
                          obtain ⟨g_25, eg_25⟩ : ∃ zz, zz = va_up gEe10 81 (.inl (cy 1, 200, .inl (upd (qEe10 81) k 1))) := ⟨_, rfl⟩
                          have hW : Wd G A js.heap (N, ad, g_25) H locs := by rw [eg_25]; exact hW
                          obtain ⟨q_27, eq_27⟩ : ∃ zz, zz = va_up qEe10 81 (upd (qEe10 81) k 1) := ⟨_, rfl⟩
                          have hR26 : MRaw cy N ad g_25 q_27 (nI lg.length) te (tI (tkq M (gl (filL (va_up o k true) lg (j + 1))) 0 ((filL (va_up o k true) lg (j + 1)).length - 1))) := by rw [eq_27]; exact hREe10.put (by decide) (by decide) (fun k hk => by rw [eg_25, va_up_n hk]) (by rw [eg_25]; exact va_up_s)
                          refine lv_iload jx jb dX9_shrinks_101 (lv_at hl 4 rfl) ?_
                          refine lv_if_ne (tgt := 116) jx jb dX9_shrinks_103 (by decide) (fun c103 => ?_) (fun c103 => ?_)
                          · have hmot := bI_n0.mp c103
                            refine lv_iconst (v := 1) jx jb dX9_shrinks_116 (by decide) ?_
                            refine lv_goto (tgt := 121) jx jb dX9_shrinks_117 (by decide) ?_
                            refine top_eq (y := bI (mo = true)) ((bI_t hmot).symm) ?_
                            refine lv_istore (lv' := [(4, .int (bI (mo = true))), (0, .ref (ad 63)), (1, .int (nI j)), (2, .int (rsq M (gl (lg.take (j + 1))) 0 j)), (3, .int (tI (tkq M (gl (lg.take (j + 1))) 0 j))), (5, .int (nI k))]) jx jb dX9_shrinks_121 hl (by decide) rfl (fun ls hl => ?_)
                            refine lv_iinc (v := nI (k + 1)) (lv' := [(5, .int (nI (k + 1))), (4, .int (bI (mo = true))), (0, .ref (ad 63)), (1, .int (nI j)), (2, .int (rsq M (gl (lg.take (j + 1))) 0 j)), (3, .int (tI (tkq M (gl (lg.take (j + 1))) 0 j)))]) jx jb dX9_shrinks_123 hl (k := 5) rfl (show nI k + 1 = nI (k + 1) from nI_1 _) (by decide) rfl (fun ls hl => ?_)
                            refine lv_goto (tgt := 45) jx jb dX9_shrinks_126 (by decide) ?_
                            exact ih45 (k + 1) mo (va_up o k true) _ q_27 g_25 _ _ _ hR26 (fun k hk => by show g_25 k = _; rw [eg_25, va_up_n (by omega), frEe10 k hk, eg_6, va_up_n (by omega), hfr45 k hk]) (by omega) (fun i hi => by rw [eq_27, va_up_s]; by_cases z : i = k; (rw [z, pk_us, va_up_s]; rfl); (rw [pk_un z, hsEe10 81 (by decide), eq_8, va_up_s, pk_un z, va_up_n z]; exact hfl i hi)) (fun a h1 h2 => by rw [eq_27, va_up_n h2, hsEe10 a h1, eq_8, va_up_n h2]; exact hsm a h1 h2) (by rw [va_up_n (by omega)]; exact hoj) (by rw [hf1, hr1, ← hpas, hrk]; rw [pasL_cons, if_neg hrne, if_pos hal]) (by rw [hL1]; exact ⟨fun _ => by have h5 := congrArg List.length hL0; simp at h5 ⊢; omega, fun _ => by first | rfl | exact hmot⟩) (by rw [hL1]; have h5 := congrArg List.length hL0; simp at h5 ⊢; omega)  (by omega) hW (lv_sub hl [2, 3, 4, 5, 1, 0] rfl)
                          · have hmof := bI_0.mp c103
                            refine lv_aload_n jx jb dX9_shrinks_106 rfl (lv_at hl 0 rfl) ?_
                            have m28 : g_25 63 = .inr (9, [.ref (ad 64), .ref (ad 65), .ref (ad 66), .ref (ad 67), .int (nI lg.length), .ref (ad 68), .ref (ad 69), .ref (ad 70), .ref (ad 71), .ref (ad 72), .int te, .ref (ad 73), .ref (ad 74), .ref (ad 75), .ref (ad 76), .ref (ad 77), .ref (ad 78), .ref (ad 79), .ref (ad 80), .int (tI (tkq M (gl (filL (va_up o k true) lg (j + 1))) 0 ((filL (va_up o k true) lg (j + 1)).length - 1))), .ref (ad 81), .ref (ad 82)]) := hR26.2.1
                            refine w_get X hW K9 (by omega) m28 20 (by decide) fl_X9_62 rfl dX9_shrinks_107 ?_
                            refine lv_iload jx jb dX9_shrinks_110 (lv_at hl 5 rfl) ?_
                            have m29 : g_25 81 = .inl (cy 1, 200, .inl (q_27 81)) := hR26.2.2 81 (by decide) (by decide)
                            refine w_zld X hW (by omega) m29 k rfl (by omega) (by decide) dX9_shrinks_112 ?_
                            refine top_eq (y := 1) (by rw [eq_27, va_up_s, pk_us]) ?_
                            refine lv_if_eq (tgt := 120) jx jb dX9_shrinks_113 (by decide) (fun c113 => ?_) (fun c113 => ?_)
                            · exact absurd c113 (by decide)
                            · refine lv_iconst (v := 1) jx jb dX9_shrinks_116 (by decide) ?_
                              refine lv_goto (tgt := 121) jx jb dX9_shrinks_117 (by decide) ?_
                              refine top_eq (y := bI (true = true)) (rfl) ?_
                              refine lv_istore (lv' := [(4, .int (bI (true = true))), (0, .ref (ad 63)), (1, .int (nI j)), (2, .int (rsq M (gl (lg.take (j + 1))) 0 j)), (3, .int (tI (tkq M (gl (lg.take (j + 1))) 0 j))), (5, .int (nI k))]) jx jb dX9_shrinks_121 hl (by decide) rfl (fun ls hl => ?_)
                              refine lv_iinc (v := nI (k + 1)) (lv' := [(5, .int (nI (k + 1))), (4, .int (bI (true = true))), (0, .ref (ad 63)), (1, .int (nI j)), (2, .int (rsq M (gl (lg.take (j + 1))) 0 j)), (3, .int (tI (tkq M (gl (lg.take (j + 1))) 0 j)))]) jx jb dX9_shrinks_123 hl (k := 5) rfl (show nI k + 1 = nI (k + 1) from nI_1 _) (by decide) rfl (fun ls hl => ?_)
                              refine lv_goto (tgt := 45) jx jb dX9_shrinks_126 (by decide) ?_
                              exact ih45 (k + 1) true (va_up o k true) _ q_27 g_25 _ _ _ hR26 (fun k hk => by show g_25 k = _; rw [eg_25, va_up_n (by omega), frEe10 k hk, eg_6, va_up_n (by omega), hfr45 k hk]) (by omega) (fun i hi => by rw [eq_27, va_up_s]; by_cases z : i = k; (rw [z, pk_us, va_up_s]; rfl); (rw [pk_un z, hsEe10 81 (by decide), eq_8, va_up_s, pk_un z, va_up_n z]; exact hfl i hi)) (fun a h1 h2 => by rw [eq_27, va_up_n h2, hsEe10 a h1, eq_8, va_up_n h2]; exact hsm a h1 h2) (by rw [va_up_n (by omega)]; exact hoj) (by rw [hf1, hr1, ← hpas, hrk]; rw [pasL_cons, if_neg hrne, if_pos hal]) (by rw [hL1]; exact ⟨fun _ => by have h5 := congrArg List.length hL0; simp at h5 ⊢; omega, fun _ => by first | rfl | exact hmot⟩) (by rw [hL1]; have h5 := congrArg List.length hL0; simp at h5 ⊢; omega)  (by omega) hW (lv_sub hl [2, 3, 4, 5, 1, 0] rfl)
                    · refine lv_goto (tgt := 123) jx jb dX9_shrinks_61 (by decide) ?_
                      refine lv_iinc (v := nI (k + 1)) (lv' := [(5, .int (nI (k + 1))), (0, .ref (ad 63)), (1, .int (nI j)), (2, .int (rsq M (gl (lg.take (j + 1))) 0 j)), (3, .int (tI (tkq M (gl (lg.take (j + 1))) 0 j))), (4, .int (bI (mo = true)))]) jx jb dX9_shrinks_123 hl (k := 5) rfl (show nI k + 1 = nI (k + 1) from nI_1 _) (by decide) rfl (fun ls hl => ?_)
                      refine lv_goto (tgt := 45) jx jb dX9_shrinks_126 (by decide) ?_
                      have hot := bI_n0.mp c58
                      have hfk : filL o lg (k + 1) = filL o lg k := if_pos hot
                      have hrk : restL o lg k (j + 1 - k) = restL o lg (k + 1) (j + 1 - (k + 1)) := by rw [show j + 1 - k = (j + 1 - (k + 1)) + 1 by omega]; exact if_pos hot
                      exact ih45 (k + 1) mo o _ qL45 gL45 _ _ _ hR45 (fun k hk => by show gL45 k = _; rw [hfr45 k hk]) (by omega) hfl hsm hoj (by rw [hfk, ← hrk]; exact hpas) hmo hle  (by omega) hW (lv_sub hl [1, 2, 3, 4, 5, 0] rfl)
              exact loop45 _ 0 false o _ qL34 gL34 _ _ _ hR34 (fun k hk => by show gL34 k = _; rw [hfr34 k hk]) (by omega) hfl hsm hoj (by rw [eR0, show filL o lg (j + 1) = restL o lg 0 (j + 1) from by rw [show j + 1 = 0 + (j + 1) by omega, filL_app (k := 0)]; simp [filL]]; rfl) (by rw [eR0]; simp) (by rw [eR0]; exact Nat.le_refl _)  (Nat.lt_succ_self _) hW (lv_sub hl [2, 3, 4, 5, 1, 0] rfl)
        exact loop34 _ true (fun _ => false) _ qEe1 gEe1 _ _ _ hREe1 (fun k hk => by show gEe1 k = _; rw [frEe1 k hk, hfr2 k hk]) (fun i hi => by rw [hsEe1 81 (by decide)]; exact hfl0 i hi) (fun a h1 h2 => (hsEe1 a h1).trans (hsm a h2)) rfl (by rw [hrow0, hr0]; omega) (by rw [if_pos rfl, hrow0, hr0])  (Nat.lt_succ_self _) hW (lv_sub hl [3, 4, 2, 1, 0] rfl)
      · have hlt : k ≤ j := n_nlt (by omega) (by omega) c4
        refine lv_aload_n jx jb dX9_shrinks_7 rfl (lv_at hl 0 rfl) ?_
        have m30 : gL2 63 = .inr (9, [.ref (ad 64), .ref (ad 65), .ref (ad 66), .ref (ad 67), .int (nI lg.length), .ref (ad 68), .ref (ad 69), .ref (ad 70), .ref (ad 71), .ref (ad 72), .int te, .ref (ad 73), .ref (ad 74), .ref (ad 75), .ref (ad 76), .ref (ad 77), .ref (ad 78), .ref (ad 79), .ref (ad 80), .int to, .ref (ad 81), .ref (ad 82)]) := hR2.2.1
        refine w_get X hW K9 (by omega) m30 20 (by decide) fl_X9_62 rfl dX9_shrinks_8 ?_
        refine lv_iload_n jx jb dX9_shrinks_11 rfl (lv_at hl 2 rfl) ?_
        refine lv_iconst (v := 0) jx jb dX9_shrinks_12 (by decide) ?_
        have m31 : gL2 81 = .inl (cy 1, 200, .inl (qL2 81)) := hR2.2.2 81 (by decide) (by decide)
        refine w_zst X hW (by omega) m31 k rfl (by omega) (by decide) (by first | exact Or.inl rfl | exact Or.inr rfl | exact bI_01) dX9_shrinks_13 (fun H locs hW => ?_)
        obtain ⟨g_32, eg_32⟩ : ∃ zz, zz = va_up gL2 81 (.inl (cy 1, 200, .inl (upd (qL2 81) k 0))) := ⟨_, rfl⟩
        have hW : Wd G A js.heap (N, ad, g_32) H locs := by rw [eg_32]; exact hW
        obtain ⟨q_34, eq_34⟩ : ∃ zz, zz = va_up qL2 81 (upd (qL2 81) k 0) := ⟨_, rfl⟩
        have hR33 : MRaw cy N ad g_32 q_34 (nI lg.length) te to := by rw [eq_34]; exact hR2.put (by decide) (by decide) (fun k hk => by rw [eg_32, va_up_n hk]) (by rw [eg_32]; exact va_up_s)
        refine lv_iinc (v := nI (k + 1)) (lv' := [(2, .int (nI (k + 1))), (0, .ref (ad 63)), (1, .int (nI j))]) jx jb dX9_shrinks_14 hl (k := 2) rfl (show nI k + 1 = nI (k + 1) from nI_1 _) (by decide) rfl (fun ls hl => ?_)
        refine lv_goto (tgt := 2) jx jb dX9_shrinks_17 (by decide) ?_
        exact ih2 (k + 1) q_34 g_32 _ _ _ hR33 (fun k hk => by show g_32 k = _; rw [eg_32, va_up_n (by omega), hfr2 k hk]) (by omega) (fun m hm => by rw [eq_34, va_up_s]; by_cases z : m = k; (rw [z, pk_us]); (rw [pk_un z]; exact h0 m (by omega))) (fun a ha => by rw [eq_34, va_up_n ha]; exact hsm a ha)  (by omega) hW (lv_sub hl [1, 2, 0] rfl)
  exact loop2 _ 0 q g _ _ _ hR (fun k hk => by show g k = _; rfl) (by omega) (fun m hm => absurd hm (by omega)) (fun a ha => rfl)  (Nat.lt_succ_self _) hW (lv_sub hl [1, 2, 0] rfl)
