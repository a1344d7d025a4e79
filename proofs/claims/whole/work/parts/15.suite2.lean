def rmP (p : Nat → Nat) (j T : Nat) : Nat → Nat := fun i => if j ≤ i ∧ i < T - 1 then p (i + 1) else if i = T - 1 then p j else p i
theorem rmP_inj {p : Nat → Nat} {j T : Nat} (hT : T ≤ 12) (hj : j < T) (hinj : ∀ i j, i < 12 → j < 12 → p i = p j → i = j) : ∀ a b, a < 12 → b < 12 → rmP p j T a = rmP p j T b → a = b := by
  intro a b ha hb h
  unfold rmP at h
  repeat' split at h
  all_goals (have := hinj _ _ (by omega) (by omega) h; omega)
theorem rmP_lt {p : Nat → Nat} {j T : Nat} (hT : T ≤ 12) (hj : j < T) (h : ∀ i, i < 12 → p i < 12) : ∀ i, i < 12 → rmP p j T i < 12 := by
  intro i hi
  unfold rmP
  repeat' split
  all_goals exact h _ (by omega)
theorem SuAt.put11 {cy : Nat → ClassId} {N : Nat} {ad : Nat → Nat} {g g' : Nat → va_E} {T : Nat} {p : Nat → Nat} {x : Nat → TT} {f : Nat → Int32} (h : SuAt cy N ad g T p x) (h1 : ∀ k, k ≠ 11 → 9 ≤ k → k < 60 → g' k = g k) (ht : g' 11 = .inl (cy 0, 12, .inl f)) : SuAt cy N ad g' T p x := by
  obtain ⟨a, b, c, d, ⟨ft, fm, e1, e2, e3, e4⟩, z⟩ := h
  exact ⟨a, b, c, d, ⟨ft, f, (h1 _ (by omega) (by omega) (by omega)).trans e1, (h1 _ (by omega) (by omega) (by omega)).trans e2, ht, e4⟩, fun q hq => (z q hq).fr (fun k _ _ => h1 k (by omega) (by omega) (by omega))⟩
def lhC (fm : Nat → Int32) (T : Nat) : Nat → Nat
  | 0 => 2 ^ T - 1
  | h + 1 => if pc2 h < pc2 (lhC fm T h) ∧ mbh fm (nI h) T = mbh fm (nI (2 ^ T - 1)) T then h else lhC fm T h
theorem two_lt {T : Nat} (h : T ≤ 12) : 2 ^ T ≤ 4096 ∧ 1 ≤ 2 ^ T := ⟨show 2 ^ T ≤ 2 ^ 12 from Nat.pow_le_pow_right (n := 2) (by decide) h, Nat.one_le_two_pow⟩
theorem lhC_lt {fm : Nat → Int32} {T : Nat} (hT : T ≤ 12) : ∀ {h : Nat}, h ≤ 2 ^ T → lhC fm T h < 4096
  | 0, _ => by have := two_lt hT; unfold lhC; omega
  | h + 1, hh => by
    have := two_lt hT
    unfold lhC
    split
    · omega
    · exact lhC_lt hT (by omega)
theorem pc2_lt (n : Nat) : pc2 n ≤ 12 := by unfold pc2; omega
theorem sh_two : ∀ T, T ≤ 12 → (1 : Int32) <<< (nI T &&& 31) = nI (2 ^ T) := by decide
theorem sh_two1 {T : Nat} (h : T ≤ 12) : (1 : Int32) <<< (nI T &&& 31) - 1 = nI (2 ^ T - 1) := by
  rw [sh_two T h]
  exact pk_sub (b := 1) (two_lt h).2

set_option maxHeartbeats 4000000 in
set_option maxRecDepth 100000 in
theorem c_removeNo {l : Launch} {G : va_G} {cy : Nat → ClassId} {N : Nat} {ad : Nat → Nat} {g : Nat → va_E} {T : Nat} {p : Nat → Nat} {x : Nat → TT} {i : Int32} (hS : SuAt cy N ad g T p x) (hno : ¬ (0 ≤ i ∧ i < nI T)) : RI l G cy (N, ad, g) yX7_remove cX7_remove 4 (some .boolean) (rmN 1) [.ref (ad 9), .int i] 0 := by
  refine RI.mk (by decide) (by first | rfl | exact bI_nar) (Nat.le_of_ble_eq_true rfl) ?_
  intro jp je js jm below meth jc A Q X hW ret ls hl
  have jx := X.hx
  have jb := X.hb
  have hl : lv_has ls 4 [(0, .ref (ad 9)), (1, .int i)] := hl
  have X : Cx G cy jp js jm _ jc cX7_remove 4 RX7 A js.heap := X
  obtain ⟨h83, hT, hp12, hinj, ⟨ft, fm, f9, f10, f11, hft⟩, hx⟩ := id hS
  refine lv_iload_n jx jb dX7_remove_0 rfl (lv_at hl 1 rfl) ?_
  refine lv_aload_n jx jb dX7_remove_1 rfl (lv_at hl 0 rfl) ?_
  refine w_get X hW K7 (by omega) f9 2 (by decide) fl_X7_21 rfl dX7_remove_2 ?_
  refine w_rN (As := [.int i, .int (nI T)]) X hW (c_isBelow) mn_X7_26 mf_X8_isBelow ⟨Nat.le_of_ble_eq_true rfl, Nat.le_of_ble_eq_true rfl⟩ hl.1 rfl (Nat.le_of_ble_eq_true rfl) ⟨Nat.le_of_ble_eq_true rfl, Nat.le_of_ble_eq_true rfl⟩ dX7_remove_5 (fun H locs hW => ?_)
  refine lv_if_ne (tgt := 13) jx jb dX7_remove_8 (by decide) (fun c8 => ?_) (fun c8 => ?_)
  · exact absurd (bI_n0.mp c8) hno
  · refine lv_iconst (v := 0) jx jb dX7_remove_11 (by decide) ?_
    exact ret _ _ _ _ _ dX7_remove_12 hW rfl

set_option maxHeartbeats 4000000 in
set_option maxRecDepth 100000 in
theorem c_remove {l : Launch} {G : va_G} {cy : Nat → ClassId} {N : Nat} {ad : Nat → Nat} {g : Nat → va_E} {T : Nat} {p : Nat → Nat} {x : Nat → TT} {j : Nat} (hS : SuAt cy N ad g T p x) (hj : j < T) : MI l G cy (N, ad, g) yX7_remove cX7_remove 4 (some .boolean) (rmN 1) [.ref (ad 9), .int (nI j)] (nA N ad (fun v g1 => v = 1 ∧ SuAt cy N ad g1 (T - 1) (rmP p j T) x ∧ ∀ k, ¬ (9 ≤ k ∧ k < 60) → g1 k = g k)) := by
  refine NI.mk (by decide) (by intro v g1 h; rw [h.1]; decide) (Nat.le_of_ble_eq_true rfl) ?_
  intro jp je js jm below meth jc A Q X hW ret ls hl
  have jx := X.hx
  have jb := X.hb
  have hl : lv_has ls 4 [(0, .ref (ad 9)), (1, .int (nI j))] := hl
  have X : Cx G cy jp js jm _ jc cX7_remove 4 RX7 A js.heap := X
  obtain ⟨h83, hT, hp12, hinj, ⟨ft, fm, f9, f10, f11, hft⟩, hx⟩ := id hS
  refine lv_iload_n jx jb dX7_remove_0 rfl (lv_at hl 1 rfl) ?_
  refine lv_aload_n jx jb dX7_remove_1 rfl (lv_at hl 0 rfl) ?_
  refine w_get X hW K7 (by omega) f9 2 (by decide) fl_X7_21 rfl dX7_remove_2 ?_
  refine w_rN (As := [.int (nI j), .int (nI T)]) X hW (c_isBelow) mn_X7_26 mf_X8_isBelow ⟨Nat.le_of_ble_eq_true rfl, Nat.le_of_ble_eq_true rfl⟩ hl.1 rfl (Nat.le_of_ble_eq_true rfl) ⟨Nat.le_of_ble_eq_true rfl, Nat.le_of_ble_eq_true rfl⟩ dX7_remove_5 (fun H locs hW => ?_)
  refine lv_if_ne (tgt := 13) jx jb dX7_remove_8 (by decide) (fun c8 => ?_) (fun c8 => ?_)
  · refine lv_aload_n jx jb dX7_remove_13 rfl (lv_at hl 0 rfl) ?_
    refine w_get X hW K7 (by omega) f9 0 (by decide) fl_X7_11 rfl dX7_remove_14 ?_
    refine lv_iload_n jx jb dX7_remove_17 rfl (lv_at hl 1 rfl) ?_
    refine w_ald X hW (by omega) (t := 3) rfl f10 j rfl (by omega) (by decide) dX7_remove_18 ?_
    refine top_q (y := some (ad (12 + 4 * p j))) (hft j (by omega)) ?_
    refine lv_astore_n (lv' := [(2, .ref (ad (12 + 4 * p j))), (0, .ref (ad 9)), (1, .int (nI j))]) jx jb dX7_remove_19 rfl hl (by decide) rfl (fun ls hl => ?_)
    refine lv_iload_n jx jb dX7_remove_20 rfl (lv_at hl 2 rfl) ?_
    refine lv_istore_n (lv' := [(3, .int (nI j)), (2, .ref (ad (12 + 4 * p j))), (0, .ref (ad 9)), (1, .int (nI j))]) jx jb dX7_remove_21 rfl hl (by decide) rfl (fun ls hl => ?_)
    have loop22 : ∀ (fuel22 : Nat) (k : Nat) (fk : Nat → Option Nat) (gL22 : Nat → va_E) (H : Heap) (locs : List Loc) (ls : Array Slot), (j ≤ k) → (k + 1 ≤ T) → (∀ i, i < 12 → fk i = some (ad (12 + 4 * (if j ≤ i ∧ i < k then p (i + 1) else p i)))) → gL22 9 = .inr (7, [.ref (ad 10), .ref (ad 11), .int (nI T)]) → gL22 10 = .inl (cy 3, 12, .inr (.inr (.inr (.inr fk)))) → gL22 11 = .inl (cy 0, 12, .inl fm) → Fr g gL22 [9, 10] → T - k < fuel22 → Wd G A js.heap (N, ad, gL22) H locs → lv_has ls 4 [(0, .ref (ad 9)), (1, .int (nI j)), (2, .ref (ad (12 + 4 * p j))), (3, .int (nI k))] → W jp l je (rmN 1) js jm [.ref (ad 9), .int (nI j)].toArray below meth jc H locs 0 0 Q (F0 jm 22 ls []) := by
      intro fuel22
      induction fuel22 with
      | zero => intro k fk gL22 H locs ls hjk hk hfk fL22_0 fL22_1 fL22_2 hfr22 hm22; exact absurd hm22 (Nat.not_lt_zero _)
      | succ fuel22 ih22 =>
        intro k fk gL22 H locs ls hjk hk hfk fL22_0 fL22_1 fL22_2 hfr22 hm22 hW hl
        refine lv_iload_n jx jb dX7_remove_22 rfl (lv_at hl 3 rfl) ?_
        refine lv_iconst (v := 1) jx jb dX7_remove_23 (by decide) ?_
        refine lv_iadd jx jb dX7_remove_24 ?_
        refine top_eq (y := nI (k + 1)) (nI_1 _) ?_
        refine lv_aload_n jx jb dX7_remove_25 rfl (lv_at hl 0 rfl) ?_
        refine w_get X hW K7 (by omega) fL22_0 2 (by decide) fl_X7_21 rfl dX7_remove_26 ?_
        refine lv_icmp_ge (tgt := 52) jx jb dX7_remove_29 (by decide) (fun c29 => ?_) (fun c29 => ?_)
        · have hge := n_le (by omega) (by omega) c29
          refine lv_aload_n jx jb dX7_remove_52 rfl (lv_at hl 0 rfl) ?_
          refine lv_dup jx jb dX7_remove_53 rfl ?_
          refine w_get X hW K7 (by omega) fL22_0 2 (by decide) fl_X7_21 rfl dX7_remove_54 ?_
          refine lv_iconst (v := 1) jx jb dX7_remove_57 (by decide) ?_
          refine lv_isub jx jb dX7_remove_58 ?_
          refine top_eq (y := nI (T - 1)) (pk_sub (b := 1) (by omega)) ?_
          refine w_put X hW K7 (by omega) fL22_0 2 (by decide) fl_X7_21 rfl rfl rfl (Nat.le_of_ble_eq_true rfl) dX7_remove_59 (fun H locs hW => ?_)
          obtain ⟨g_1, eg_1⟩ : ∃ zz, zz = va_up gL22 9 (.inr (7, [.ref (ad 10), .ref (ad 11), .int (nI (T - 1))])) := ⟨_, rfl⟩
          have hW : Wd G A js.heap (N, ad, g_1) H locs := by rw [eg_1]; exact hW
          have hf2 : g_1 9 = .inr (7, [.ref (ad 10), .ref (ad 11), .int (nI (T - 1))]) := by rw [eg_1]; exact va_up_s
          have hf3 : g_1 10 = .inl (cy 3, 12, .inr (.inr (.inr (.inr fk)))) := by rw [eg_1]; exact (va_up_n (by decide)).trans fL22_1
          have hf4 : g_1 11 = .inl (cy 0, 12, .inl fm) := by rw [eg_1]; exact (va_up_n (by decide)).trans fL22_2
          refine lv_aload_n jx jb dX7_remove_62 rfl (lv_at hl 0 rfl) ?_
          refine w_get X hW K7 (by omega) hf2 0 (by decide) fl_X7_11 rfl dX7_remove_63 ?_
          refine lv_aload_n jx jb dX7_remove_66 rfl (lv_at hl 0 rfl) ?_
          refine w_get X hW K7 (by omega) hf2 2 (by decide) fl_X7_21 rfl dX7_remove_67 ?_
          refine lv_aload_n jx jb dX7_remove_70 rfl (lv_at hl 2 rfl) ?_
          obtain ⟨fcz, frz, z1, -, -, -, -⟩ := hx (p j) (hp12 _ (by omega))
          have zg : g_1 (12 + 4 * p j) = _ := Eq.trans (show g_1 (12 + 4 * p j) = g (12 + 4 * p j) from by rw [eg_1, va_up_n (by omega), hfr22 _ (by simp only [List.mem_cons, List.not_mem_nil, or_false, not_or] <;> omega)]) z1
          refine w_ast X hW (by omega) (t := 3) (q := (RX3, TX3, 4)) rfl hf3 (v := 12 + 4 * p j) (by have := hp12 j (by omega); omega) zg rfl (T - 1) rfl (by omega) (by decide) dX7_remove_71 (fun H locs hW => ?_)
          obtain ⟨g_5, eg_5⟩ : ∃ zz, zz = va_up g_1 10 (.inl (cy 3, 12, .inr (.inr (.inr (.inr (va_up fk (T - 1) (some (ad (12 + 4 * p j))))))))) := ⟨_, rfl⟩
          have hW : Wd G A js.heap (N, ad, g_5) H locs := by rw [eg_5]; exact hW
          have hf6 : g_5 9 = .inr (7, [.ref (ad 10), .ref (ad 11), .int (nI (T - 1))]) := by rw [eg_5]; exact (va_up_n (by decide)).trans hf2
          have hf7 : g_5 10 = .inl (cy 3, 12, .inr (.inr (.inr (.inr (va_up fk (T - 1) (some (ad (12 + 4 * p j)))))))) := by rw [eg_5]; exact va_up_s
          have hf8 : g_5 11 = .inl (cy 0, 12, .inl fm) := by rw [eg_5]; exact (va_up_n (by decide)).trans hf4
          refine lv_iconst (v := 1) jx jb dX7_remove_72 (by decide) ?_
          exact ret _ _ _ _ _ _ dX7_remove_73 hW ⟨rfl, ⟨h83, by omega, rmP_lt hT hj hp12, rmP_inj hT hj hinj, ⟨_, fm, hf6, hf7, hf8, (fun i hi => by unfold rmP; by_cases e : i = T - 1; (subst e; rw [va_up_s, if_neg (by omega), if_pos rfl]); (rw [va_up_n e, hfk i hi, if_neg (c := i = T - 1) e, show k = T - 1 by omega]))⟩, fun q hq => (hx q hq).fr (fun k hk1 hk2 => by show g_5 k = _; rw [eg_5, va_up_n (by omega), eg_1, va_up_n (by omega), hfr22 k (by simp only [List.mem_cons, List.not_mem_nil, or_false, not_or] <;> omega)])⟩, (fun k hk => by show g_5 k = _; rw [eg_5, va_up_n (by omega), eg_1, va_up_n (by omega), hfr22 k (by simp only [List.mem_cons, List.not_mem_nil, or_false, not_or] <;> omega)])⟩
        · have hlt : k + 1 < T := n_nle (by omega) (by omega) c29
          refine lv_aload_n jx jb dX7_remove_32 rfl (lv_at hl 0 rfl) ?_
          refine w_get X hW K7 (by omega) fL22_0 0 (by decide) fl_X7_11 rfl dX7_remove_33 ?_
          refine lv_iload_n jx jb dX7_remove_36 rfl (lv_at hl 3 rfl) ?_
          refine lv_aload_n jx jb dX7_remove_37 rfl (lv_at hl 0 rfl) ?_
          refine w_get X hW K7 (by omega) fL22_0 0 (by decide) fl_X7_11 rfl dX7_remove_38 ?_
          refine lv_iload_n jx jb dX7_remove_41 rfl (lv_at hl 3 rfl) ?_
          refine lv_iconst (v := 1) jx jb dX7_remove_42 (by decide) ?_
          refine lv_iadd jx jb dX7_remove_43 ?_
          refine top_eq (y := nI (k + 1)) (nI_1 _) ?_
          refine w_ald X hW (by omega) (t := 3) rfl fL22_1 (k + 1) rfl (by omega) (by decide) dX7_remove_44 ?_
          refine top_q (y := some (ad (12 + 4 * p (k + 1)))) (by rw [hfk _ (by omega), if_neg (by omega)]) ?_
          obtain ⟨fcs, frs, s1, -, -, -, -⟩ := hx (p (k + 1)) (hp12 _ (by omega))
          have sg : gL22 (12 + 4 * p (k + 1)) = _ := Eq.trans (show gL22 (12 + 4 * p (k + 1)) = g (12 + 4 * p (k + 1)) from by rw [hfr22 _ (by simp only [List.mem_cons, List.not_mem_nil, or_false, not_or] <;> omega)]) s1
          refine w_ast X hW (by omega) (t := 3) (q := (RX3, TX3, 4)) rfl fL22_1 (v := 12 + 4 * p (k + 1)) (by have := hp12 (k + 1) (by omega); omega) sg rfl k rfl (by omega) (by decide) dX7_remove_45 (fun H locs hW => ?_)
          obtain ⟨g_9, eg_9⟩ : ∃ zz, zz = va_up gL22 10 (.inl (cy 3, 12, .inr (.inr (.inr (.inr (va_up fk k (some (ad (12 + 4 * p (k + 1)))))))))) := ⟨_, rfl⟩
          have hW : Wd G A js.heap (N, ad, g_9) H locs := by rw [eg_9]; exact hW
          have hf10 : g_9 9 = .inr (7, [.ref (ad 10), .ref (ad 11), .int (nI T)]) := by rw [eg_9]; exact (va_up_n (by decide)).trans fL22_0
          have hf11 : g_9 10 = .inl (cy 3, 12, .inr (.inr (.inr (.inr (va_up fk k (some (ad (12 + 4 * p (k + 1))))))))) := by rw [eg_9]; exact va_up_s
          have hf12 : g_9 11 = .inl (cy 0, 12, .inl fm) := by rw [eg_9]; exact (va_up_n (by decide)).trans fL22_2
          refine lv_iinc (v := nI (k + 1)) (lv' := [(3, .int (nI (k + 1))), (0, .ref (ad 9)), (1, .int (nI j)), (2, .ref (ad (12 + 4 * p j)))]) jx jb dX7_remove_46 hl (k := 3) rfl (show nI k + 1 = nI (k + 1) from nI_1 _) (by decide) rfl (fun ls hl => ?_)
          refine lv_goto (tgt := 22) jx jb dX7_remove_49 (by decide) ?_
          exact ih22 (k + 1) _ g_9 _ _ _ (by omega) (by omega) (fun i hi => by by_cases e : i = k; (subst e; rw [va_up_s, if_pos (by omega)]); (rw [va_up_n e, hfk i hi]; by_cases e2 : j ≤ i ∧ i < k; (rw [if_pos e2, if_pos (by omega)]); (rw [if_neg e2, if_neg (by omega)]))) hf10 hf11 hf12 (fun k hk => by show g_9 k = _; simp only [List.mem_cons, List.not_mem_nil, or_false, not_or] at hk; rw [eg_9, va_up_n (by omega), hfr22 k (by simp only [List.mem_cons, List.not_mem_nil, or_false, not_or] <;> omega)]) (by omega) hW (lv_sub hl [1, 2, 3, 0] rfl)
    exact loop22 _ j _ g _ _ _ (Nat.le_refl _) (by omega) (fun i hi => by rw [hft i hi, if_neg (by omega)]) f9 f10 f11 (fun k hk => rfl) (Nat.lt_succ_self _) hW (lv_sub hl [2, 3, 1, 0] rfl)
  · exact absurd (c8.symm.trans (bel_t hj (by omega))) (by decide)

set_option maxHeartbeats 4000000 in
set_option maxRecDepth 100000 in
theorem c_leastHeap {l : Launch} {G : va_G} {cy : Nat → ClassId} {N : Nat} {ad : Nat → Nat} {g : Nat → va_E} {T : Nat} {p : Nat → Nat} {x : Nat → TT} {M : M4} (hS : SuAt cy N ad g T p x) (hM : MachAt cy N ad g M) (hPe : ∃ psz pf mt lt, RepAt cy N ad g psz pf mt lt) : MI l G cy (N, ad, g) yX7_leastHeap cX7_leastHeap 5 (some .int) (rmN 5) [.ref (ad 9), .ref (ad 60)] (nA N ad (fun v g1 => ∃ fk, (∀ i, i < T → fk i = mtq M (gl (x (p i)).1) (x (p i)).1.length) ∧ v = nI (lhC fk T (2 ^ T)) ∧ SuAt cy N ad g1 T p x ∧ (∃ psz pf mt lt, RepAt cy N ad g1 psz pf mt lt) ∧ ∀ k, ¬ (9 ≤ k ∧ k < 62) → g1 k = g k)) := by
  refine NI.mk (by decide) (by intros; first | rfl | (simp_all; done)) (Nat.le_of_ble_eq_true rfl) ?_
  intro jp je js jm below meth jc A Q X hW ret ls hl
  have jx := X.hx
  have jb := X.hb
  have hl : lv_has ls 5 [(0, .ref (ad 9)), (1, .ref (ad 60))] := hl
  have X : Cx G cy jp js jm _ jc cX7_leastHeap 5 RX7 A js.heap := X
  obtain ⟨h83, hT, hp12, hinj, ⟨ft, fm, f9, f10, f11, hft⟩, hx⟩ := id hS
  refine lv_iconst (v := 0) jx jb dX7_leastHeap_0 (by decide) ?_
  refine lv_istore_n (lv' := [(2, .int 0), (0, .ref (ad 9)), (1, .ref (ad 60))]) jx jb dX7_leastHeap_1 rfl hl (by decide) rfl (fun ls hl => ?_)
  have loop2 : ∀ (fuel2 : Nat) (k : Nat) (fk : Nat → Int32) (gL2 : Nat → va_E) (H : Heap) (locs : List Loc) (ls : Array Slot), (k ≤ T) → (SuAt cy N ad gL2 T p x) → (MachAt cy N ad gL2 M) → (∃ psz pf mt lt, RepAt cy N ad gL2 psz pf mt lt) → (∀ i, i < k → fk i = mtq M (gl (x (p i)).1) (x (p i)).1.length) → (∀ k, ¬ (9 ≤ k ∧ k < 62) → gL2 k = g k) → gL2 11 = .inl (cy 0, 12, .inl fk) → T - k < fuel2 → Wd G A js.heap (N, ad, gL2) H locs → lv_has ls 5 [(0, .ref (ad 9)), (1, .ref (ad 60)), (2, .int (nI k))] → W jp l je (rmN 5) js jm [.ref (ad 9), .ref (ad 60)].toArray below meth jc H locs 0 0 Q (F0 jm 2 ls []) := by
    intro fuel2
    induction fuel2 with
    | zero => intro k fk gL2 H locs ls hk hS hM hPe hme hfr fL2_0 hm2; exact absurd hm2 (Nat.not_lt_zero _)
    | succ fuel2 ih2 =>
      intro k fk gL2 H locs ls hk hS hM hPe hme hfr fL2_0 hm2 hW hl
      obtain ⟨-, -, -, -, ⟨ft, fm_, f9, f10, -, hft⟩, hx⟩ := id hS
      obtain ⟨psz, pf, mt, lt, hP⟩ := id hPe
      obtain ⟨-, hpsz, f60, f61⟩ := id hP
      obtain ⟨-, -, bc_, fs_, f1, -⟩ := id hM
      refine lv_iload_n jx jb dX7_leastHeap_2 rfl (lv_at hl 2 rfl) ?_
      refine lv_aload_n jx jb dX7_leastHeap_3 rfl (lv_at hl 0 rfl) ?_
      refine w_get X hW K7 (by omega) f9 2 (by decide) fl_X7_21 rfl dX7_leastHeap_4 ?_
      refine lv_icmp_ge (tgt := 35) jx jb dX7_leastHeap_7 (by decide) (fun c7 => ?_) (fun c7 => ?_)
      · have hge := n_le (by omega) (by omega) c7
        have h2 := two_lt hT
        refine lv_iconst (v := 1) jx jb dX7_leastHeap_35 (by decide) ?_
        refine lv_aload_n jx jb dX7_leastHeap_36 rfl (lv_at hl 0 rfl) ?_
        refine w_get X hW K7 (by omega) f9 2 (by decide) fl_X7_21 rfl dX7_leastHeap_37 ?_
        refine lv_ishl jx jb dX7_leastHeap_40 ?_
        refine lv_iconst (v := 1) jx jb dX7_leastHeap_41 (by decide) ?_
        refine lv_isub jx jb dX7_leastHeap_42 ?_
        refine top_eq (y := nI (2 ^ T - 1)) (sh_two1 hT) ?_
        refine lv_istore_n (lv' := [(2, .int (nI (2 ^ T - 1))), (0, .ref (ad 9)), (1, .ref (ad 60))]) jx jb dX7_leastHeap_43 rfl hl (by decide) rfl (fun ls hl => ?_)
        refine lv_aload_n jx jb dX7_leastHeap_44 rfl (lv_at hl 1 rfl) ?_
        refine lv_iload_n jx jb dX7_leastHeap_45 rfl (lv_at hl 0 rfl) ?_
        refine w_rV (As := [.int (nI (2 ^ T - 1))]) X hW (c_metByHeap h83 hT f9 fL2_0) (by omega) f9 rfl rfl ml_X7_59 mf_X7_metByHeap ⟨Nat.le_of_ble_eq_true rfl, Nat.le_of_ble_eq_true rfl⟩ hl.1 rfl (Nat.le_of_ble_eq_true rfl) ⟨Nat.le_of_ble_eq_true rfl, Nat.le_of_ble_eq_true rfl⟩ dX7_leastHeap_46 (fun H locs hW => ?_)
        refine lv_istore_n (lv' := [(3, .int (mbh fk (nI (2 ^ T - 1)) T)), (2, .int (nI (2 ^ T - 1))), (0, .ref (ad 9)), (1, .ref (ad 60))]) jx jb dX7_leastHeap_49 rfl hl (by decide) rfl (fun ls hl => ?_)
        refine lv_iconst (v := 0) jx jb dX7_leastHeap_50 (by decide) ?_
        refine lv_istore (lv' := [(4, .int 0), (3, .int (mbh fk (nI (2 ^ T - 1)) T)), (2, .int (nI (2 ^ T - 1))), (0, .ref (ad 9)), (1, .ref (ad 60))]) jx jb dX7_leastHeap_51 hl (by decide) rfl (fun ls hl => ?_)
        have loop53 : ∀ (fuel53 : Nat) (h : Nat) (H : Heap) (locs : List Loc) (ls : Array Slot), (h ≤ 2 ^ T) → 2 ^ T - h < fuel53 → Wd G A js.heap (N, ad, gL2) H locs → lv_has ls 5 [(0, .ref (ad 9)), (2, .int (nI (lhC fk T h))), (3, .int (mbh fk (nI (2 ^ T - 1)) T)), (4, .int (nI h))] → W jp l je (rmN 5) js jm [.ref (ad 9), .ref (ad 60)].toArray below meth jc H locs 0 0 Q (F0 jm 53 ls []) := by
          intro fuel53
          induction fuel53 with
          | zero => intro h H locs ls hh  hm53; exact absurd hm53 (Nat.not_lt_zero _)
          | succ fuel53 ih53 =>
            intro h H locs ls hh  hm53 hW hl
            refine lv_iload jx jb dX7_leastHeap_53 (lv_at hl 3 rfl) ?_
            refine lv_iconst (v := 1) jx jb dX7_leastHeap_55 (by decide) ?_
            refine lv_aload_n jx jb dX7_leastHeap_56 rfl (lv_at hl 0 rfl) ?_
            refine w_get X hW K7 (by omega) f9 2 (by decide) fl_X7_21 rfl dX7_leastHeap_57 ?_
            refine lv_ishl jx jb dX7_leastHeap_60 ?_
            refine top_eq (y := nI (2 ^ T)) (sh_two T hT) ?_
            refine lv_icmp_ge (tgt := 95) jx jb dX7_leastHeap_61 (by decide) (fun c61 => ?_) (fun c61 => ?_)
            · refine lv_iload_n jx jb dX7_leastHeap_95 rfl (lv_at hl 1 rfl) ?_
              exact ret _ _ _ _ _ _ dX7_leastHeap_96 hW (by have := n_le (by omega) (by omega) c61; have e : h = 2 ^ T := (by omega); rw [e]; exact ⟨fk, (fun i hi => hme i (by omega)), rfl, hS, hPe, hfr⟩)
            · have hhl : h < 2 ^ T := n_nle (by omega) (by omega) c61
              have hbl := lhC_lt (fm := fk) hT hh
              refine lv_iload jx jb dX7_leastHeap_64 (lv_at hl 3 rfl) ?_
              refine w_rS (As := [.int (nI h)]) X hW (c_bitCount) ml_X7_63 mf_J6_bitCount_0f7a4 ⟨Nat.le_of_ble_eq_true rfl, Nat.le_of_ble_eq_true rfl⟩ hl.1 rfl (Nat.le_of_ble_eq_true rfl) ⟨Nat.le_of_ble_eq_true rfl, Nat.le_of_ble_eq_true rfl⟩ dX7_leastHeap_66 (fun H locs hW => ?_)
              refine top_eq (y := nI (pc2 h)) (bcI_pc h (by omega)) ?_
              refine lv_iload_n jx jb dX7_leastHeap_69 rfl (lv_at hl 1 rfl) ?_
              refine w_rS (As := [.int (nI (lhC fk T h))]) X hW (c_bitCount) ml_X7_63 mf_J6_bitCount_0f7a4 ⟨Nat.le_of_ble_eq_true rfl, Nat.le_of_ble_eq_true rfl⟩ hl.1 rfl (Nat.le_of_ble_eq_true rfl) ⟨Nat.le_of_ble_eq_true rfl, Nat.le_of_ble_eq_true rfl⟩ dX7_leastHeap_70 (fun H locs hW => ?_)
              refine top_eq (y := nI (pc2 (lhC fk T h))) (bcI_pc _ hbl) ?_
              refine lv_icmp_ge (tgt := 89) jx jb dX7_leastHeap_73 (by decide) (fun c73 => ?_) (fun c73 => ?_)
              · refine lv_iinc (v := nI (h + 1)) (lv' := [(4, .int (nI (h + 1))), (0, .ref (ad 9)), (2, .int (nI (lhC fk T h))), (3, .int (mbh fk (nI (2 ^ T - 1)) T))]) jx jb dX7_leastHeap_89 hl (k := 3) rfl (show nI h + 1 = nI (h + 1) from nI_1 _) (by decide) rfl (fun ls hl => ?_)
                refine lv_goto (tgt := 53) jx jb dX7_leastHeap_92 (by decide) ?_
                have hl : lv_has ls 5 [(4, .int (nI (h + 1))), (0, .ref (ad 9)), (2, .int (nI (lhC fk T (h + 1)))), (3, .int (mbh fk (nI (2 ^ T - 1)) T))] := by rw [show nI (lhC fk T (h + 1)) = nI (lhC fk T h) from congrArg nI (if_neg (fun q => by have := n_le (by have := pc2_lt (lhC fk T h); omega) (by have := pc2_lt h; omega) c73; omega))]; exact hl
                exact ih53 (h + 1)  _ _ _ (by omega)  (by omega) hW (lv_sub hl [1, 2, 3, 0] rfl)
              · refine lv_aload_n jx jb dX7_leastHeap_76 rfl (lv_at hl 0 rfl) ?_
                refine lv_iload jx jb dX7_leastHeap_77 (lv_at hl 3 rfl) ?_
                refine w_rV (As := [.int (nI h)]) X hW (c_metByHeap h83 hT f9 fL2_0) (by omega) f9 rfl rfl ml_X7_59 mf_X7_metByHeap ⟨Nat.le_of_ble_eq_true rfl, Nat.le_of_ble_eq_true rfl⟩ hl.1 rfl (Nat.le_of_ble_eq_true rfl) ⟨Nat.le_of_ble_eq_true rfl, Nat.le_of_ble_eq_true rfl⟩ dX7_leastHeap_79 (fun H locs hW => ?_)
                refine lv_iload_n jx jb dX7_leastHeap_82 rfl (lv_at hl 2 rfl) ?_
                refine lv_icmp_ne (tgt := 89) jx jb dX7_leastHeap_83 (by decide) (fun c83 => ?_) (fun c83 => ?_)
                · refine lv_iinc (v := nI (h + 1)) (lv' := [(4, .int (nI (h + 1))), (0, .ref (ad 9)), (2, .int (nI (lhC fk T h))), (3, .int (mbh fk (nI (2 ^ T - 1)) T))]) jx jb dX7_leastHeap_89 hl (k := 3) rfl (show nI h + 1 = nI (h + 1) from nI_1 _) (by decide) rfl (fun ls hl => ?_)
                  refine lv_goto (tgt := 53) jx jb dX7_leastHeap_92 (by decide) ?_
                  have hl : lv_has ls 5 [(4, .int (nI (h + 1))), (0, .ref (ad 9)), (2, .int (nI (lhC fk T (h + 1)))), (3, .int (mbh fk (nI (2 ^ T - 1)) T))] := by rw [show nI (lhC fk T (h + 1)) = nI (lhC fk T h) from congrArg nI (if_neg (fun q => c83 q.2))]; exact hl
                  exact ih53 (h + 1)  _ _ _ (by omega)  (by omega) hW (lv_sub hl [1, 2, 3, 0] rfl)
                · refine lv_iload jx jb dX7_leastHeap_86 (lv_at hl 3 rfl) ?_
                  refine lv_istore_n (lv' := [(2, .int (nI h)), (0, .ref (ad 9)), (3, .int (mbh fk (nI (2 ^ T - 1)) T)), (4, .int (nI h))]) jx jb dX7_leastHeap_88 rfl hl (by decide) rfl (fun ls hl => ?_)
                  refine lv_iinc (v := nI (h + 1)) (lv' := [(4, .int (nI (h + 1))), (2, .int (nI h)), (0, .ref (ad 9)), (3, .int (mbh fk (nI (2 ^ T - 1)) T))]) jx jb dX7_leastHeap_89 hl (k := 3) rfl (show nI h + 1 = nI (h + 1) from nI_1 _) (by decide) rfl (fun ls hl => ?_)
                  refine lv_goto (tgt := 53) jx jb dX7_leastHeap_92 (by decide) ?_
                  have hl : lv_has ls 5 [(4, .int (nI (h + 1))), (2, .int (nI (lhC fk T (h + 1)))), (0, .ref (ad 9)), (3, .int (mbh fk (nI (2 ^ T - 1)) T))] := by rw [show nI (lhC fk T (h + 1)) = nI h from congrArg nI (if_pos ⟨n_nle (by have := pc2_lt (lhC fk T h); omega) (by have := pc2_lt h; omega) c73, c83⟩)]; exact hl
                  exact ih53 (h + 1)  _ _ _ (by omega)  (by omega) hW (lv_sub hl [2, 1, 3, 0] rfl)
        exact loop53 _ 0  _ _ _ (by omega)  (Nat.lt_succ_self _) hW (lv_sub hl [3, 2, 1, 0] rfl)
      · have hlt : k < T := n_nle (by omega) (by omega) c7
        have hk12 : k < 12 := by omega
        have hpk := hp12 k hk12
        obtain ⟨fc, fr, t1, tR, tc, t96, ta⟩ := hx (p k) hpk
        refine lv_aload_n jx jb dX7_leastHeap_10 rfl (lv_at hl 0 rfl) ?_
        refine w_get X hW K7 (by omega) f9 1 (by decide) fl_X7_17 rfl dX7_leastHeap_11 ?_
        refine lv_iload_n jx jb dX7_leastHeap_14 rfl (lv_at hl 2 rfl) ?_
        refine lv_aload_n jx jb dX7_leastHeap_15 rfl (lv_at hl 1 rfl) ?_
        refine lv_aload_n jx jb dX7_leastHeap_16 rfl (lv_at hl 0 rfl) ?_
        refine w_get X hW K7 (by omega) f9 0 (by decide) fl_X7_11 rfl dX7_leastHeap_17 ?_
        refine lv_iload_n jx jb dX7_leastHeap_20 rfl (lv_at hl 2 rfl) ?_
        refine w_ald X hW (by omega) (t := 3) rfl f10 k rfl (by omega) (by decide) dX7_leastHeap_21 ?_
        refine top_q (y := some (ad (12 + 4 * p k))) (hft k hk12) ?_
        refine w_getN X hW K3 (by omega) t1 0 (by decide) fn_X7_30 rfl dX7_leastHeap_22 ?_
        refine w_nV (As := [.ref (ad (13 + 4 * p k))]) X hW (c_meets hM hP tR (fun i hi => ⟨tc i hi, t96 _ (gl_mem hi)⟩) (by omega)) (by omega) f60 rfl rfl ml_X7_54 mf_X4_meets ⟨Nat.le_of_ble_eq_true rfl, Nat.le_of_ble_eq_true rfl⟩ hl.1 rfl (Nat.le_of_ble_eq_true rfl) ⟨Nat.le_of_ble_eq_true rfl, Nat.le_of_ble_eq_true rfl⟩ dX7_leastHeap_25 (fun r1 g1 H locs hp hW => ?_)
        obtain ⟨er1, pf1, hP1, hres, pfr⟩ := hp
        have hf1 : g1 11 = .inl (cy 0, 12, .inl fk) := (pfr 11 (by simp only [List.mem_cons, List.not_mem_nil, or_false, not_or] <;> omega)).trans fL2_0
        have hf2 : g1 9 = .inr (7, [.ref (ad 10), .ref (ad 11), .int (nI T)]) := (pfr 9 (by simp only [List.mem_cons, List.not_mem_nil, or_false, not_or] <;> omega)).trans f9
        have hf3 : g1 10 = .inl (cy 3, 12, .inr (.inr (.inr (.inr ft)))) := (pfr 10 (by simp only [List.mem_cons, List.not_mem_nil, or_false, not_or] <;> omega)).trans f10
        refine top_eq (y := mtq M (gl (x (p k)).1) (x (p k)).1.length) (er1) ?_
        refine w_ist X hW (by omega) hf1 k rfl (by omega) (by decide) dX7_leastHeap_28 (fun H locs hW => ?_)
        obtain ⟨g_4, eg_4⟩ : ∃ zz, zz = va_up g1 11 (.inl (cy 0, 12, .inl (upd fk k (mtq M (gl (x (p k)).1) (x (p k)).1.length)))) := ⟨_, rfl⟩
        have hW : Wd G A js.heap (N, ad, g_4) H locs := by rw [eg_4]; exact hW
        have hf5 : g_4 11 = .inl (cy 0, 12, .inl (upd fk k (mtq M (gl (x (p k)).1) (x (p k)).1.length))) := by rw [eg_4]; exact va_up_s
        have hf6 : g_4 9 = .inr (7, [.ref (ad 10), .ref (ad 11), .int (nI T)]) := by rw [eg_4]; exact (va_up_n (by decide)).trans hf2
        have hf7 : g_4 10 = .inl (cy 3, 12, .inr (.inr (.inr (.inr ft)))) := by rw [eg_4]; exact (va_up_n (by decide)).trans hf3
        refine lv_iinc (v := nI (k + 1)) (lv' := [(2, .int (nI (k + 1))), (0, .ref (ad 9)), (1, .ref (ad 60))]) jx jb dX7_leastHeap_29 hl (k := 2) rfl (show nI k + 1 = nI (k + 1) from nI_1 _) (by decide) rfl (fun ls hl => ?_)
        refine lv_goto (tgt := 2) jx jb dX7_leastHeap_32 (by decide) ?_
        have hS1 : SuAt cy N ad g_4 T p x := hS.put11 (fun j j1 j2 j3 => by show g_4 j = _; rw [eg_4, va_up_n (by omega), pfr j (by simp only [List.mem_cons, List.not_mem_nil, or_false, not_or] <;> omega)]) hf5
        have hP2 : RepAt cy N ad g_4 _ _ _ _ := ⟨hP1.1, hP1.2.1, by rw [eg_4, va_up_n (by decide)]; exact hP1.2.2.1, by rw [eg_4, va_up_n (by decide)]; exact hP1.2.2.2⟩
        exact ih2 (k + 1) _ g_4 _ _ _ (by omega) hS1 (hM.fr (fun k hk => by show g_4 k = _; rw [eg_4, va_up_n (by omega), pfr k (by simp only [List.mem_cons, List.not_mem_nil, or_false, not_or] <;> omega), hfr k (by omega)])) ⟨_, _, _, _, hP2⟩ (fun i hi => by by_cases e : i = k; (rw [e, pk_us]); (rw [pk_un e]; exact hme i (by omega))) (fun k hk => by show g_4 k = _; rw [eg_4, va_up_n (by omega), pfr k (by simp only [List.mem_cons, List.not_mem_nil, or_false, not_or] <;> omega), hfr k (by omega)]) hf5 (by omega) hW (lv_sub hl [1, 2, 0] rfl)
  exact loop2 _ 0 _ g _ _ _ (by omega) hS hM hPe (fun i hi => absurd hi (by omega)) (fun k hk => rfl) f11 (Nat.lt_succ_self _) hW (lv_sub hl [1, 2, 0] rfl)
