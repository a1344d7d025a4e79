/-- the reference: the same machine, log and tests -/
def MAt (cy : Nat → ClassId) (N : Nat) (ad : Nat → Nat) (g : Nat → va_E) (M : M4) (lg : List Nat) (lr lt : Nat → Int32) (st T : Nat) (y : Nat → TT) : Prop := ∃ q to, MRaw cy N ad g q (nI lg.length) (nI T) to ∧ okM M ∧ QM q M ∧ QL q lg lr lt ∧ st < 65536 ∧ (∀ j, j < 4 → q 72 j = nI (nib st j)) ∧ T ≤ 12 ∧ ∀ i, i < T → QT q i (y i)
theorem MAt.run {cy : Nat → ClassId} {N : Nat} {ad : Nat → Nat} {g1 : Nat → va_E} {M : M4} {lg : List Nat} {lr lt : Nat → Int32} {st T : Nat} {y : Nat → TT} {q q1 : Nat → Nat → Int32} {tv : Int32} (hR : MRaw cy N ad g1 q1 (nI lg.length) (nI T) tv) (hok : okM M) (hQ : QM q M) (hL : QL q lg lr lt) (hst : st < 65536) (hS4 : ∀ j, j < 4 → q 72 j = nI (nib st j)) (hT12 : T ≤ 12) (hQT : ∀ i, i < T → QT q i (y i)) (hs : ∀ a, a ≠ 80 → q1 a = q a) : MAt cy N ad g1 M lg lr lt st T y := ⟨q1, tv, hR, hok, hQ.of (fun a h1 h2 => hs a (by omega)), hL.of (fun a h1 h2 => hs a (by omega)), hst, fun j hj => by rw [hs 72 (by decide)]; exact hS4 j hj, hT12, fun i hi => (hQT i hi).of (fun a h1 h2 => hs a (by omega))⟩
theorem MAt.fr {cy : Nat → ClassId} {N : Nat} {ad : Nat → Nat} {g g' : Nat → va_E} {M : M4} {lg : List Nat} {lr lt : Nat → Int32} {st T : Nat} {y : Nat → TT} (h : MAt cy N ad g M lg lr lt st T y) (hg : ∀ k, 63 ≤ k → k < 83 → g' k = g k) : MAt cy N ad g' M lg lr lt st T y := by
  obtain ⟨q, to, hR, r⟩ := h
  exact ⟨q, to, hR.fr hg, r⟩
theorem MAt.grow {cy : Nat → ClassId} {N N' : Nat} {ad ad' : Nat → Nat} {g g' : Nat → va_E} {M : M4} {lg : List Nat} {lr lt : Nat → Int32} {st T : Nat} {y : Nat → TT} (h : MAt cy N ad g M lg lr lt st T y) (hN : N ≤ N') (ha : ∀ k, k < N → ad' k = ad k) (hg : ∀ k, 63 ≤ k → k < N → g' k = g k) : MAt cy N' ad' g' M lg lr lt st T y := by
  obtain ⟨q, to, hR, r⟩ := h
  exact ⟨q, to, hR.grow hN ha hg, r⟩
theorem MAt.y {cy : Nat → ClassId} {N : Nat} {ad : Nat → Nat} {g : Nat → va_E} {M : M4} {lg : List Nat} {lr lt : Nat → Int32} {st T : Nat} {y y' : Nat → TT} (h : MAt cy N ad g M lg lr lt st T y) (hy : ∀ i, i < T → y' i = y i) : MAt cy N ad g M lg lr lt st T y' := by
  obtain ⟨q, to, h1, h2, h3, h4, h5, h6, h7, h8⟩ := h
  exact ⟨q, to, h1, h2, h3, h4, h5, h6, h7, fun i hi => by rw [hy i hi]; exact h8 i hi⟩

theorem Met.post {l : Launch} {y : MethodName} {ws : List Cond} {rm : Room} {Pc : Array Value → State → Prop} {B : WT → State → Prop} {A : Nat → Prop} {post post' : Int32 → WT → Prop} {mc ms : Nat} {free : Addr → Prop} (h : Met l y ws rm Pc (va_Qi post B A) mc ms free) (hp : ∀ r u, post r u → post' r u) : Met l y ws rm Pc (va_Qi post' B A) mc ms free := by
  intro p e ha hc hk s m args below hf hfit hP hK
  obtain ⟨k, o, h1, h2, h3, ⟨⟨⟨r, u, h4, h5, h6⟩, h7⟩, h8⟩⟩ := h p e ha hc hk s m args below hf hfit hP hK
  exact ⟨k, o, h1, h2, h3, ⟨⟨⟨r, u, h4, hp r u h5, h6⟩, h7⟩, h8⟩⟩

set_option maxHeartbeats 4000000 in
set_option maxRecDepth 100000 in
theorem c_mFresh {l : Launch} {G : va_G} {cy : Nat → ClassId} {N : Nat} {ad : Nat → Nat} {g : Nat → va_E} {M : M4} {lg : List Nat} {lr lt : Nat → Int32} {st T : Nat} {y : Nat → TT} (hMA : MAt cy N ad g M lg lr lt st T y) : MI l G cy (N, ad, g) yX9_fresh cX9_fresh 3 (some .int) (rmN 0) [.ref (ad 63)] (nA N ad (fun v g1 => v = nI lg.length ∧ MAt cy N ad g1 M ([]) lr lt 0 T y ∧ ∀ k, ¬ (63 ≤ k ∧ k < 83) → g1 k = g k)) := by
  refine NI.mk (by decide) (by intros; first | rfl | (simp_all; done)) (Nat.le_of_ble_eq_true rfl) ?_
  intro jp je js jm below meth jc A Q X hW ret ls hl
  have jx := X.hx
  have jb := X.hb
  have hl : lv_has ls 3 [(0, .ref (ad 63))] := hl
  have X : Cx G cy jp js jm _ jc cX9_fresh 3 RX9 A js.heap := X
  obtain ⟨q, to, hR, hok, hQ, hL, hst, hS4, hT12, hQT⟩ := id hMA
  have h83 : 83 ≤ N := hR.1
  have hl200 := hL.1
  refine lv_aload_n jx jb dX9_fresh_0 rfl (lv_at hl 0 rfl) ?_
  have m1 : g 63 = .inr (9, [.ref (ad 64), .ref (ad 65), .ref (ad 66), .ref (ad 67), .int (nI lg.length), .ref (ad 68), .ref (ad 69), .ref (ad 70), .ref (ad 71), .ref (ad 72), .int (nI T), .ref (ad 73), .ref (ad 74), .ref (ad 75), .ref (ad 76), .ref (ad 77), .ref (ad 78), .ref (ad 79), .ref (ad 80), .int to, .ref (ad 81), .ref (ad 82)]) := hR.2.1
  refine w_get X hW K9 (by omega) m1 4 (by decide) fl_X9_96 rfl dX9_fresh_1 ?_
  refine lv_istore_n (lv' := [(1, .int (nI lg.length)), (0, .ref (ad 63))]) jx jb dX9_fresh_4 rfl hl (by decide) rfl (fun ls hl => ?_)
  refine lv_aload_n jx jb dX9_fresh_5 rfl (lv_at hl 1 rfl) ?_
  refine lv_iconst (v := 0) jx jb dX9_fresh_6 (by decide) ?_
  refine w_put X hW K9 (by omega) m1 4 (by decide) fl_X9_96 rfl rfl rfl (Nat.le_of_ble_eq_true rfl) dX9_fresh_7 (fun H locs hW => ?_)
  obtain ⟨g_2, eg_2⟩ : ∃ zz, zz = va_up g 63 (.inr (9, [.ref (ad 64), .ref (ad 65), .ref (ad 66), .ref (ad 67), .int 0, .ref (ad 68), .ref (ad 69), .ref (ad 70), .ref (ad 71), .ref (ad 72), .int (nI T), .ref (ad 73), .ref (ad 74), .ref (ad 75), .ref (ad 76), .ref (ad 77), .ref (ad 78), .ref (ad 79), .ref (ad 80), .int to, .ref (ad 81), .ref (ad 82)])) := ⟨_, rfl⟩
  have hW : Wd G A js.heap (N, ad, g_2) H locs := by rw [eg_2]; exact hW
  have hR3 : MRaw cy N ad g_2 q 0 (nI T) to := hR.put63 (fun k hk => by rw [eg_2, va_up_n hk]) (by rw [eg_2]; exact va_up_s)
  refine lv_iconst (v := 0) jx jb dX9_fresh_10 (by decide) ?_
  refine lv_istore_n (lv' := [(2, .int 0), (1, .int (nI lg.length)), (0, .ref (ad 63))]) jx jb dX9_fresh_11 rfl hl (by decide) rfl (fun ls hl => ?_)
  have loop12 : ∀ (fuel12 : Nat) (k : Nat) (qL12 : Nat → Nat → Int32) (gL12 : Nat → va_E) (H : Heap) (locs : List Loc) (ls : Array Slot), (MRaw cy N ad gL12 qL12 0 (nI T) to) → (∀ k, ¬ (63 ≤ k ∧ k < 83) → gL12 k = g k) → (k ≤ 4) → (∀ m, m < k → qL12 72 m = 0) → (∀ a, a ≠ 72 → qL12 a = q a) → 4 - k < fuel12 → Wd G A js.heap (N, ad, gL12) H locs → lv_has ls 3 [(0, .ref (ad 63)), (1, .int (nI lg.length)), (2, .int (nI k))] → W jp l je (rmN 0) js jm [.ref (ad 63)].toArray below meth jc H locs 0 0 Q (F0 jm 12 ls []) := by
    intro fuel12
    induction fuel12 with
    | zero => intro k qL12 gL12 H locs ls hR12 hfr12 hk h0 hsm  hm12; exact absurd hm12 (Nat.not_lt_zero _)
    | succ fuel12 ih12 =>
      intro k qL12 gL12 H locs ls hR12 hfr12 hk h0 hsm  hm12 hW hl
      refine lv_iload_n jx jb dX9_fresh_12 rfl (lv_at hl 2 rfl) ?_
      refine lv_iconst (v := 4) jx jb dX9_fresh_13 (by decide) ?_
      refine lv_icmp_ge (tgt := 30) jx jb dX9_fresh_14 (by decide) (fun c14 => ?_) (fun c14 => ?_)
      · refine lv_iload_n jx jb dX9_fresh_30 rfl (lv_at hl 1 rfl) ?_
        exact ret _ _ _ _ _ _ dX9_fresh_31 hW (by have := n_le (a := 4) (by decide) (by omega) c14; exact ⟨rfl, ⟨qL12, _, hR12, hok, hQ.of (fun a h1 h2 => hsm a (by omega)), ⟨by simp, fun x hx => absurd hx (by simp), fun i hi => absurd hi (by simp)⟩, by decide, (fun j hj => by rw [h0 j (by omega), nib0 j hj]; rfl), hT12, fun i hi => (hQT i hi).of (fun a h1 h2 => hsm a (by omega))⟩, (fun k hk => by show gL12 k = _; rw [hfr12 k hk])⟩)
      · have hlt : k < 4 := n_nle (a := 4) (by decide) (by omega) c14
        refine lv_aload_n jx jb dX9_fresh_17 rfl (lv_at hl 0 rfl) ?_
        have m4 : gL12 63 = .inr (9, [.ref (ad 64), .ref (ad 65), .ref (ad 66), .ref (ad 67), .int 0, .ref (ad 68), .ref (ad 69), .ref (ad 70), .ref (ad 71), .ref (ad 72), .int (nI T), .ref (ad 73), .ref (ad 74), .ref (ad 75), .ref (ad 76), .ref (ad 77), .ref (ad 78), .ref (ad 79), .ref (ad 80), .int to, .ref (ad 81), .ref (ad 82)]) := hR12.2.1
        refine w_get X hW K9 (by omega) m4 9 (by decide) fl_X9_34 rfl dX9_fresh_18 ?_
        refine lv_iload_n jx jb dX9_fresh_21 rfl (lv_at hl 2 rfl) ?_
        refine lv_iconst (v := 0) jx jb dX9_fresh_22 (by decide) ?_
        have m5 : gL12 72 = .inl (cy 0, 4, .inl (qL12 72)) := hR12.2.2 72 (by decide) (by decide)
        refine w_ist X hW (by omega) m5 k rfl hlt (by decide) dX9_fresh_23 (fun H locs hW => ?_)
        obtain ⟨g_6, eg_6⟩ : ∃ zz, zz = va_up gL12 72 (.inl (cy 0, 4, .inl (upd (qL12 72) k 0))) := ⟨_, rfl⟩
        have hW : Wd G A js.heap (N, ad, g_6) H locs := by rw [eg_6]; exact hW
        obtain ⟨q_8, eq_8⟩ : ∃ zz, zz = va_up qL12 72 (upd (qL12 72) k 0) := ⟨_, rfl⟩
        have hR7 : MRaw cy N ad g_6 q_8 0 (nI T) to := by rw [eq_8]; exact hR12.put (by decide) (by decide) (fun k hk => by rw [eg_6, va_up_n hk]) (by rw [eg_6]; exact va_up_s)
        refine lv_iinc (v := nI (k + 1)) (lv' := [(2, .int (nI (k + 1))), (0, .ref (ad 63)), (1, .int (nI lg.length))]) jx jb dX9_fresh_24 hl (k := 2) rfl (show nI k + 1 = nI (k + 1) from nI_1 _) (by decide) rfl (fun ls hl => ?_)
        refine lv_goto (tgt := 12) jx jb dX9_fresh_27 (by decide) ?_
        exact ih12 (k + 1) q_8 g_6 _ _ _ hR7 (fun k hk => by show g_6 k = _; rw [eg_6, va_up_n (by omega), hfr12 k hk]) (by omega) (fun m hm => by rw [eq_8, va_up_s]; by_cases z : m = k; (rw [z, pk_us]); (rw [pk_un z]; exact h0 m (by omega))) (fun a ha => by rw [eq_8, va_up_n ha]; exact hsm a ha)  (by omega) hW (lv_sub hl [1, 2, 0] rfl)
  exact loop12 _ 0 q g_2 _ _ _ hR3 (fun k hk => by show g_2 k = _; rw [eg_2, va_up_n (by omega)]) (by omega) (fun m hm => absurd hm (by omega)) (fun a ha => rfl)  (Nat.lt_succ_self _) hW (lv_sub hl [2, 1, 0] rfl)

set_option maxHeartbeats 4000000 in
set_option maxRecDepth 100000 in
theorem c_mLogged {l : Launch} {G : va_G} {cy : Nat → ClassId} {N : Nat} {ad : Nat → Nat} {g : Nat → va_E} {M : M4} {lg : List Nat} {lr lt : Nat → Int32} {st T : Nat} {y : Nat → TT} {i what : Int32} (hMA : MAt cy N ad g M lg lr lt st T y) : RI l G cy (N, ad, g) yX9_logged cX9_logged 3 (some .int) (rmN 1) [.ref (ad 63), .int i, .int what] (tellV lg.length (gl lg) lr lt i what) := by
  refine RI.mk (by decide) (by first | rfl | exact bI_nar) (Nat.le_of_ble_eq_true rfl) ?_
  intro jp je js jm below meth jc A Q X hW ret ls hl
  have jx := X.hx
  have jb := X.hb
  have hl : lv_has ls 3 [(0, .ref (ad 63)), (1, .int i), (2, .int what)] := hl
  have X : Cx G cy jp js jm _ jc cX9_logged 3 RX9 A js.heap := X
  obtain ⟨q, to, hR, hok, hQ, hL, hst, hS4, hT12, hQT⟩ := id hMA
  have h83 : 83 ≤ N := hR.1
  have hl200 := hL.1
  refine lv_iload_n jx jb dX9_logged_0 rfl (lv_at hl 1 rfl) ?_
  refine lv_iconst (v := 0) jx jb dX9_logged_1 (by decide) ?_
  refine lv_aload_n jx jb dX9_logged_2 rfl (lv_at hl 0 rfl) ?_
  have m1 : g 63 = .inr (9, [.ref (ad 64), .ref (ad 65), .ref (ad 66), .ref (ad 67), .int (nI lg.length), .ref (ad 68), .ref (ad 69), .ref (ad 70), .ref (ad 71), .ref (ad 72), .int (nI T), .ref (ad 73), .ref (ad 74), .ref (ad 75), .ref (ad 76), .ref (ad 77), .ref (ad 78), .ref (ad 79), .ref (ad 80), .int to, .ref (ad 81), .ref (ad 82)]) := hR.2.1
  refine w_get X hW K9 (by omega) m1 4 (by decide) fl_X9_96 rfl dX9_logged_3 ?_
  refine lv_iconst (v := 1) jx jb dX9_logged_6 (by decide) ?_
  refine lv_isub jx jb dX9_logged_7 ?_
  refine w_rS (As := [.int i, .int 0, .int ((nI lg.length) - 1)]) X hW (c_in) ml_X9_68 mf_X9_in ⟨Nat.le_of_ble_eq_true rfl, Nat.le_of_ble_eq_true rfl⟩ hl.1 rfl (Nat.le_of_ble_eq_true rfl) ⟨Nat.le_of_ble_eq_true rfl, Nat.le_of_ble_eq_true rfl⟩ dX9_logged_8 (fun H locs hW => ?_)
  refine top_eq (y := bI (0 ≤ i ∧ i < nI lg.length)) (bI_iff (in_below (by omega))) ?_
  refine lv_if_ne (tgt := 16) jx jb dX9_logged_11 (by decide) (fun c11 => ?_) (fun c11 => ?_)
  · have hte := bI_n0.mp c11
    obtain ⟨j, hj, ej⟩ := i_below (by omega) hte
    obtain ⟨e1, e2, e3, e4⟩ := hL.2.2 j hj
    refine lv_iload_n jx jb dX9_logged_16 rfl (lv_at hl 2 rfl) ?_
    rcases sw_cases what 4 (by decide) with ⟨kS, hkS, eS⟩ | eS
    · rcases (show kS = 0 ∨ kS = 1 ∨ kS = 2 ∨ kS = 3 by omega) with rfl | rfl | rfl | rfl
      · refine lv_tableIn (tgt := 48) (off := 31) jx jb dX9_logged_17 (by rw [eS]; decide) (by rw [eS]; decide) (by rw [eS]; rfl) (by decide) ?_
        refine lv_aload_n jx jb dX9_logged_48 rfl (lv_at hl 0 rfl) ?_
        refine w_get X hW K9 (by omega) m1 5 (by decide) fl_X9_22 rfl dX9_logged_49 ?_
        refine lv_iload_n jx jb dX9_logged_52 rfl (lv_at hl 1 rfl) ?_
        have m2 : g 68 = .inl (cy 0, 200, .inl (q 68)) := hR.2.2 68 (by decide) (by decide)
        refine w_ild X hW (by omega) m2 j ej (by omega) (by decide) dX9_logged_53 ?_
        exact ret _ _ _ _ _ dX9_logged_54 hW (by unfold tellV; rw [if_pos hte, ej, i_cl (by omega), eS]; exact e1)
      · refine lv_tableIn (tgt := 55) (off := 38) jx jb dX9_logged_17 (by rw [eS]; decide) (by rw [eS]; decide) (by rw [eS]; rfl) (by decide) ?_
        refine lv_aload_n jx jb dX9_logged_55 rfl (lv_at hl 0 rfl) ?_
        refine w_get X hW K9 (by omega) m1 6 (by decide) fl_X9_25 rfl dX9_logged_56 ?_
        refine lv_iload_n jx jb dX9_logged_59 rfl (lv_at hl 1 rfl) ?_
        have m3 : g 69 = .inl (cy 0, 200, .inl (q 69)) := hR.2.2 69 (by decide) (by decide)
        refine w_ild X hW (by omega) m3 j ej (by omega) (by decide) dX9_logged_60 ?_
        exact ret _ _ _ _ _ dX9_logged_61 hW (by unfold tellV; rw [if_pos hte, ej, i_cl (by omega), eS]; exact e2)
      · refine lv_tableIn (tgt := 62) (off := 45) jx jb dX9_logged_17 (by rw [eS]; decide) (by rw [eS]; decide) (by rw [eS]; rfl) (by decide) ?_
        refine lv_aload_n jx jb dX9_logged_62 rfl (lv_at hl 0 rfl) ?_
        refine w_get X hW K9 (by omega) m1 7 (by decide) fl_X9_28 rfl dX9_logged_63 ?_
        refine lv_iload_n jx jb dX9_logged_66 rfl (lv_at hl 1 rfl) ?_
        have m4 : g 70 = .inl (cy 0, 200, .inl (q 70)) := hR.2.2 70 (by decide) (by decide)
        refine w_ild X hW (by omega) m4 j ej (by omega) (by decide) dX9_logged_67 ?_
        exact ret _ _ _ _ _ dX9_logged_68 hW (by unfold tellV; rw [if_pos hte, ej, i_cl (by omega), eS]; exact e3)
      · refine lv_tableIn (tgt := 69) (off := 52) jx jb dX9_logged_17 (by rw [eS]; decide) (by rw [eS]; decide) (by rw [eS]; rfl) (by decide) ?_
        refine lv_aload_n jx jb dX9_logged_69 rfl (lv_at hl 0 rfl) ?_
        refine w_get X hW K9 (by omega) m1 8 (by decide) fl_X9_31 rfl dX9_logged_70 ?_
        refine lv_iload_n jx jb dX9_logged_73 rfl (lv_at hl 1 rfl) ?_
        have m5 : g 71 = .inl (cy 0, 200, .inl (q 71)) := hR.2.2 71 (by decide) (by decide)
        refine w_ild X hW (by omega) m5 j ej (by omega) (by decide) dX9_logged_74 ?_
        exact ret _ _ _ _ _ dX9_logged_75 hW (by unfold tellV; rw [if_pos hte, ej, i_cl (by omega), eS]; exact e4)
    · refine lv_tableOut (tgt := 76) jx jb dX9_logged_17 eS (by decide) ?_
      refine lv_iconst (v := -1) jx jb dX9_logged_76 (by decide) ?_
      exact ret _ _ _ _ _ dX9_logged_77 hW (by unfold tellV; rw [if_pos hte, if_neg (show ¬ what = 0 from sw_out (k := 0) (by decide) eS (by decide)), if_neg (show ¬ what = 1 from sw_out (k := 1) (by decide) eS (by decide)), if_neg (show ¬ what = 2 from sw_out (k := 2) (by decide) eS (by decide)), if_neg (show ¬ what = 3 from sw_out (k := 3) (by decide) eS (by decide))])
  · refine lv_iconst (v := -1) jx jb dX9_logged_14 (by decide) ?_
    exact ret _ _ _ _ _ dX9_logged_15 hW (tell_no c11)

set_option maxHeartbeats 4000000 in
set_option maxRecDepth 100000 in
theorem c_mRegister {l : Launch} {G : va_G} {cy : Nat → ClassId} {N : Nat} {ad : Nat → Nat} {g : Nat → va_E} {M : M4} {lg : List Nat} {lr lt : Nat → Int32} {st T : Nat} {y : Nat → TT} {i : Int32} (hMA : MAt cy N ad g M lg lr lt st T y) : RI l G cy (N, ad, g) yX9_register cX9_register 2 (some .int) (rmN 1) [.ref (ad 63), .int i] (regV st i) := by
  refine RI.mk (by decide) (by first | rfl | exact bI_nar) (Nat.le_of_ble_eq_true rfl) ?_
  intro jp je js jm below meth jc A Q X hW ret ls hl
  have jx := X.hx
  have jb := X.hb
  have hl : lv_has ls 2 [(0, .ref (ad 63)), (1, .int i)] := hl
  have X : Cx G cy jp js jm _ jc cX9_register 2 RX9 A js.heap := X
  obtain ⟨q, to, hR, hok, hQ, hL, hst, hS4, hT12, hQT⟩ := id hMA
  have h83 : 83 ≤ N := hR.1
  have hl200 := hL.1
  refine lv_iload_n jx jb dX9_register_0 rfl (lv_at hl 1 rfl) ?_
  refine lv_iconst (v := 0) jx jb dX9_register_1 (by decide) ?_
  refine lv_iconst (v := 3) jx jb dX9_register_2 (by decide) ?_
  refine w_rS (As := [.int i, .int 0, .int 3]) X hW (c_in) ml_X9_68 mf_X9_in ⟨Nat.le_of_ble_eq_true rfl, Nat.le_of_ble_eq_true rfl⟩ hl.1 rfl (Nat.le_of_ble_eq_true rfl) ⟨Nat.le_of_ble_eq_true rfl, Nat.le_of_ble_eq_true rfl⟩ dX9_register_3 (fun H locs hW => ?_)
  refine top_eq (y := bI (0 ≤ i ∧ i < 4)) (bI_iff (in_below (n := 4) (by decide))) ?_
  refine lv_if_eq (tgt := 18) jx jb dX9_register_6 (by decide) (fun c6 => ?_) (fun c6 => ?_)
  · refine lv_iconst (v := -1) jx jb dX9_register_18 (by decide) ?_
    exact ret _ _ _ _ _ dX9_register_19 hW (by unfold regV; rw [if_neg (bI_0.mp c6)])
  · obtain ⟨j, hj, ej⟩ := i_below (n := 4) (by decide) (bI_n0.mp c6)
    refine lv_aload_n jx jb dX9_register_9 rfl (lv_at hl 0 rfl) ?_
    have m1 : g 63 = .inr (9, [.ref (ad 64), .ref (ad 65), .ref (ad 66), .ref (ad 67), .int (nI lg.length), .ref (ad 68), .ref (ad 69), .ref (ad 70), .ref (ad 71), .ref (ad 72), .int (nI T), .ref (ad 73), .ref (ad 74), .ref (ad 75), .ref (ad 76), .ref (ad 77), .ref (ad 78), .ref (ad 79), .ref (ad 80), .int to, .ref (ad 81), .ref (ad 82)]) := hR.2.1
    refine w_get X hW K9 (by omega) m1 9 (by decide) fl_X9_34 rfl dX9_register_10 ?_
    refine lv_iload_n jx jb dX9_register_13 rfl (lv_at hl 1 rfl) ?_
    have m2 : g 72 = .inl (cy 0, 4, .inl (q 72)) := hR.2.2 72 (by decide) (by decide)
    refine w_ild X hW (by omega) m2 j ej hj (by decide) dX9_register_14 ?_
    refine lv_goto (tgt := 19) jx jb dX9_register_15 (by decide) ?_
    exact ret _ _ _ _ _ dX9_register_19 hW (by unfold regV; rw [if_pos (bI_n0.mp c6), ej, i_cl (by omega)]; exact hS4 j hj)

theorem c_mReached2 {l : Launch} {G : va_G} {cy : Nat → ClassId} {N : Nat} {ad : Nat → Nat} {g : Nat → va_E} {M : M4} {lg : List Nat} {lr lt : Nat → Int32} {st T : Nat} {y : Nat → TT} (hMA : MAt cy N ad g M lg lr lt st T y) : MI l G cy (N, ad, g) yX9_reached cX9_reached 3 (some .int) (rmN 2) [.ref (ad 63)] (nA N ad (fun v g1 => v = mtq M (gl lg) lg.length ∧ MAt cy N ad g1 M lg lr lt st T y ∧ ∀ k, ¬ (63 ≤ k ∧ k < 83) → g1 k = g k)) := by
  obtain ⟨q, to, hR, hok, hQ, hL, hst, hS4, hT12, hQT⟩ := hMA
  intro sz
  refine Met.post (c_mReached hR hok hQ hL sz) ?_
  rintro r u ⟨h1, h2, h3, q1, tv, h4, h5, h6⟩
  exact ⟨h1, h2, h3, MAt.run h4 hok hQ hL hst hS4 hT12 hQT h5, h6⟩

set_option maxHeartbeats 4000000 in
set_option maxRecDepth 100000 in
theorem c_mNever {l : Launch} {G : va_G} {cy : Nat → ClassId} {N : Nat} {ad : Nat → Nat} {g : Nat → va_E} {M : M4} {lg : List Nat} {lr lt : Nat → Int32} {st T : Nat} {y : Nat → TT} (hMA : MAt cy N ad g M lg lr lt st T y) : MI l G cy (N, ad, g) yX9_never cX9_never 3 (some .int) (rmN 3) [.ref (ad 63)] (nA N ad (fun v g1 => v = abq M 24 &&& (mtq M (gl lg) lg.length ^^^ (-1)) ∧ MAt cy N ad g1 M lg lr lt st T y ∧ ∀ k, ¬ (63 ≤ k ∧ k < 83) → g1 k = g k)) := by
  refine NI.mk (by decide) (by intros; first | rfl | (simp_all; done)) (Nat.le_of_ble_eq_true rfl) ?_
  intro jp je js jm below meth jc A Q X hW ret ls hl
  have jx := X.hx
  have jb := X.hb
  have hl : lv_has ls 3 [(0, .ref (ad 63))] := hl
  have X : Cx G cy jp js jm _ jc cX9_never 3 RX9 A js.heap := X
  obtain ⟨q, to, hR, hok, hQ, hL, hst, hS4, hT12, hQT⟩ := id hMA
  have h83 : 83 ≤ N := hR.1
  have hl200 := hL.1
  refine lv_iconst (v := 0) jx jb dX9_never_0 (by decide) ?_
  refine lv_istore_n (lv' := [(1, .int 0), (0, .ref (ad 63))]) jx jb dX9_never_1 rfl hl (by decide) rfl (fun ls hl => ?_)
  refine lv_iconst (v := 0) jx jb dX9_never_2 (by decide) ?_
  refine lv_istore_n (lv' := [(2, .int 0), (1, .int 0), (0, .ref (ad 63))]) jx jb dX9_never_3 rfl hl (by decide) rfl (fun ls hl => ?_)
  have loop4 : ∀ (fuel4 : Nat) (b : Nat) (H : Heap) (locs : List Loc) (ls : Array Slot), (b ≤ 24) → 24 - b < fuel4 → Wd G A js.heap (N, ad, g) H locs → lv_has ls 3 [(0, .ref (ad 63)), (1, .int (abq M b)), (2, .int (nI b))] → W jp l je (rmN 3) js jm [.ref (ad 63)].toArray below meth jc H locs 0 0 Q (F0 jm 4 ls []) := by
    intro fuel4
    induction fuel4 with
    | zero => intro b H locs ls hb  hm4; exact absurd hm4 (Nat.not_lt_zero _)
    | succ fuel4 ih4 =>
      intro b H locs ls hb  hm4 hW hl
      refine lv_iload_n jx jb dX9_never_4 rfl (lv_at hl 2 rfl) ?_
      refine lv_bipush (v := 24) jx jb dX9_never_5 (by decide) ?_
      refine lv_icmp_ge (tgt := 34) jx jb dX9_never_7 (by decide) (fun c7 => ?_) (fun c7 => ?_)
      · refine lv_iload_n jx jb dX9_never_34 rfl (lv_at hl 1 rfl) ?_
        refine lv_aload_n jx jb dX9_never_35 rfl (lv_at hl 0 rfl) ?_
        have m2 : g 63 = .inr (9, [.ref (ad 64), .ref (ad 65), .ref (ad 66), .ref (ad 67), .int (nI lg.length), .ref (ad 68), .ref (ad 69), .ref (ad 70), .ref (ad 71), .ref (ad 72), .int (nI T), .ref (ad 73), .ref (ad 74), .ref (ad 75), .ref (ad 76), .ref (ad 77), .ref (ad 78), .ref (ad 79), .ref (ad 80), .int to, .ref (ad 81), .ref (ad 82)]) := hR.2.1
        refine w_nV (As := []) X hW (c_mReached hR hok hQ hL) (by omega) m2 rfl rfl ml_X9_133 mf_X9_reached ⟨Nat.le_of_ble_eq_true rfl, Nat.le_of_ble_eq_true rfl⟩ hl.1 rfl (Nat.le_of_ble_eq_true rfl) ⟨Nat.le_of_ble_eq_true rfl, Nat.le_of_ble_eq_true rfl⟩ dX9_never_36 (fun rr1 gR H locs hp hW => ?_)
        obtain ⟨er, qR, tR, hRR, hsR, frR⟩ := hp
        refine top_eq (y := mtq M (gl lg) lg.length) (er) ?_
        refine lv_iconst (v := -1) jx jb dX9_never_39 (by decide) ?_
        refine lv_ixor jx jb dX9_never_40 ?_
        refine lv_iand jx jb dX9_never_41 ?_
        exact ret _ _ _ _ _ _ dX9_never_42 hW ⟨(by have := n_le (a := 24) (by decide) (by omega) c7; rw [show b = 24 by omega]), MAt.run hRR hok hQ hL hst hS4 hT12 hQT hsR, (fun k hk => by show gR k = _; rw [frR k hk])⟩
      · have hlt : b < 24 := n_nle (a := 24) (by decide) (by omega) c7
        refine lv_iload_n jx jb dX9_never_10 rfl (lv_at hl 1 rfl) ?_
        refine lv_aload_n jx jb dX9_never_11 rfl (lv_at hl 0 rfl) ?_
        refine lv_iload_n jx jb dX9_never_12 rfl (lv_at hl 2 rfl) ?_
        have m3 : g 63 = .inr (9, [.ref (ad 64), .ref (ad 65), .ref (ad 66), .ref (ad 67), .int (nI lg.length), .ref (ad 68), .ref (ad 69), .ref (ad 70), .ref (ad 71), .ref (ad 72), .int (nI T), .ref (ad 73), .ref (ad 74), .ref (ad 75), .ref (ad 76), .ref (ad 77), .ref (ad 78), .ref (ad 79), .ref (ad 80), .int to, .ref (ad 81), .ref (ad 82)]) := hR.2.1
        refine w_rV (As := [.int (nI b)]) X hW (c_isThere hR hok.1 hQ.1) (by omega) m3 rfl rfl ml_X9_87 mf_X9_isThere ⟨Nat.le_of_ble_eq_true rfl, Nat.le_of_ble_eq_true rfl⟩ hl.1 rfl (Nat.le_of_ble_eq_true rfl) ⟨Nat.le_of_ble_eq_true rfl, Nat.le_of_ble_eq_true rfl⟩ dX9_never_13 (fun H locs hW => ?_)
        refine lv_if_eq (tgt := 25) jx jb dX9_never_16 (by decide) (fun c16 => ?_) (fun c16 => ?_)
        · refine lv_iconst (v := 0) jx jb dX9_never_25 (by decide) ?_
          refine lv_ior jx jb dX9_never_26 ?_
          refine top_eq (y := abq M (b + 1)) (by rw [show abq M (b + 1) = abq M b from if_neg (fun z => bI_0.mp c16 ((isB_nI hlt).mpr z)), or0]) ?_
          refine lv_istore_n (lv' := [(1, .int (abq M (b + 1))), (0, .ref (ad 63)), (2, .int (nI b))]) jx jb dX9_never_27 rfl hl (by decide) rfl (fun ls hl => ?_)
          refine lv_iinc (v := nI (b + 1)) (lv' := [(2, .int (nI (b + 1))), (1, .int (abq M (b + 1))), (0, .ref (ad 63))]) jx jb dX9_never_28 hl (k := 2) rfl (show nI b + 1 = nI (b + 1) from nI_1 _) (by decide) rfl (fun ls hl => ?_)
          refine lv_goto (tgt := 4) jx jb dX9_never_31 (by decide) ?_
          exact ih4 (b + 1)  _ _ _ (by omega)  (by omega) hW (lv_sub hl [2, 1, 0] rfl)
        · refine lv_iconst (v := 1) jx jb dX9_never_19 (by decide) ?_
          refine lv_iload_n jx jb dX9_never_20 rfl (lv_at hl 2 rfl) ?_
          refine lv_ishl jx jb dX9_never_21 ?_
          refine lv_goto (tgt := 26) jx jb dX9_never_22 (by decide) ?_
          refine lv_ior jx jb dX9_never_26 ?_
          refine top_eq (y := abq M (b + 1)) ((if_pos ((isB_nI hlt).mp (bI_n0.mp c16))).symm) ?_
          refine lv_istore_n (lv' := [(1, .int (abq M (b + 1))), (0, .ref (ad 63)), (2, .int (nI b))]) jx jb dX9_never_27 rfl hl (by decide) rfl (fun ls hl => ?_)
          refine lv_iinc (v := nI (b + 1)) (lv' := [(2, .int (nI (b + 1))), (1, .int (abq M (b + 1))), (0, .ref (ad 63))]) jx jb dX9_never_28 hl (k := 2) rfl (show nI b + 1 = nI (b + 1) from nI_1 _) (by decide) rfl (fun ls hl => ?_)
          refine lv_goto (tgt := 4) jx jb dX9_never_31 (by decide) ?_
          exact ih4 (b + 1)  _ _ _ (by omega)  (by omega) hW (lv_sub hl [2, 1, 0] rfl)
  exact loop4 _ 0  _ _ _ (by omega)  (Nat.lt_succ_self _) hW (lv_sub hl [2, 1, 0] rfl)

theorem c_mDiffers2 {l : Launch} {G : va_G} {cy : Nat → ClassId} {N : Nat} {ad : Nat → Nat} {g : Nat → va_E} {M : M4} {lg : List Nat} {lr lt : Nat → Int32} {st T : Nat} {y : Nat → TT} {i : Nat} (hMA : MAt cy N ad g M lg lr lt st T y) (hi : i < T) : MI l G cy (N, ad, g) yX9_differs cX9_differs 4 (some .int) (rmN 2) [.ref (ad 63), .int (nI i)] (nA N ad (fun v g1 => v = fdT M (y i) ∧ MAt cy N ad g1 M lg lr lt st T y ∧ ∀ k, ¬ (63 ≤ k ∧ k < 83) → g1 k = g k)) := by
  obtain ⟨q, to, hR, hok, hQ, hL, hst, hS4, hT12, hQT⟩ := id hMA
  intro sz
  refine Met.post (c_mDiffers hR hT12 hok hQ (hQT i hi).1 (hQT i hi).2.1 (hQT i hi).2.2.1 hi sz) ?_
  rintro r u ⟨h1, h2, h3, q1, tv, h4, h5, h6⟩
  exact ⟨h1, h2, h3, MAt.run h4 hok hQ hL hst hS4 hT12 hQT h5, h6⟩

theorem c_mDiffersNo2 {l : Launch} {G : va_G} {cy : Nat → ClassId} {N : Nat} {ad : Nat → Nat} {g : Nat → va_E} {M : M4} {lg : List Nat} {lr lt : Nat → Int32} {st T : Nat} {y : Nat → TT} {v : Int32} (hMA : MAt cy N ad g M lg lr lt st T y) (hno : ¬ (0 ≤ v ∧ v < nI T)) : RI l G cy (N, ad, g) yX9_differs cX9_differs 4 (some .int) (rmN 2) [.ref (ad 63), .int v] (-1) := by
  obtain ⟨q, to, hR, hok, hQ, hL, hst, hS4, hT12, hQT⟩ := id hMA
  exact c_mDiffersNo hR hT12 hno
theorem c_mAcceptNo2 {l : Launch} {G : va_G} {cy : Nat → ClassId} {N : Nat} {ad : Nat → Nat} {g : Nat → va_E} {M : M4} {lg : List Nat} {lr lt : Nat → Int32} {st T : Nat} {y : Nat → TT} {v : Int32} (hMA : MAt cy N ad g M lg lr lt st T y) (hno : ¬ (0 ≤ v ∧ v < nI T)) : RI l G cy (N, ad, g) yX9_accept cX9_accept 3 (some .boolean) (rmN 2) [.ref (ad 63), .int v] 0 := by
  obtain ⟨q, to, hR, hok, hQ, hL, hst, hS4, hT12, hQT⟩ := id hMA
  exact c_mAcceptNo hR hT12 hno

set_option maxHeartbeats 4000000 in
set_option maxRecDepth 100000 in
theorem c_mToldNo {l : Launch} {G : va_G} {cy : Nat → ClassId} {N : Nat} {ad : Nat → Nat} {g : Nat → va_E} {M : M4} {lg : List Nat} {lr lt : Nat → Int32} {st T : Nat} {y : Nat → TT} {v what : Int32} (hMA : MAt cy N ad g M lg lr lt st T y) (hno : ¬ (0 ≤ v ∧ v < nI T)) : RI l G cy (N, ad, g) yX9_told cX9_told 3 (some .int) (rmN 3) [.ref (ad 63), .int v, .int what] (-1) := by
  refine RI.mk (by decide) (by first | rfl | exact bI_nar) (Nat.le_of_ble_eq_true rfl) ?_
  intro jp je js jm below meth jc A Q X hW ret ls hl
  have jx := X.hx
  have jb := X.hb
  have hl : lv_has ls 3 [(0, .ref (ad 63)), (1, .int v), (2, .int what)] := hl
  have X : Cx G cy jp js jm _ jc cX9_told 3 RX9 A js.heap := X
  obtain ⟨q, to, hR, hok, hQ, hL, hst, hS4, hT12, hQT⟩ := id hMA
  have h83 : 83 ≤ N := hR.1
  have hl200 := hL.1
  refine lv_aload_n jx jb dX9_told_0 rfl (lv_at hl 0 rfl) ?_
  refine lv_iload_n jx jb dX9_told_1 rfl (lv_at hl 1 rfl) ?_
  have m1 : g 63 = .inr (9, [.ref (ad 64), .ref (ad 65), .ref (ad 66), .ref (ad 67), .int (nI lg.length), .ref (ad 68), .ref (ad 69), .ref (ad 70), .ref (ad 71), .ref (ad 72), .int (nI T), .ref (ad 73), .ref (ad 74), .ref (ad 75), .ref (ad 76), .ref (ad 77), .ref (ad 78), .ref (ad 79), .ref (ad 80), .int to, .ref (ad 81), .ref (ad 82)]) := hR.2.1
  refine w_rV (As := [.int v]) X hW (c_isTest hR hT12) (by omega) m1 rfl rfl ml_X9_121 mf_X9_isTest ⟨Nat.le_of_ble_eq_true rfl, Nat.le_of_ble_eq_true rfl⟩ hl.1 rfl (Nat.le_of_ble_eq_true rfl) ⟨Nat.le_of_ble_eq_true rfl, Nat.le_of_ble_eq_true rfl⟩ dX9_told_2 (fun H locs hW => ?_)
  refine lv_if_ne (tgt := 10) jx jb dX9_told_5 (by decide) (fun c5 => ?_) (fun c5 => ?_)
  · exact absurd (bI_n0.mp c5) hno
  · refine lv_iconst (v := -1) jx jb dX9_told_8 (by decide) ?_
    exact ret _ _ _ _ _ dX9_told_9 hW rfl

set_option maxHeartbeats 4000000 in
set_option maxRecDepth 100000 in
theorem c_mTold {l : Launch} {G : va_G} {cy : Nat → ClassId} {N : Nat} {ad : Nat → Nat} {g : Nat → va_E} {M : M4} {lg : List Nat} {lr lt : Nat → Int32} {st T : Nat} {y : Nat → TT} {i : Nat} {what : Int32} (hMA : MAt cy N ad g M lg lr lt st T y) (hiT : i < T) : MI l G cy (N, ad, g) yX9_told cX9_told 3 (some .int) (rmN 3) [.ref (ad 63), .int (nI i), .int what] (nA N ad (fun v g1 => v = toldV M (y i) what ∧ MAt cy N ad g1 M lg lr lt st T y ∧ ∀ k, ¬ (63 ≤ k ∧ k < 83) → g1 k = g k)) := by
  refine NI.mk (by decide) (by intros; first | rfl | (simp_all; done)) (Nat.le_of_ble_eq_true rfl) ?_
  intro jp je js jm below meth jc A Q X hW ret ls hl
  have jx := X.hx
  have jb := X.hb
  have hl : lv_has ls 3 [(0, .ref (ad 63)), (1, .int (nI i)), (2, .int what)] := hl
  have X : Cx G cy jp js jm _ jc cX9_told 3 RX9 A js.heap := X
  obtain ⟨q, to, hR, hok, hQ, hL, hst, hS4, hT12, hQT⟩ := id hMA
  have h83 : 83 ≤ N := hR.1
  have hl200 := hL.1
  obtain ⟨t1, t2, t3, t4, t5, t6, t7⟩ := hQT i hiT
  refine lv_aload_n jx jb dX9_told_0 rfl (lv_at hl 0 rfl) ?_
  refine lv_iload_n jx jb dX9_told_1 rfl (lv_at hl 1 rfl) ?_
  have m1 : g 63 = .inr (9, [.ref (ad 64), .ref (ad 65), .ref (ad 66), .ref (ad 67), .int (nI lg.length), .ref (ad 68), .ref (ad 69), .ref (ad 70), .ref (ad 71), .ref (ad 72), .int (nI T), .ref (ad 73), .ref (ad 74), .ref (ad 75), .ref (ad 76), .ref (ad 77), .ref (ad 78), .ref (ad 79), .ref (ad 80), .int to, .ref (ad 81), .ref (ad 82)]) := hR.2.1
  refine w_rV (As := [.int (nI i)]) X hW (c_isTest hR hT12) (by omega) m1 rfl rfl ml_X9_121 mf_X9_isTest ⟨Nat.le_of_ble_eq_true rfl, Nat.le_of_ble_eq_true rfl⟩ hl.1 rfl (Nat.le_of_ble_eq_true rfl) ⟨Nat.le_of_ble_eq_true rfl, Nat.le_of_ble_eq_true rfl⟩ dX9_told_2 (fun H locs hW => ?_)
  refine lv_if_ne (tgt := 10) jx jb dX9_told_5 (by decide) (fun c5 => ?_) (fun c5 => ?_)
  · refine lv_iload_n jx jb dX9_told_10 rfl (lv_at hl 2 rfl) ?_
    rcases sw_cases what 6 (by decide) with ⟨kS, hkS, eS⟩ | eS
    · rcases (show kS = 0 ∨ kS = 1 ∨ kS = 2 ∨ kS = 3 ∨ kS = 4 ∨ kS = 5 by omega) with rfl | rfl | rfl | rfl | rfl | rfl
      · refine lv_tableIn (tgt := 48) (off := 37) jx jb dX9_told_11 (by rw [eS]; decide) (by rw [eS]; decide) (by rw [eS]; rfl) (by decide) ?_
        refine lv_aload_n jx jb dX9_told_48 rfl (lv_at hl 0 rfl) ?_
        refine w_get X hW K9 (by omega) m1 11 (by decide) fl_X9_37 rfl dX9_told_49 ?_
        refine lv_iload_n jx jb dX9_told_52 rfl (lv_at hl 1 rfl) ?_
        have m2 : g 73 = .inl (cy 0, 12, .inl (q 73)) := hR.2.2 73 (by decide) (by decide)
        refine w_ild X hW (by omega) m2 i rfl (by omega) (by decide) dX9_told_53 ?_
        exact ret _ _ _ _ _ _ dX9_told_54 hW ⟨(by unfold toldV; rw [eS]; exact t2), hMA, fun k hk => rfl⟩
      · refine lv_tableIn (tgt := 55) (off := 44) jx jb dX9_told_11 (by rw [eS]; decide) (by rw [eS]; decide) (by rw [eS]; rfl) (by decide) ?_
        refine lv_aload_n jx jb dX9_told_55 rfl (lv_at hl 0 rfl) ?_
        refine w_get X hW K9 (by omega) m1 16 (by decide) fl_X9_52 rfl dX9_told_56 ?_
        refine lv_iload_n jx jb dX9_told_59 rfl (lv_at hl 1 rfl) ?_
        have m3 : g 78 = .inl (cy 1, 12, .inl (q 78)) := hR.2.2 78 (by decide) (by decide)
        refine w_zld X hW (by omega) m3 i rfl (by omega) (by decide) dX9_told_60 ?_
        refine top_eq (y := bI ((y i).2.2.2.1 = true)) (t5) ?_
        refine lv_if_eq (tgt := 68) jx jb dX9_told_61 (by decide) (fun c61 => ?_) (fun c61 => ?_)
        · refine lv_iconst (v := 0) jx jb dX9_told_68 (by decide) ?_
          exact ret _ _ _ _ _ _ dX9_told_69 hW ⟨(by unfold toldV; rw [eS]; exact bI_b0 c61), hMA, fun k hk => rfl⟩
        · refine lv_iconst (v := 1) jx jb dX9_told_64 (by decide) ?_
          refine lv_goto (tgt := 69) jx jb dX9_told_65 (by decide) ?_
          exact ret _ _ _ _ _ _ dX9_told_69 hW ⟨(by unfold toldV; rw [eS]; exact bI_b1 c61), hMA, fun k hk => rfl⟩
      · refine lv_tableIn (tgt := 70) (off := 59) jx jb dX9_told_11 (by rw [eS]; decide) (by rw [eS]; decide) (by rw [eS]; rfl) (by decide) ?_
        refine lv_aload_n jx jb dX9_told_70 rfl (lv_at hl 0 rfl) ?_
        refine w_get X hW K9 (by omega) m1 17 (by decide) fl_X9_56 rfl dX9_told_71 ?_
        refine lv_iload_n jx jb dX9_told_74 rfl (lv_at hl 1 rfl) ?_
        have m4 : g 79 = .inl (cy 1, 12, .inl (q 79)) := hR.2.2 79 (by decide) (by decide)
        refine w_zld X hW (by omega) m4 i rfl (by omega) (by decide) dX9_told_75 ?_
        refine top_eq (y := bI ((y i).2.2.2.2 = true)) (t6) ?_
        refine lv_if_eq (tgt := 83) jx jb dX9_told_76 (by decide) (fun c76 => ?_) (fun c76 => ?_)
        · refine lv_iconst (v := 0) jx jb dX9_told_83 (by decide) ?_
          exact ret _ _ _ _ _ _ dX9_told_84 hW ⟨(by unfold toldV; rw [eS]; exact bI_b0 c76), hMA, fun k hk => rfl⟩
        · refine lv_iconst (v := 1) jx jb dX9_told_79 (by decide) ?_
          refine lv_goto (tgt := 84) jx jb dX9_told_80 (by decide) ?_
          exact ret _ _ _ _ _ _ dX9_told_84 hW ⟨(by unfold toldV; rw [eS]; exact bI_b1 c76), hMA, fun k hk => rfl⟩
      · refine lv_tableIn (tgt := 85) (off := 74) jx jb dX9_told_11 (by rw [eS]; decide) (by rw [eS]; decide) (by rw [eS]; rfl) (by decide) ?_
        refine lv_aload_n jx jb dX9_told_85 rfl (lv_at hl 0 rfl) ?_
        refine lv_iload_n jx jb dX9_told_86 rfl (lv_at hl 1 rfl) ?_
        refine w_nV (As := [.int (nI i)]) X hW (c_mDiffers2 hMA hiT) (by omega) m1 rfl rfl ml_X9_124 mf_X9_differs ⟨Nat.le_of_ble_eq_true rfl, Nat.le_of_ble_eq_true rfl⟩ hl.1 rfl (Nat.le_of_ble_eq_true rfl) ⟨Nat.le_of_ble_eq_true rfl, Nat.le_of_ble_eq_true rfl⟩ dX9_told_87 (fun rD gD H locs hp hW => ?_)
        obtain ⟨er, hMD, frD⟩ := hp
        refine top_eq (y := fdT M (y i)) (er) ?_
        refine lv_iconst (v := -1) jx jb dX9_told_90 (by decide) ?_
        refine lv_icmp_eq (tgt := 98) jx jb dX9_told_91 (by decide) (fun c91 => ?_) (fun c91 => ?_)
        · refine lv_iconst (v := 0) jx jb dX9_told_98 (by decide) ?_
          exact ret _ _ _ _ _ _ dX9_told_99 hW ⟨(by unfold toldV; rw [eS]; exact bI_not c91), hMD, frD⟩
        · refine lv_iconst (v := 1) jx jb dX9_told_94 (by decide) ?_
          refine lv_goto (tgt := 99) jx jb dX9_told_95 (by decide) ?_
          exact ret _ _ _ _ _ _ dX9_told_99 hW ⟨(by unfold toldV; rw [eS]; exact bI_yes c91), hMD, frD⟩
      · refine lv_tableIn (tgt := 100) (off := 89) jx jb dX9_told_11 (by rw [eS]; decide) (by rw [eS]; decide) (by rw [eS]; rfl) (by decide) ?_
        refine lv_aload_n jx jb dX9_told_100 rfl (lv_at hl 0 rfl) ?_
        refine w_get X hW K9 (by omega) m1 15 (by decide) fl_X9_49 rfl dX9_told_101 ?_
        refine lv_iload_n jx jb dX9_told_104 rfl (lv_at hl 1 rfl) ?_
        have m5 : g 77 = .inl (cy 0, 12, .inl (q 77)) := hR.2.2 77 (by decide) (by decide)
        refine w_ild X hW (by omega) m5 i rfl (by omega) (by decide) dX9_told_105 ?_
        exact ret _ _ _ _ _ _ dX9_told_106 hW ⟨(by unfold toldV; rw [eS]; exact t4), hMA, fun k hk => rfl⟩
      · refine lv_tableIn (tgt := 107) (off := 96) jx jb dX9_told_11 (by rw [eS]; decide) (by rw [eS]; decide) (by rw [eS]; rfl) (by decide) ?_
        refine lv_aload_n jx jb dX9_told_107 rfl (lv_at hl 0 rfl) ?_
        refine lv_iload_n jx jb dX9_told_108 rfl (lv_at hl 1 rfl) ?_
        refine w_nV (As := [.int (nI i)]) X hW (c_mMeets hR hok hQ t1 t2 (by omega)) (by omega) m1 rfl rfl ml_X9_127 mf_X9_meets ⟨Nat.le_of_ble_eq_true rfl, Nat.le_of_ble_eq_true rfl⟩ hl.1 rfl (Nat.le_of_ble_eq_true rfl) ⟨Nat.le_of_ble_eq_true rfl, Nat.le_of_ble_eq_true rfl⟩ dX9_told_109 (fun rD gD H locs hp hW => ?_)
        obtain ⟨er, qD, tD, hRD, hsD, frD⟩ := hp
        refine top_eq (y := mtT M (y i)) (er) ?_
        exact ret _ _ _ _ _ _ dX9_told_112 hW ⟨(by unfold toldV; rw [eS]; rfl), MAt.run hRD hok hQ hL hst hS4 hT12 hQT hsD, frD⟩
    · refine lv_tableOut (tgt := 113) jx jb dX9_told_11 eS (by decide) ?_
      refine lv_iconst (v := -1) jx jb dX9_told_113 (by decide) ?_
      exact ret _ _ _ _ _ _ dX9_told_114 hW ⟨by unfold toldV; rw [if_neg (show ¬ what = 0 from sw_out (k := 0) (by decide) eS (by decide)), if_neg (show ¬ what = 1 from sw_out (k := 1) (by decide) eS (by decide)), if_neg (show ¬ what = 2 from sw_out (k := 2) (by decide) eS (by decide)), if_neg (show ¬ what = 3 from sw_out (k := 3) (by decide) eS (by decide)), if_neg (show ¬ what = 4 from sw_out (k := 4) (by decide) eS (by decide)), if_neg (show ¬ what = 5 from sw_out (k := 5) (by decide) eS (by decide))], hMA, fun k hk => rfl⟩
  · exact absurd (c5.symm.trans (bel_t hiT (by omega))) (by decide)

set_option maxHeartbeats 4000000 in
set_option maxRecDepth 100000 in
theorem c_mRowNo {l : Launch} {G : va_G} {cy : Nat → ClassId} {N : Nat} {ad : Nat → Nat} {g : Nat → va_E} {M : M4} {lg : List Nat} {lr lt : Nat → Int32} {st T : Nat} {y : Nat → TT} {v k what : Int32} (hMA : MAt cy N ad g M lg lr lt st T y) (hno : ¬ (0 ≤ v ∧ v < nI T)) : RI l G cy (N, ad, g) yX9_row cX9_row 5 (some .int) (rmN 3) [.ref (ad 63), .int v, .int k, .int what] (-1) := by
  refine RI.mk (by decide) (by first | rfl | exact bI_nar) (Nat.le_of_ble_eq_true rfl) ?_
  intro jp je js jm below meth jc A Q X hW ret ls hl
  have jx := X.hx
  have jb := X.hb
  have hl : lv_has ls 5 [(0, .ref (ad 63)), (1, .int v), (2, .int k), (3, .int what)] := hl
  have X : Cx G cy jp js jm _ jc cX9_row 5 RX9 A js.heap := X
  obtain ⟨q, to, hR, hok, hQ, hL, hst, hS4, hT12, hQT⟩ := id hMA
  have h83 : 83 ≤ N := hR.1
  have hl200 := hL.1
  refine lv_aload_n jx jb dX9_row_0 rfl (lv_at hl 0 rfl) ?_
  refine lv_iload_n jx jb dX9_row_1 rfl (lv_at hl 1 rfl) ?_
  have m1 : g 63 = .inr (9, [.ref (ad 64), .ref (ad 65), .ref (ad 66), .ref (ad 67), .int (nI lg.length), .ref (ad 68), .ref (ad 69), .ref (ad 70), .ref (ad 71), .ref (ad 72), .int (nI T), .ref (ad 73), .ref (ad 74), .ref (ad 75), .ref (ad 76), .ref (ad 77), .ref (ad 78), .ref (ad 79), .ref (ad 80), .int to, .ref (ad 81), .ref (ad 82)]) := hR.2.1
  refine w_rV (As := [.int v]) X hW (c_isTest hR hT12) (by omega) m1 rfl rfl ml_X9_121 mf_X9_isTest ⟨Nat.le_of_ble_eq_true rfl, Nat.le_of_ble_eq_true rfl⟩ hl.1 rfl (Nat.le_of_ble_eq_true rfl) ⟨Nat.le_of_ble_eq_true rfl, Nat.le_of_ble_eq_true rfl⟩ dX9_row_2 (fun H locs hW => ?_)
  refine lv_if_eq (tgt := 24) jx jb dX9_row_5 (by decide) (fun c5 => ?_) (fun c5 => ?_)
  · refine lv_iconst (v := -1) jx jb dX9_row_24 (by decide) ?_
    exact ret _ _ _ _ _ dX9_row_25 hW rfl
  · exact absurd (bI_n0.mp c5) hno

set_option maxHeartbeats 4000000 in
set_option maxRecDepth 100000 in
theorem c_mRow {l : Launch} {G : va_G} {cy : Nat → ClassId} {N : Nat} {ad : Nat → Nat} {g : Nat → va_E} {M : M4} {lg : List Nat} {lr lt : Nat → Int32} {st T : Nat} {y : Nat → TT} {i : Nat} {k what : Int32} (hMA : MAt cy N ad g M lg lr lt st T y) (hiT : i < T) : MI l G cy (N, ad, g) yX9_row cX9_row 5 (some .int) (rmN 3) [.ref (ad 63), .int (nI i), .int k, .int what] (nA N ad (fun v g1 => v = rowV M (y i) k what ∧ MAt cy N ad g1 M lg lr lt st T y ∧ ∀ k, ¬ (63 ≤ k ∧ k < 83) → g1 k = g k)) := by
  refine NI.mk (by decide) (by intros; first | rfl | (simp_all; done)) (Nat.le_of_ble_eq_true rfl) ?_
  intro jp je js jm below meth jc A Q X hW ret ls hl
  have jx := X.hx
  have jb := X.hb
  have hl : lv_has ls 5 [(0, .ref (ad 63)), (1, .int (nI i)), (2, .int k), (3, .int what)] := hl
  have X : Cx G cy jp js jm _ jc cX9_row 5 RX9 A js.heap := X
  obtain ⟨q, to, hR, hok, hQ, hL, hst, hS4, hT12, hQT⟩ := id hMA
  have h83 : 83 ≤ N := hR.1
  have hl200 := hL.1
  obtain ⟨t1, t2, t3, t4, t5, t6, t7⟩ := hQT i hiT
  have hr200 := t1.1
  refine lv_aload_n jx jb dX9_row_0 rfl (lv_at hl 0 rfl) ?_
  refine lv_iload_n jx jb dX9_row_1 rfl (lv_at hl 1 rfl) ?_
  have m1 : g 63 = .inr (9, [.ref (ad 64), .ref (ad 65), .ref (ad 66), .ref (ad 67), .int (nI lg.length), .ref (ad 68), .ref (ad 69), .ref (ad 70), .ref (ad 71), .ref (ad 72), .int (nI T), .ref (ad 73), .ref (ad 74), .ref (ad 75), .ref (ad 76), .ref (ad 77), .ref (ad 78), .ref (ad 79), .ref (ad 80), .int to, .ref (ad 81), .ref (ad 82)]) := hR.2.1
  refine w_rV (As := [.int (nI i)]) X hW (c_isTest hR hT12) (by omega) m1 rfl rfl ml_X9_121 mf_X9_isTest ⟨Nat.le_of_ble_eq_true rfl, Nat.le_of_ble_eq_true rfl⟩ hl.1 rfl (Nat.le_of_ble_eq_true rfl) ⟨Nat.le_of_ble_eq_true rfl, Nat.le_of_ble_eq_true rfl⟩ dX9_row_2 (fun H locs hW => ?_)
  refine lv_if_eq (tgt := 24) jx jb dX9_row_5 (by decide) (fun c5 => ?_) (fun c5 => ?_)
  · exact absurd (c5.symm.trans (bel_t hiT (by omega))) (by decide)
  · refine lv_iload_n jx jb dX9_row_8 rfl (lv_at hl 2 rfl) ?_
    refine lv_iconst (v := 0) jx jb dX9_row_9 (by decide) ?_
    refine lv_aload_n jx jb dX9_row_10 rfl (lv_at hl 0 rfl) ?_
    refine w_get X hW K9 (by omega) m1 11 (by decide) fl_X9_37 rfl dX9_row_11 ?_
    refine lv_iload_n jx jb dX9_row_14 rfl (lv_at hl 1 rfl) ?_
    have m2 : g 73 = .inl (cy 0, 12, .inl (q 73)) := hR.2.2 73 (by decide) (by decide)
    refine w_ild X hW (by omega) m2 i rfl (by omega) (by decide) dX9_row_15 ?_
    refine top_eq (y := nI (y i).1.length) (t2) ?_
    refine lv_iconst (v := 1) jx jb dX9_row_16 (by decide) ?_
    refine lv_isub jx jb dX9_row_17 ?_
    refine w_rS (As := [.int k, .int 0, .int ((nI (y i).1.length) - 1)]) X hW (c_in) ml_X9_68 mf_X9_in ⟨Nat.le_of_ble_eq_true rfl, Nat.le_of_ble_eq_true rfl⟩ hl.1 rfl (Nat.le_of_ble_eq_true rfl) ⟨Nat.le_of_ble_eq_true rfl, Nat.le_of_ble_eq_true rfl⟩ dX9_row_18 (fun H locs hW => ?_)
    refine top_eq (y := bI (0 ≤ k ∧ k < nI (y i).1.length)) (bI_iff (in_below (by omega))) ?_
    refine lv_if_ne (tgt := 26) jx jb dX9_row_21 (by decide) (fun c21 => ?_) (fun c21 => ?_)
    · have hbe := bI_n0.mp c21
      obtain ⟨m, hm, em⟩ := i_below (by omega) hbe
      obtain ⟨u1, u2⟩ := t1.2.2 m hm
      refine lv_sipush (v := 200) jx jb dX9_row_26 (by decide) ?_
      refine lv_iload_n jx jb dX9_row_29 rfl (lv_at hl 1 rfl) ?_
      refine lv_imul jx jb dX9_row_30 ?_
      refine top_eq (y := nI (200 * i)) (by rw [show (200 : Int32) = nI 200 from rfl, pk_mul]) ?_
      refine lv_iload_n jx jb dX9_row_31 rfl (lv_at hl 2 rfl) ?_
      refine lv_iadd jx jb dX9_row_32 ?_
      refine top_eq (y := nI (200 * i + m)) (by rw [em, nI_add]) ?_
      refine lv_istore (lv' := [(4, .int (nI (200 * i + m))), (0, .ref (ad 63)), (1, .int (nI i)), (2, .int k), (3, .int what)]) jx jb dX9_row_33 hl (by decide) rfl (fun ls hl => ?_)
      refine lv_iload_n jx jb dX9_row_35 rfl (lv_at hl 4 rfl) ?_
      rcases sw_cases what 4 (by decide) with ⟨kS, hkS, eS⟩ | eS
      · rcases (show kS = 0 ∨ kS = 1 ∨ kS = 2 ∨ kS = 3 by omega) with rfl | rfl | rfl | rfl
        · refine lv_tableIn (tgt := 68) (off := 32) jx jb dX9_row_36 (by rw [eS]; decide) (by rw [eS]; decide) (by rw [eS]; rfl) (by decide) ?_
          refine lv_aload_n jx jb dX9_row_68 rfl (lv_at hl 1 rfl) ?_
          refine w_get X hW K9 (by omega) m1 12 (by decide) fl_X9_40 rfl dX9_row_69 ?_
          refine lv_iload jx jb dX9_row_72 (lv_at hl 0 rfl) ?_
          have m3 : g 74 = .inl (cy 0, 2400, .inl (q 74)) := hR.2.2 74 (by decide) (by decide)
          refine w_ild X hW (by omega) m3 (200 * i + m) rfl (by omega) (by decide) dX9_row_74 ?_
          exact ret _ _ _ _ _ _ dX9_row_75 hW ⟨(by unfold rowV; rw [if_pos hbe, em, i_cl (by omega), eS]; exact u1), hMA, fun k hk => rfl⟩
        · refine lv_tableIn (tgt := 76) (off := 40) jx jb dX9_row_36 (by rw [eS]; decide) (by rw [eS]; decide) (by rw [eS]; rfl) (by decide) ?_
          refine lv_aload_n jx jb dX9_row_76 rfl (lv_at hl 1 rfl) ?_
          refine w_get X hW K9 (by omega) m1 13 (by decide) fl_X9_43 rfl dX9_row_77 ?_
          refine lv_iload jx jb dX9_row_80 (lv_at hl 0 rfl) ?_
          have m4 : g 75 = .inl (cy 0, 2400, .inl (q 75)) := hR.2.2 75 (by decide) (by decide)
          refine w_ild X hW (by omega) m4 (200 * i + m) rfl (by omega) (by decide) dX9_row_82 ?_
          exact ret _ _ _ _ _ _ dX9_row_83 hW ⟨(by unfold rowV; rw [if_pos hbe, em, i_cl (by omega), eS]; exact u2), hMA, fun k hk => rfl⟩
        · refine lv_tableIn (tgt := 84) (off := 48) jx jb dX9_row_36 (by rw [eS]; decide) (by rw [eS]; decide) (by rw [eS]; rfl) (by decide) ?_
          refine lv_aload_n jx jb dX9_row_84 rfl (lv_at hl 1 rfl) ?_
          refine w_get X hW K9 (by omega) m1 14 (by decide) fl_X9_46 rfl dX9_row_85 ?_
          refine lv_iload jx jb dX9_row_88 (lv_at hl 0 rfl) ?_
          have m5 : g 76 = .inl (cy 0, 2400, .inl (q 76)) := hR.2.2 76 (by decide) (by decide)
          refine w_ild X hW (by omega) m5 (200 * i + m) rfl (by omega) (by decide) dX9_row_90 ?_
          exact ret _ _ _ _ _ _ dX9_row_91 hW ⟨(by unfold rowV; rw [if_pos hbe, em, i_cl (by omega), eS]; exact t3 m hm), hMA, fun k hk => rfl⟩
        · refine lv_tableIn (tgt := 92) (off := 56) jx jb dX9_row_36 (by rw [eS]; decide) (by rw [eS]; decide) (by rw [eS]; rfl) (by decide) ?_
          refine lv_aload_n jx jb dX9_row_92 rfl (lv_at hl 1 rfl) ?_
          refine lv_iload_n jx jb dX9_row_93 rfl (lv_at hl 2 rfl) ?_
          refine lv_iload_n jx jb dX9_row_94 rfl (lv_at hl 3 rfl) ?_
          refine top_eq (y := nI m) em ?_
          refine w_nV (As := [.int (nI i), .int (nI m)]) X hW (c_givesNow hR hok hQ t1 (by omega) hm) (by omega) m1 rfl rfl ml_X9_130 mf_X9_givesNow ⟨Nat.le_of_ble_eq_true rfl, Nat.le_of_ble_eq_true rfl⟩ hl.1 rfl (Nat.le_of_ble_eq_true rfl) ⟨Nat.le_of_ble_eq_true rfl, Nat.le_of_ble_eq_true rfl⟩ dX9_row_95 (fun rD gD H locs hp hW => ?_)
          obtain ⟨er, qD, tD, hRD, hsD, frD⟩ := hp
          refine top_eq (y := rsq M (gl (y i).1) 0 m) (er) ?_
          exact ret _ _ _ _ _ _ dX9_row_98 hW ⟨(by unfold rowV; rw [if_pos hbe, em, i_cl (by omega), eS]; exact rfl), MAt.run hRD hok hQ hL hst hS4 hT12 hQT hsD, frD⟩
      · refine lv_tableOut (tgt := 99) jx jb dX9_row_36 eS (by decide) ?_
        refine lv_iconst (v := -1) jx jb dX9_row_99 (by decide) ?_
        exact ret _ _ _ _ _ _ dX9_row_100 hW ⟨by unfold rowV; rw [if_pos hbe, if_neg (show ¬ what = 0 from sw_out (k := 0) (by decide) eS (by decide)), if_neg (show ¬ what = 1 from sw_out (k := 1) (by decide) eS (by decide)), if_neg (show ¬ what = 2 from sw_out (k := 2) (by decide) eS (by decide)), if_neg (show ¬ what = 3 from sw_out (k := 3) (by decide) eS (by decide))], hMA, fun k hk => rfl⟩
    · refine lv_iconst (v := -1) jx jb dX9_row_24 (by decide) ?_
      exact ret _ _ _ _ _ _ dX9_row_25 hW ⟨by unfold rowV; rw [if_neg (bI_0.mp c21)], hMA, fun k hk => rfl⟩
