/-- the component: the object 0, the machine, the log, the suite, the replay, the shortener -/
def XAt (cy : Nat → ClassId) (N : Nat) (ad : Nat → Nat) (g : Nat → va_E) (M : M4) (lg : List Nat) (lr lt : Nat → Int32) (st T : Nat) (p : Nat → Nat) (x : Nat → TT) : Prop := g 0 = .inr (8, [.ref (ad 1), .ref (ad 4), .ref (ad 9), .ref (ad 60), .ref (ad 62)]) ∧ MachAt cy N ad g M ∧ (∃ fc, LogAt cy N ad g lg.length fc lr lt st ∧ (∀ i, i < lg.length → fc i = nI (gl lg i)) ∧ ∀ x, x ∈ lg → x < 96) ∧ SuAt cy N ad g T p x ∧ (∃ psz pf mt lt, RepAt cy N ad g psz pf mt lt) ∧ ∃ w0 w1, g 62 = .inr (6, [.ref (ad 1), .int w0, .int w1])
theorem XAt.fr {cy : Nat → ClassId} {N : Nat} {ad : Nat → Nat} {g g' : Nat → va_E} {M : M4} {lg : List Nat} {lr lt : Nat → Int32} {st T : Nat} {p : Nat → Nat} {x : Nat → TT} (h : XAt cy N ad g M lg lr lt st T p x) (h1 : ∀ k, k < 63 ∨ 83 ≤ k → g' k = g k) : XAt cy N ad g' M lg lr lt st T p x := by
  obtain ⟨a, b, ⟨fc, c1, c2, c3⟩, d, ⟨e1, e2, e3, e4, e5⟩, ⟨f1, f2, f3⟩⟩ := h
  exact ⟨(h1 0 (by omega)).trans a, b.fr (fun k hk => h1 k (by omega)), ⟨fc, c1.fr (fun k _ _ => h1 k (by omega)), c2, c3⟩, d.fr (fun k _ _ => h1 k (by omega)), ⟨e1, e2, e3, e4, e5.1, e5.2.1, (h1 60 (by omega)).trans e5.2.2.1, (h1 61 (by omega)).trans e5.2.2.2⟩, ⟨f1, f2, (h1 62 (by omega)).trans f3⟩⟩
theorem fdq_congr {f f2 h h2 : Nat → Int32} : ∀ {d k : Nat}, (∀ i, i < k + d → f i = f2 i) → (∀ i, i < k + d → h i = h2 i) → fdq f h k d = fdq f2 h2 k d
  | 0, _, _, _ => rfl
  | d + 1, k, h1, h3 => by
    unfold fdq
    rw [h1 k (by omega), h3 k (by omega), fdq_congr (fun i hi => h1 i (by omega)) (fun i hi => h3 i (by omega))]
theorem dfq_congr {f f2 h h2 : Nat → Int32} : ∀ {n : Nat}, (∀ i, i < n → f i = f2 i) → (∀ i, i < n → h i = h2 i) → dfq f h n = dfq f2 h2 n
  | 0, _, _ => rfl
  | n + 1, h1, h3 => by
    unfold dfq
    rw [h1 n (by omega), h3 n (by omega), dfq_congr (fun i hi => h1 i (by omega)) (fun i hi => h3 i (by omega))]
/-- what the row of a test gives now, and where it differs first -/
def fdT (M : M4) (t : TT) : Int32 := fdq (rsq M (gl t.1) 0) t.2.1 0 t.1.length
def mtT (M : M4) (t : TT) : Int32 := mtq M (gl t.1) t.1.length
def stl (M : M4) (t : TT) : TT := (t.1, rsq M (gl t.1) 0, mtT M t, false, false)
def regV (st : Nat) (i : Int32) : Int32 := if 0 ≤ i ∧ i < 4 then nI (nib st i.toNatClampNeg) else -1

set_option maxHeartbeats 4000000 in
set_option maxRecDepth 100000 in
theorem c_fresh {l : Launch} {G : va_G} {cy : Nat → ClassId} {N : Nat} {ad : Nat → Nat} {g : Nat → va_E} {M : M4} {lg : List Nat} {lr lt : Nat → Int32} {st T : Nat} {p : Nat → Nat} {x : Nat → TT} (hX : XAt cy N ad g M lg lr lt st T p x) : MI l G cy (N, ad, g) yX8_fresh cX8_fresh 1 (some .int) (rmN 3) [.ref (ad 0)] (nA N ad (fun v g1 => v = nI lg.length ∧ XAt cy N ad g1 M ([]) lr lt 0 T p x ∧ ∀ k, 63 ≤ k → g1 k = g k)) := by
  refine NI.mk (by decide) (by intros; first | rfl | (simp_all; done)) (Nat.le_of_ble_eq_true rfl) ?_
  intro jp je js jm below meth jc A Q X hW ret ls hl
  have jx := X.hx
  have jb := X.hb
  have hl : lv_has ls 1 [(0, .ref (ad 0))] := hl
  have X : Cx G cy jp js jm _ jc cX8_fresh 1 RX8 A js.heap := X
  obtain ⟨f0, hM, ⟨fc, hL, hlc, hl96⟩, hS, ⟨psz, pf, mt, ltt, hP⟩, ⟨w0, w1, f62⟩⟩ := id hX
  obtain ⟨hok, h83, bc_, fs_, f1, -⟩ := id hM
  obtain ⟨-, hRL, hst, f4, f8⟩ := id hL
  have f5 := hRL.2.2.2.2.2.2.2.1
  have hlen := hRL.2.2.2.2.2.2.1
  obtain ⟨-, hT, hp12, hinj, ⟨ft, fm, f9, f10, f11, hft⟩, hx⟩ := id hS
  obtain ⟨-, hpsz, f60, f61⟩ := id hP
  refine lv_aload_n jx jb dX8_fresh_0 rfl (lv_at hl 0 rfl) ?_
  refine w_get X hW K8 (by omega) f0 1 (by decide) fl_X8_19 rfl dX8_fresh_1 ?_
  refine w_nV (As := []) X hW (c_clear hL) (by omega) f4 rfl rfl ml_X8_88 mf_X1_clear ⟨Nat.le_of_ble_eq_true rfl, Nat.le_of_ble_eq_true rfl⟩ hl.1 rfl (Nat.le_of_ble_eq_true rfl) ⟨Nat.le_of_ble_eq_true rfl, Nat.le_of_ble_eq_true rfl⟩ dX8_fresh_4 (fun r1 g1 H locs hp hW => ?_)
  obtain ⟨er, hL1, pfr⟩ := hp
  exact ret _ _ _ _ _ _ dX8_fresh_7 hW ⟨er, ⟨((show g1 0 = g 0 from by rw [pfr _ (by simp only [List.mem_cons, List.not_mem_nil, or_false, not_or] <;> omega)]).trans f0), hM.fr (fun k hk => by show g1 k = _; rw [pfr k (by simp only [List.mem_cons, List.not_mem_nil, or_false, not_or] <;> omega)]), ⟨fc, hL1, fun i hi => absurd hi (by simp), fun x hx => absurd hx (by simp)⟩, hS.fr (fun k hk1 hk2 => by show g1 k = _; rw [pfr k (by simp only [List.mem_cons, List.not_mem_nil, or_false, not_or] <;> omega)]), ⟨psz, pf, mt, ltt, h83, hpsz, (show g1 60 = g 60 from by rw [pfr _ (by simp only [List.mem_cons, List.not_mem_nil, or_false, not_or] <;> omega)]).trans f60, (show g1 61 = g 61 from by rw [pfr _ (by simp only [List.mem_cons, List.not_mem_nil, or_false, not_or] <;> omega)]).trans f61⟩, ⟨w0, w1, (show g1 62 = g 62 from by rw [pfr _ (by simp only [List.mem_cons, List.not_mem_nil, or_false, not_or] <;> omega)]).trans f62⟩⟩, (fun k hk => by show g1 k = _; rw [pfr k (by simp only [List.mem_cons, List.not_mem_nil, or_false, not_or] <;> omega)])⟩

set_option maxHeartbeats 4000000 in
set_option maxRecDepth 100000 in
theorem c_logged {l : Launch} {G : va_G} {cy : Nat → ClassId} {N : Nat} {ad : Nat → Nat} {g : Nat → va_E} {M : M4} {lg : List Nat} {lr lt : Nat → Int32} {st T : Nat} {p : Nat → Nat} {x : Nat → TT} {i what : Int32} (hX : XAt cy N ad g M lg lr lt st T p x) : RI l G cy (N, ad, g) yX8_logged cX8_logged 3 (some .int) (rmN 3) [.ref (ad 0), .int i, .int what] (tellV lg.length (gl lg) lr lt i what) := by
  refine RI.mk (by decide) (by first | rfl | exact bI_nar) (Nat.le_of_ble_eq_true rfl) ?_
  intro jp je js jm below meth jc A Q X hW ret ls hl
  have jx := X.hx
  have jb := X.hb
  have hl : lv_has ls 3 [(0, .ref (ad 0)), (1, .int i), (2, .int what)] := hl
  have X : Cx G cy jp js jm _ jc cX8_logged 3 RX8 A js.heap := X
  obtain ⟨f0, hM, ⟨fc, hL, hlc, hl96⟩, hS, ⟨psz, pf, mt, ltt, hP⟩, ⟨w0, w1, f62⟩⟩ := id hX
  obtain ⟨hok, h83, bc_, fs_, f1, -⟩ := id hM
  obtain ⟨-, hRL, hst, f4, f8⟩ := id hL
  have f5 := hRL.2.2.2.2.2.2.2.1
  have hlen := hRL.2.2.2.2.2.2.1
  obtain ⟨-, hT, hp12, hinj, ⟨ft, fm, f9, f10, f11, hft⟩, hx⟩ := id hS
  obtain ⟨-, hpsz, f60, f61⟩ := id hP
  refine lv_aload_n jx jb dX8_logged_0 rfl (lv_at hl 0 rfl) ?_
  refine w_get X hW K8 (by omega) f0 1 (by decide) fl_X8_19 rfl dX8_logged_1 ?_
  refine lv_iload_n jx jb dX8_logged_4 rfl (lv_at hl 1 rfl) ?_
  refine lv_iload_n jx jb dX8_logged_5 rfl (lv_at hl 2 rfl) ?_
  refine w_rV (As := [.int i, .int what]) X hW (c_tell hL (fun i hi => ⟨hlc i hi, hl96 _ (gl_mem hi)⟩)) (by omega) f4 rfl rfl ml_X8_92 mf_X1_tell ⟨Nat.le_of_ble_eq_true rfl, Nat.le_of_ble_eq_true rfl⟩ hl.1 rfl (Nat.le_of_ble_eq_true rfl) ⟨Nat.le_of_ble_eq_true rfl, Nat.le_of_ble_eq_true rfl⟩ dX8_logged_6 (fun H locs hW => ?_)
  exact ret _ _ _ _ _ dX8_logged_9 hW rfl

set_option maxHeartbeats 4000000 in
set_option maxRecDepth 100000 in
theorem c_reached {l : Launch} {G : va_G} {cy : Nat → ClassId} {N : Nat} {ad : Nat → Nat} {g : Nat → va_E} {M : M4} {lg : List Nat} {lr lt : Nat → Int32} {st T : Nat} {p : Nat → Nat} {x : Nat → TT} (hX : XAt cy N ad g M lg lr lt st T p x) : MI l G cy (N, ad, g) yX8_reached cX8_reached 1 (some .int) (rmN 5) [.ref (ad 0)] (nA N ad (fun v g1 => v = mtq M (gl lg) lg.length ∧ XAt cy N ad g1 M lg lr lt st T p x ∧ ∀ k, 63 ≤ k → g1 k = g k)) := by
  refine NI.mk (by decide) (by intros; first | rfl | (simp_all; done)) (Nat.le_of_ble_eq_true rfl) ?_
  intro jp je js jm below meth jc A Q X hW ret ls hl
  have jx := X.hx
  have jb := X.hb
  have hl : lv_has ls 1 [(0, .ref (ad 0))] := hl
  have X : Cx G cy jp js jm _ jc cX8_reached 1 RX8 A js.heap := X
  obtain ⟨f0, hM, ⟨fc, hL, hlc, hl96⟩, hS, ⟨psz, pf, mt, ltt, hP⟩, ⟨w0, w1, f62⟩⟩ := id hX
  obtain ⟨hok, h83, bc_, fs_, f1, -⟩ := id hM
  obtain ⟨-, hRL, hst, f4, f8⟩ := id hL
  have f5 := hRL.2.2.2.2.2.2.2.1
  have hlen := hRL.2.2.2.2.2.2.1
  obtain ⟨-, hT, hp12, hinj, ⟨ft, fm, f9, f10, f11, hft⟩, hx⟩ := id hS
  obtain ⟨-, hpsz, f60, f61⟩ := id hP
  refine lv_aload_n jx jb dX8_reached_0 rfl (lv_at hl 0 rfl) ?_
  refine w_get X hW K8 (by omega) f0 3 (by decide) fl_X8_35 rfl dX8_reached_1 ?_
  refine lv_aload_n jx jb dX8_reached_4 rfl (lv_at hl 0 rfl) ?_
  refine w_get X hW K8 (by omega) f0 1 (by decide) fl_X8_19 rfl dX8_reached_5 ?_
  refine w_getN X hW K1 (by omega) f4 0 (by decide) fn_X8_108 rfl dX8_reached_8 ?_
  refine w_nV (As := [.ref (ad 5)]) X hW (c_meets hM hP hRL (fun i hi => ⟨hlc i hi, hl96 _ (gl_mem hi)⟩) (by omega)) (by omega) f60 rfl rfl ml_X8_163 mf_X4_meets ⟨Nat.le_of_ble_eq_true rfl, Nat.le_of_ble_eq_true rfl⟩ hl.1 rfl (Nat.le_of_ble_eq_true rfl) ⟨Nat.le_of_ble_eq_true rfl, Nat.le_of_ble_eq_true rfl⟩ dX8_reached_11 (fun r1 g1 H locs hp hW => ?_)
  obtain ⟨er, pf1, hP1, hres, pfr⟩ := hp
  refine top_eq (y := mtq M (gl lg) lg.length) (er) ?_
  exact ret _ _ _ _ _ _ dX8_reached_14 hW ⟨rfl, ⟨((show g1 0 = g 0 from by rw [pfr _ (by simp only [List.mem_cons, List.not_mem_nil, or_false, not_or] <;> omega)]).trans f0), hM.fr (fun k hk => by show g1 k = _; rw [pfr k (by simp only [List.mem_cons, List.not_mem_nil, or_false, not_or] <;> omega)]), ⟨fc, hL.fr (fun k hk1 hk2 => by show g1 k = _; rw [pfr k (by simp only [List.mem_cons, List.not_mem_nil, or_false, not_or] <;> omega)]), hlc, hl96⟩, hS.fr (fun k hk1 hk2 => by show g1 k = _; rw [pfr k (by simp only [List.mem_cons, List.not_mem_nil, or_false, not_or] <;> omega)]), ⟨_, pf1, _, _, hP1⟩, ⟨w0, w1, (show g1 62 = g 62 from by rw [pfr _ (by simp only [List.mem_cons, List.not_mem_nil, or_false, not_or] <;> omega)]).trans f62⟩⟩, (fun k hk => by show g1 k = _; rw [pfr k (by simp only [List.mem_cons, List.not_mem_nil, or_false, not_or] <;> omega)])⟩

set_option maxHeartbeats 4000000 in
set_option maxRecDepth 100000 in
theorem c_never {l : Launch} {G : va_G} {cy : Nat → ClassId} {N : Nat} {ad : Nat → Nat} {g : Nat → va_E} {M : M4} {lg : List Nat} {lr lt : Nat → Int32} {st T : Nat} {p : Nat → Nat} {x : Nat → TT} (hX : XAt cy N ad g M lg lr lt st T p x) : MI l G cy (N, ad, g) yX8_never cX8_never 1 (some .int) (rmN 5) [.ref (ad 0)] (nA N ad (fun v g1 => v = abq M 24 &&& (mtq M (gl lg) lg.length ^^^ (-1)) ∧ XAt cy N ad g1 M lg lr lt st T p x ∧ ∀ k, 63 ≤ k → g1 k = g k)) := by
  refine NI.mk (by decide) (by intros; first | rfl | (simp_all; done)) (Nat.le_of_ble_eq_true rfl) ?_
  intro jp je js jm below meth jc A Q X hW ret ls hl
  have jx := X.hx
  have jb := X.hb
  have hl : lv_has ls 1 [(0, .ref (ad 0))] := hl
  have X : Cx G cy jp js jm _ jc cX8_never 1 RX8 A js.heap := X
  obtain ⟨f0, hM, ⟨fc, hL, hlc, hl96⟩, hS, ⟨psz, pf, mt, ltt, hP⟩, ⟨w0, w1, f62⟩⟩ := id hX
  obtain ⟨hok, h83, bc_, fs_, f1, -⟩ := id hM
  obtain ⟨-, hRL, hst, f4, f8⟩ := id hL
  have f5 := hRL.2.2.2.2.2.2.2.1
  have hlen := hRL.2.2.2.2.2.2.1
  obtain ⟨-, hT, hp12, hinj, ⟨ft, fm, f9, f10, f11, hft⟩, hx⟩ := id hS
  obtain ⟨-, hpsz, f60, f61⟩ := id hP
  refine lv_aload_n jx jb dX8_never_0 rfl (lv_at hl 0 rfl) ?_
  refine w_get X hW K8 (by omega) f0 0 (by decide) fl_X8_12 rfl dX8_never_1 ?_
  refine w_rV (As := []) X hW (c_allBits hM) (by omega) f1 rfl rfl ml_X8_185 mf_X2_allBits ⟨Nat.le_of_ble_eq_true rfl, Nat.le_of_ble_eq_true rfl⟩ hl.1 rfl (Nat.le_of_ble_eq_true rfl) ⟨Nat.le_of_ble_eq_true rfl, Nat.le_of_ble_eq_true rfl⟩ dX8_never_4 (fun H locs hW => ?_)
  refine lv_aload_n jx jb dX8_never_7 rfl (lv_at hl 0 rfl) ?_
  refine w_get X hW K8 (by omega) f0 3 (by decide) fl_X8_35 rfl dX8_never_8 ?_
  refine lv_aload_n jx jb dX8_never_11 rfl (lv_at hl 0 rfl) ?_
  refine w_get X hW K8 (by omega) f0 1 (by decide) fl_X8_19 rfl dX8_never_12 ?_
  refine w_getN X hW K1 (by omega) f4 0 (by decide) fn_X8_108 rfl dX8_never_15 ?_
  refine w_nV (As := [.ref (ad 5)]) X hW (c_meets hM hP hRL (fun i hi => ⟨hlc i hi, hl96 _ (gl_mem hi)⟩) (by omega)) (by omega) f60 rfl rfl ml_X8_163 mf_X4_meets ⟨Nat.le_of_ble_eq_true rfl, Nat.le_of_ble_eq_true rfl⟩ hl.1 rfl (Nat.le_of_ble_eq_true rfl) ⟨Nat.le_of_ble_eq_true rfl, Nat.le_of_ble_eq_true rfl⟩ dX8_never_18 (fun r1 g1 H locs hp hW => ?_)
  obtain ⟨er, pf1, hP1, hres, pfr⟩ := hp
  refine top_eq (y := mtq M (gl lg) lg.length) (er) ?_
  refine lv_iconst (v := -1) jx jb dX8_never_21 (by decide) ?_
  refine lv_ixor jx jb dX8_never_22 ?_
  refine lv_iand jx jb dX8_never_23 ?_
  exact ret _ _ _ _ _ _ dX8_never_24 hW ⟨rfl, ⟨((show g1 0 = g 0 from by rw [pfr _ (by simp only [List.mem_cons, List.not_mem_nil, or_false, not_or] <;> omega)]).trans f0), hM.fr (fun k hk => by show g1 k = _; rw [pfr k (by simp only [List.mem_cons, List.not_mem_nil, or_false, not_or] <;> omega)]), ⟨fc, hL.fr (fun k hk1 hk2 => by show g1 k = _; rw [pfr k (by simp only [List.mem_cons, List.not_mem_nil, or_false, not_or] <;> omega)]), hlc, hl96⟩, hS.fr (fun k hk1 hk2 => by show g1 k = _; rw [pfr k (by simp only [List.mem_cons, List.not_mem_nil, or_false, not_or] <;> omega)]), ⟨_, pf1, _, _, hP1⟩, ⟨w0, w1, (show g1 62 = g 62 from by rw [pfr _ (by simp only [List.mem_cons, List.not_mem_nil, or_false, not_or] <;> omega)]).trans f62⟩⟩, (fun k hk => by show g1 k = _; rw [pfr k (by simp only [List.mem_cons, List.not_mem_nil, or_false, not_or] <;> omega)])⟩

set_option maxHeartbeats 4000000 in
set_option maxRecDepth 100000 in
theorem c_chosen {l : Launch} {G : va_G} {cy : Nat → ClassId} {N : Nat} {ad : Nat → Nat} {g : Nat → va_E} {M : M4} {lg : List Nat} {lr lt : Nat → Int32} {st T : Nat} {p : Nat → Nat} {x : Nat → TT} (hX : XAt cy N ad g M lg lr lt st T p x) : MI l G cy (N, ad, g) yX8_chosen cX8_chosen 1 (some .int) (rmN 6) [.ref (ad 0)] (nA N ad (fun v g1 => ∃ fk, (∀ i, i < T → fk i = mtT M (x (p i))) ∧ v = nI (lhC fk T (2 ^ T)) ∧ XAt cy N ad g1 M lg lr lt st T p x ∧ ∀ k, 63 ≤ k → g1 k = g k)) := by
  refine NI.mk (by decide) (by intros; first | rfl | (simp_all; done)) (Nat.le_of_ble_eq_true rfl) ?_
  intro jp je js jm below meth jc A Q X hW ret ls hl
  have jx := X.hx
  have jb := X.hb
  have hl : lv_has ls 1 [(0, .ref (ad 0))] := hl
  have X : Cx G cy jp js jm _ jc cX8_chosen 1 RX8 A js.heap := X
  obtain ⟨f0, hM, ⟨fc, hL, hlc, hl96⟩, hS, ⟨psz, pf, mt, ltt, hP⟩, ⟨w0, w1, f62⟩⟩ := id hX
  obtain ⟨hok, h83, bc_, fs_, f1, -⟩ := id hM
  obtain ⟨-, hRL, hst, f4, f8⟩ := id hL
  have f5 := hRL.2.2.2.2.2.2.2.1
  have hlen := hRL.2.2.2.2.2.2.1
  obtain ⟨-, hT, hp12, hinj, ⟨ft, fm, f9, f10, f11, hft⟩, hx⟩ := id hS
  obtain ⟨-, hpsz, f60, f61⟩ := id hP
  refine lv_aload_n jx jb dX8_chosen_0 rfl (lv_at hl 0 rfl) ?_
  refine w_get X hW K8 (by omega) f0 2 (by decide) fl_X8_26 rfl dX8_chosen_1 ?_
  refine lv_aload_n jx jb dX8_chosen_4 rfl (lv_at hl 0 rfl) ?_
  refine w_get X hW K8 (by omega) f0 3 (by decide) fl_X8_35 rfl dX8_chosen_5 ?_
  refine w_nV (As := [.ref (ad 60)]) X hW (c_leastHeap hS hM ⟨_, _, _, _, hP⟩) (by omega) f9 rfl rfl ml_X8_188 mf_X7_leastHeap ⟨Nat.le_of_ble_eq_true rfl, Nat.le_of_ble_eq_true rfl⟩ hl.1 rfl (Nat.le_of_ble_eq_true rfl) ⟨Nat.le_of_ble_eq_true rfl, Nat.le_of_ble_eq_true rfl⟩ dX8_chosen_8 (fun r1 g1 H locs hp hW => ?_)
  obtain ⟨fk, hfk, er, hS1, hPe, pfr⟩ := hp
  refine top_eq (y := nI (lhC fk T (2 ^ T))) (er) ?_
  exact ret _ _ _ _ _ _ dX8_chosen_11 hW ⟨fk, hfk, rfl, ⟨((show g1 0 = g 0 from by rw [pfr _ (by omega)]).trans f0), hM.fr (fun k hk => by show g1 k = _; rw [pfr k (by omega)]), ⟨fc, hL.fr (fun k hk1 hk2 => by show g1 k = _; rw [pfr k (by omega)]), hlc, hl96⟩, hS1, hPe, ⟨w0, w1, (show g1 62 = g 62 from by rw [pfr _ (by omega)]).trans f62⟩⟩, (fun k hk => by show g1 k = _; rw [pfr k (by omega)])⟩

set_option maxHeartbeats 4000000 in
set_option maxRecDepth 100000 in
theorem c_fewest {l : Launch} {G : va_G} {cy : Nat → ClassId} {N : Nat} {ad : Nat → Nat} {g : Nat → va_E} {M : M4} {lg : List Nat} {lr lt : Nat → Int32} {st T : Nat} {p : Nat → Nat} {x : Nat → TT} (hX : XAt cy N ad g M lg lr lt st T p x) : MI l G cy (N, ad, g) yX8_fewest cX8_fewest 1 (some .int) (rmN 6) [.ref (ad 0)] (nA N ad (fun v g1 => ∃ fk, (∀ i, i < T → fk i = mtT M (x (p i))) ∧ v = nI (pc2 (lhC fk T (2 ^ T))) ∧ XAt cy N ad g1 M lg lr lt st T p x ∧ ∀ k, 63 ≤ k → g1 k = g k)) := by
  refine NI.mk (by decide) (by intros; first | rfl | (simp_all; done)) (Nat.le_of_ble_eq_true rfl) ?_
  intro jp je js jm below meth jc A Q X hW ret ls hl
  have jx := X.hx
  have jb := X.hb
  have hl : lv_has ls 1 [(0, .ref (ad 0))] := hl
  have X : Cx G cy jp js jm _ jc cX8_fewest 1 RX8 A js.heap := X
  obtain ⟨f0, hM, ⟨fc, hL, hlc, hl96⟩, hS, ⟨psz, pf, mt, ltt, hP⟩, ⟨w0, w1, f62⟩⟩ := id hX
  obtain ⟨hok, h83, bc_, fs_, f1, -⟩ := id hM
  obtain ⟨-, hRL, hst, f4, f8⟩ := id hL
  have f5 := hRL.2.2.2.2.2.2.2.1
  have hlen := hRL.2.2.2.2.2.2.1
  obtain ⟨-, hT, hp12, hinj, ⟨ft, fm, f9, f10, f11, hft⟩, hx⟩ := id hS
  obtain ⟨-, hpsz, f60, f61⟩ := id hP
  refine lv_aload_n jx jb dX8_fewest_0 rfl (lv_at hl 0 rfl) ?_
  refine w_get X hW K8 (by omega) f0 2 (by decide) fl_X8_26 rfl dX8_fewest_1 ?_
  refine lv_aload_n jx jb dX8_fewest_4 rfl (lv_at hl 0 rfl) ?_
  refine w_get X hW K8 (by omega) f0 3 (by decide) fl_X8_35 rfl dX8_fewest_5 ?_
  refine w_nV (As := [.ref (ad 60)]) X hW (c_leastHeap hS hM ⟨_, _, _, _, hP⟩) (by omega) f9 rfl rfl ml_X8_188 mf_X7_leastHeap ⟨Nat.le_of_ble_eq_true rfl, Nat.le_of_ble_eq_true rfl⟩ hl.1 rfl (Nat.le_of_ble_eq_true rfl) ⟨Nat.le_of_ble_eq_true rfl, Nat.le_of_ble_eq_true rfl⟩ dX8_fewest_8 (fun r1 g1 H locs hp hW => ?_)
  obtain ⟨fk, hfk, er, hS1, hPe, pfr⟩ := hp
  refine top_eq (y := nI (lhC fk T (2 ^ T))) (er) ?_
  refine w_rS (As := [.int (nI (lhC fk T (2 ^ T)))]) X hW (c_bitCount) ml_X8_192 mf_J6_bitCount_0f7a4 ⟨Nat.le_of_ble_eq_true rfl, Nat.le_of_ble_eq_true rfl⟩ hl.1 rfl (Nat.le_of_ble_eq_true rfl) ⟨Nat.le_of_ble_eq_true rfl, Nat.le_of_ble_eq_true rfl⟩ dX8_fewest_11 (fun H locs hW => ?_)
  exact ret _ _ _ _ _ _ dX8_fewest_14 hW ⟨fk, hfk, bcI_pc _ (lhC_lt hT (Nat.le_refl _)), ⟨((show g1 0 = g 0 from by rw [pfr _ (by omega)]).trans f0), hM.fr (fun k hk => by show g1 k = _; rw [pfr k (by omega)]), ⟨fc, hL.fr (fun k hk1 hk2 => by show g1 k = _; rw [pfr k (by omega)]), hlc, hl96⟩, hS1, hPe, ⟨w0, w1, (show g1 62 = g 62 from by rw [pfr _ (by omega)]).trans f62⟩⟩, (fun k hk => by show g1 k = _; rw [pfr k (by omega)])⟩

set_option maxHeartbeats 4000000 in
set_option maxRecDepth 100000 in
theorem c_register {l : Launch} {G : va_G} {cy : Nat → ClassId} {N : Nat} {ad : Nat → Nat} {g : Nat → va_E} {M : M4} {lg : List Nat} {lr lt : Nat → Int32} {st T : Nat} {p : Nat → Nat} {x : Nat → TT} {i : Int32} (hX : XAt cy N ad g M lg lr lt st T p x) : RI l G cy (N, ad, g) yX8_register cX8_register 2 (some .int) (rmN 1) [.ref (ad 0), .int i] (regV st i) := by
  refine RI.mk (by decide) (by first | rfl | exact bI_nar) (Nat.le_of_ble_eq_true rfl) ?_
  intro jp je js jm below meth jc A Q X hW ret ls hl
  have jx := X.hx
  have jb := X.hb
  have hl : lv_has ls 2 [(0, .ref (ad 0)), (1, .int i)] := hl
  have X : Cx G cy jp js jm _ jc cX8_register 2 RX8 A js.heap := X
  obtain ⟨f0, hM, ⟨fc, hL, hlc, hl96⟩, hS, ⟨psz, pf, mt, ltt, hP⟩, ⟨w0, w1, f62⟩⟩ := id hX
  obtain ⟨hok, h83, bc_, fs_, f1, -⟩ := id hM
  obtain ⟨-, hRL, hst, f4, f8⟩ := id hL
  have f5 := hRL.2.2.2.2.2.2.2.1
  have hlen := hRL.2.2.2.2.2.2.1
  obtain ⟨-, hT, hp12, hinj, ⟨ft, fm, f9, f10, f11, hft⟩, hx⟩ := id hS
  obtain ⟨-, hpsz, f60, f61⟩ := id hP
  refine lv_iload_n jx jb dX8_register_0 rfl (lv_at hl 1 rfl) ?_
  refine lv_iconst (v := 4) jx jb dX8_register_1 (by decide) ?_
  refine w_rS (As := [.int i, .int 4]) X hW (c_isBelow) ml_X8_77 mf_X8_isBelow ⟨Nat.le_of_ble_eq_true rfl, Nat.le_of_ble_eq_true rfl⟩ hl.1 rfl (Nat.le_of_ble_eq_true rfl) ⟨Nat.le_of_ble_eq_true rfl, Nat.le_of_ble_eq_true rfl⟩ dX8_register_2 (fun H locs hW => ?_)
  refine lv_if_eq (tgt := 22) jx jb dX8_register_5 (by decide) (fun c5 => ?_) (fun c5 => ?_)
  · refine lv_iconst (v := -1) jx jb dX8_register_22 (by decide) ?_
    exact ret _ _ _ _ _ dX8_register_23 hW (by unfold regV; rw [if_neg (bI_0.mp c5)])
  · refine lv_aload_n jx jb dX8_register_8 rfl (lv_at hl 0 rfl) ?_
    refine w_get X hW K8 (by omega) f0 1 (by decide) fl_X8_19 rfl dX8_register_9 ?_
    refine w_getN X hW K1 (by omega) f4 2 (by decide) fn_X8_197 rfl dX8_register_12 ?_
    refine lv_iload_n jx jb dX8_register_15 rfl (lv_at hl 1 rfl) ?_
    obtain ⟨j, hj, ej⟩ := i_below (n := 4) (by decide) (bI_n0.mp c5)
    refine top_eq (y := nI j) ej ?_
    refine w_rS (As := [.int (nI st), .int (nI j)]) X hW (c_valueIn hst hj) ml_X8_200 mf_X8_valueIn ⟨Nat.le_of_ble_eq_true rfl, Nat.le_of_ble_eq_true rfl⟩ hl.1 rfl (Nat.le_of_ble_eq_true rfl) ⟨Nat.le_of_ble_eq_true rfl, Nat.le_of_ble_eq_true rfl⟩ dX8_register_16 (fun H locs hW => ?_)
    refine lv_goto (tgt := 23) jx jb dX8_register_19 (by decide) ?_
    exact ret _ _ _ _ _ dX8_register_23 hW (by unfold regV; rw [if_pos (bI_n0.mp c5), ej, i_cl (by omega)])

set_option maxHeartbeats 4000000 in
set_option maxRecDepth 100000 in
theorem c_xFirstDiff {l : Launch} {G : va_G} {cy : Nat → ClassId} {N : Nat} {ad : Nat → Nat} {g : Nat → va_E} {M : M4} {lg : List Nat} {lr lt : Nat → Int32} {st T : Nat} {p : Nat → Nat} {x : Nat → TT} {j : Nat} (hX : XAt cy N ad g M lg lr lt st T p x) (hj : j < T) : MI l G cy (N, ad, g) yX8_firstDifference cX8_firstDifference 2 (some .int) (rmN 4) [.ref (ad 0), .ref (ad (12 + 4 * p j))] (nA N ad (fun v g1 => v = fdT M (x (p j)) ∧ XAt cy N ad g1 M lg lr lt st T p x ∧ ∀ k, 63 ≤ k → g1 k = g k)) := by
  refine NI.mk (by decide) (by intros; first | rfl | (simp_all; done)) (Nat.le_of_ble_eq_true rfl) ?_
  intro jp je js jm below meth jc A Q X hW ret ls hl
  have jx := X.hx
  have jb := X.hb
  have hl : lv_has ls 2 [(0, .ref (ad 0)), (1, .ref (ad (12 + 4 * p j)))] := hl
  have X : Cx G cy jp js jm _ jc cX8_firstDifference 2 RX8 A js.heap := X
  obtain ⟨f0, hM, ⟨fc, hL, hlc, hl96⟩, hS, ⟨psz, pf, mt, ltt, hP⟩, ⟨w0, w1, f62⟩⟩ := id hX
  obtain ⟨hok, h83, bc_, fs_, f1, -⟩ := id hM
  obtain ⟨-, hRL, hst, f4, f8⟩ := id hL
  have f5 := hRL.2.2.2.2.2.2.2.1
  have hlen := hRL.2.2.2.2.2.2.1
  obtain ⟨-, hT, hp12, hinj, ⟨ft, fm, f9, f10, f11, hft⟩, hx⟩ := id hS
  obtain ⟨-, hpsz, f60, f61⟩ := id hP
  have hpj := hp12 j (by omega)
  obtain ⟨tfc, tfr, t1, tR, tc, t96, ta⟩ := hx (p j) hpj
  have htl := tR.2.2.2.2.2.2.1
  refine lv_aload_n jx jb dX8_firstDifference_0 rfl (lv_at hl 0 rfl) ?_
  refine w_get X hW K8 (by omega) f0 3 (by decide) fl_X8_35 rfl dX8_firstDifference_1 ?_
  refine lv_aload_n jx jb dX8_firstDifference_4 rfl (lv_at hl 1 rfl) ?_
  refine w_getN X hW K3 (by omega) t1 0 (by decide) fn_X8_102 rfl dX8_firstDifference_5 ?_
  refine w_nVv (As := [.ref (ad (13 + 4 * p j))]) X hW (c_play hM hP tR (fun i hi => ⟨tc i hi, t96 _ (gl_mem hi)⟩) (by omega)) (by omega) f60 rfl rfl ml_X8_115 mf_X4_play ⟨Nat.le_of_ble_eq_true rfl, Nat.le_of_ble_eq_true rfl⟩ hl.1 rfl (Nat.le_of_ble_eq_true rfl) ⟨Nat.le_of_ble_eq_true rfl, Nat.le_of_ble_eq_true rfl⟩ dX8_firstDifference_8 (fun g1 H locs hp hW => ?_)
  obtain ⟨pf1, hP1, hres, pfr⟩ := hp
  obtain ⟨-, -, p60, p61⟩ := id hP1
  have hf1 : g1 0 = .inr (8, [.ref (ad 1), .ref (ad 4), .ref (ad 9), .ref (ad 60), .ref (ad 62)]) := (pfr 0 (by simp only [List.mem_cons, List.not_mem_nil, or_false, not_or] <;> omega)).trans f0
  have hf2 : g1 (12 + 4 * p j) = .inr (3, [.ref (ad (13 + 4 * p j)), .int ((x (p j)).2.2.1), .int (bI ((x (p j)).2.2.2.1 = true)), .int (bI ((x (p j)).2.2.2.2 = true))]) := (pfr (12 + 4 * p j) (by simp only [List.mem_cons, List.not_mem_nil, or_false, not_or] <;> omega)).trans t1
  have hf3 : g1 (13 + 4 * p j) = .inr (5, [.ref (ad (14 + 4 * p j)), .ref (ad (15 + 4 * p j)), .int (nI (x (p j)).1.length)]) := (pfr (13 + 4 * p j) (by simp only [List.mem_cons, List.not_mem_nil, or_false, not_or] <;> omega)).trans tR.2.2.2.2.2.2.2.1
  have tR1 := tR.fr (pfr (13 + 4 * p j) (by simp only [List.mem_cons, List.not_mem_nil, or_false, not_or] <;> omega)) (pfr (14 + 4 * p j) (by simp only [List.mem_cons, List.not_mem_nil, or_false, not_or] <;> omega)) (pfr (15 + 4 * p j) (by simp only [List.mem_cons, List.not_mem_nil, or_false, not_or] <;> omega))
  refine lv_aload_n jx jb dX8_firstDifference_11 rfl (lv_at hl 0 rfl) ?_
  refine w_get X hW K8 (by omega) hf1 3 (by decide) fl_X8_35 rfl dX8_firstDifference_12 ?_
  refine lv_aload_n jx jb dX8_firstDifference_15 rfl (lv_at hl 1 rfl) ?_
  refine w_getN X hW K3 (by omega) hf2 0 (by decide) fn_X8_102 rfl dX8_firstDifference_16 ?_
  refine w_rV (As := [.ref (ad (13 + 4 * p j))]) X hW (c_firstDiff hP1 tR1) (by omega) p60 rfl rfl ml_X8_212 mf_X4_firstDifference ⟨Nat.le_of_ble_eq_true rfl, Nat.le_of_ble_eq_true rfl⟩ hl.1 rfl (Nat.le_of_ble_eq_true rfl) ⟨Nat.le_of_ble_eq_true rfl, Nat.le_of_ble_eq_true rfl⟩ dX8_firstDifference_19 (fun H locs hW => ?_)
  refine top_eq (y := fdT M (x (p j))) (fdq_congr (fun i hi => hres i (by omega)) (fun i hi => ta i (by omega))) ?_
  exact ret _ _ _ _ _ _ dX8_firstDifference_22 hW ⟨rfl, ⟨hf1, hM.fr (fun k hk => by show g1 k = _; rw [pfr k (by simp only [List.mem_cons, List.not_mem_nil, or_false, not_or] <;> omega)]), ⟨fc, hL.fr (fun k hk1 hk2 => by show g1 k = _; rw [pfr k (by simp only [List.mem_cons, List.not_mem_nil, or_false, not_or] <;> omega)]), hlc, hl96⟩, hS.fr (fun k hk1 hk2 => by show g1 k = _; rw [pfr k (by simp only [List.mem_cons, List.not_mem_nil, or_false, not_or] <;> omega)]), ⟨_, pf1, _, _, hP1⟩, ⟨w0, w1, (show g1 62 = g 62 from by rw [pfr _ (by simp only [List.mem_cons, List.not_mem_nil, or_false, not_or] <;> omega)]).trans f62⟩⟩, (fun k hk => by show g1 k = _; rw [pfr k (by simp only [List.mem_cons, List.not_mem_nil, or_false, not_or] <;> omega)])⟩

set_option maxHeartbeats 4000000 in
set_option maxRecDepth 100000 in
theorem c_resultNow {l : Launch} {G : va_G} {cy : Nat → ClassId} {N : Nat} {ad : Nat → Nat} {g : Nat → va_E} {M : M4} {lg : List Nat} {lr lt : Nat → Int32} {st T : Nat} {p : Nat → Nat} {x : Nat → TT} {j k : Nat} (hX : XAt cy N ad g M lg lr lt st T p x) (hj : j < T) (hk : k < (x (p j)).1.length) : MI l G cy (N, ad, g) yX8_resultNow cX8_resultNow 3 (some .int) (rmN 4) [.ref (ad 0), .ref (ad (12 + 4 * p j)), .int (nI k)] (nA N ad (fun v g1 => v = rsq M (gl (x (p j)).1) 0 k ∧ XAt cy N ad g1 M lg lr lt st T p x ∧ ∀ k, 63 ≤ k → g1 k = g k)) := by
  refine NI.mk (by decide) (by intros; first | rfl | (simp_all; done)) (Nat.le_of_ble_eq_true rfl) ?_
  intro jp je js jm below meth jc A Q X hW ret ls hl
  have jx := X.hx
  have jb := X.hb
  have hl : lv_has ls 3 [(0, .ref (ad 0)), (1, .ref (ad (12 + 4 * p j))), (2, .int (nI k))] := hl
  have X : Cx G cy jp js jm _ jc cX8_resultNow 3 RX8 A js.heap := X
  obtain ⟨f0, hM, ⟨fc, hL, hlc, hl96⟩, hS, ⟨psz, pf, mt, ltt, hP⟩, ⟨w0, w1, f62⟩⟩ := id hX
  obtain ⟨hok, h83, bc_, fs_, f1, -⟩ := id hM
  obtain ⟨-, hRL, hst, f4, f8⟩ := id hL
  have f5 := hRL.2.2.2.2.2.2.2.1
  have hlen := hRL.2.2.2.2.2.2.1
  obtain ⟨-, hT, hp12, hinj, ⟨ft, fm, f9, f10, f11, hft⟩, hx⟩ := id hS
  obtain ⟨-, hpsz, f60, f61⟩ := id hP
  have hpj := hp12 j (by omega)
  obtain ⟨tfc, tfr, t1, tR, tc, t96, ta⟩ := hx (p j) hpj
  have htl := tR.2.2.2.2.2.2.1
  refine lv_aload_n jx jb dX8_resultNow_0 rfl (lv_at hl 0 rfl) ?_
  refine w_get X hW K8 (by omega) f0 3 (by decide) fl_X8_35 rfl dX8_resultNow_1 ?_
  refine lv_aload_n jx jb dX8_resultNow_4 rfl (lv_at hl 1 rfl) ?_
  refine w_getN X hW K3 (by omega) t1 0 (by decide) fn_X8_102 rfl dX8_resultNow_5 ?_
  refine w_nVv (As := [.ref (ad (13 + 4 * p j))]) X hW (c_play hM hP tR (fun i hi => ⟨tc i hi, t96 _ (gl_mem hi)⟩) (by omega)) (by omega) f60 rfl rfl ml_X8_115 mf_X4_play ⟨Nat.le_of_ble_eq_true rfl, Nat.le_of_ble_eq_true rfl⟩ hl.1 rfl (Nat.le_of_ble_eq_true rfl) ⟨Nat.le_of_ble_eq_true rfl, Nat.le_of_ble_eq_true rfl⟩ dX8_resultNow_8 (fun g1 H locs hp hW => ?_)
  obtain ⟨pf1, hP1, hres, pfr⟩ := hp
  obtain ⟨-, -, p60, p61⟩ := id hP1
  have hf1 : g1 0 = .inr (8, [.ref (ad 1), .ref (ad 4), .ref (ad 9), .ref (ad 60), .ref (ad 62)]) := (pfr 0 (by simp only [List.mem_cons, List.not_mem_nil, or_false, not_or] <;> omega)).trans f0
  have hf2 : g1 (12 + 4 * p j) = .inr (3, [.ref (ad (13 + 4 * p j)), .int ((x (p j)).2.2.1), .int (bI ((x (p j)).2.2.2.1 = true)), .int (bI ((x (p j)).2.2.2.2 = true))]) := (pfr (12 + 4 * p j) (by simp only [List.mem_cons, List.not_mem_nil, or_false, not_or] <;> omega)).trans t1
  have hf3 : g1 (13 + 4 * p j) = .inr (5, [.ref (ad (14 + 4 * p j)), .ref (ad (15 + 4 * p j)), .int (nI (x (p j)).1.length)]) := (pfr (13 + 4 * p j) (by simp only [List.mem_cons, List.not_mem_nil, or_false, not_or] <;> omega)).trans tR.2.2.2.2.2.2.2.1
  have tR1 := tR.fr (pfr (13 + 4 * p j) (by simp only [List.mem_cons, List.not_mem_nil, or_false, not_or] <;> omega)) (pfr (14 + 4 * p j) (by simp only [List.mem_cons, List.not_mem_nil, or_false, not_or] <;> omega)) (pfr (15 + 4 * p j) (by simp only [List.mem_cons, List.not_mem_nil, or_false, not_or] <;> omega))
  refine lv_aload_n jx jb dX8_resultNow_11 rfl (lv_at hl 0 rfl) ?_
  refine w_get X hW K8 (by omega) hf1 3 (by decide) fl_X8_35 rfl dX8_resultNow_12 ?_
  refine lv_iload_n jx jb dX8_resultNow_15 rfl (lv_at hl 2 rfl) ?_
  refine w_rV (As := [.int (nI k)]) X hW (c_pResultAt hP1 hk) (by omega) p60 rfl rfl ml_X8_214 mf_X4_resultAt ⟨Nat.le_of_ble_eq_true rfl, Nat.le_of_ble_eq_true rfl⟩ hl.1 rfl (Nat.le_of_ble_eq_true rfl) ⟨Nat.le_of_ble_eq_true rfl, Nat.le_of_ble_eq_true rfl⟩ dX8_resultNow_16 (fun H locs hW => ?_)
  refine top_eq (y := rsq M (gl (x (p j)).1) 0 k) (hres k hk) ?_
  exact ret _ _ _ _ _ _ dX8_resultNow_19 hW ⟨rfl, ⟨hf1, hM.fr (fun k hk => by show g1 k = _; rw [pfr k (by simp only [List.mem_cons, List.not_mem_nil, or_false, not_or] <;> omega)]), ⟨fc, hL.fr (fun k hk1 hk2 => by show g1 k = _; rw [pfr k (by simp only [List.mem_cons, List.not_mem_nil, or_false, not_or] <;> omega)]), hlc, hl96⟩, hS.fr (fun k hk1 hk2 => by show g1 k = _; rw [pfr k (by simp only [List.mem_cons, List.not_mem_nil, or_false, not_or] <;> omega)]), ⟨_, pf1, _, _, hP1⟩, ⟨w0, w1, (show g1 62 = g 62 from by rw [pfr _ (by simp only [List.mem_cons, List.not_mem_nil, or_false, not_or] <;> omega)]).trans f62⟩⟩, (fun k hk => by show g1 k = _; rw [pfr k (by simp only [List.mem_cons, List.not_mem_nil, or_false, not_or] <;> omega)])⟩

set_option maxHeartbeats 4000000 in
set_option maxRecDepth 100000 in
theorem c_diffLog {l : Launch} {G : va_G} {cy : Nat → ClassId} {N : Nat} {ad : Nat → Nat} {g : Nat → va_E} {M : M4} {lg : List Nat} {lr lt : Nat → Int32} {st T : Nat} {p : Nat → Nat} {x : Nat → TT} (hX : XAt cy N ad g M lg lr lt st T p x) : MI l G cy (N, ad, g) yX8_differencesOfLog cX8_differencesOfLog 1 (some .int) (rmN 4) [.ref (ad 0)] (nA N ad (fun v g1 => v = nI (dfq (rsq M (gl lg) 0) lr lg.length) ∧ XAt cy N ad g1 M lg lr lt st T p x ∧ ∀ k, 63 ≤ k → g1 k = g k)) := by
  refine NI.mk (by decide) (by intros; first | rfl | (simp_all; done)) (Nat.le_of_ble_eq_true rfl) ?_
  intro jp je js jm below meth jc A Q X hW ret ls hl
  have jx := X.hx
  have jb := X.hb
  have hl : lv_has ls 1 [(0, .ref (ad 0))] := hl
  have X : Cx G cy jp js jm _ jc cX8_differencesOfLog 1 RX8 A js.heap := X
  obtain ⟨f0, hM, ⟨fc, hL, hlc, hl96⟩, hS, ⟨psz, pf, mt, ltt, hP⟩, ⟨w0, w1, f62⟩⟩ := id hX
  obtain ⟨hok, h83, bc_, fs_, f1, -⟩ := id hM
  obtain ⟨-, hRL, hst, f4, f8⟩ := id hL
  have f5 := hRL.2.2.2.2.2.2.2.1
  have hlen := hRL.2.2.2.2.2.2.1
  obtain ⟨-, hT, hp12, hinj, ⟨ft, fm, f9, f10, f11, hft⟩, hx⟩ := id hS
  obtain ⟨-, hpsz, f60, f61⟩ := id hP
  refine lv_aload_n jx jb dX8_differencesOfLog_0 rfl (lv_at hl 0 rfl) ?_
  refine w_get X hW K8 (by omega) f0 3 (by decide) fl_X8_35 rfl dX8_differencesOfLog_1 ?_
  refine lv_aload_n jx jb dX8_differencesOfLog_4 rfl (lv_at hl 0 rfl) ?_
  refine w_get X hW K8 (by omega) f0 1 (by decide) fl_X8_19 rfl dX8_differencesOfLog_5 ?_
  refine w_getN X hW K1 (by omega) f4 0 (by decide) fn_X8_108 rfl dX8_differencesOfLog_8 ?_
  refine w_nVv (As := [.ref (ad 5)]) X hW (c_play hM hP hRL (fun i hi => ⟨hlc i hi, hl96 _ (gl_mem hi)⟩) (by omega)) (by omega) f60 rfl rfl ml_X8_115 mf_X4_play ⟨Nat.le_of_ble_eq_true rfl, Nat.le_of_ble_eq_true rfl⟩ hl.1 rfl (Nat.le_of_ble_eq_true rfl) ⟨Nat.le_of_ble_eq_true rfl, Nat.le_of_ble_eq_true rfl⟩ dX8_differencesOfLog_11 (fun g1 H locs hp hW => ?_)
  obtain ⟨pf1, hP1, hres, pfr⟩ := hp
  obtain ⟨-, -, p60, p61⟩ := id hP1
  have hf1 : g1 0 = .inr (8, [.ref (ad 1), .ref (ad 4), .ref (ad 9), .ref (ad 60), .ref (ad 62)]) := (pfr 0 (by simp only [List.mem_cons, List.not_mem_nil, or_false, not_or] <;> omega)).trans f0
  have hf2 : g1 4 = .inr (1, [.ref (ad 5), .ref (ad 8), .int (nI st)]) := (pfr 4 (by simp only [List.mem_cons, List.not_mem_nil, or_false, not_or] <;> omega)).trans f4
  have hf3 : g1 5 = .inr (5, [.ref (ad 6), .ref (ad 7), .int (nI lg.length)]) := (pfr 5 (by simp only [List.mem_cons, List.not_mem_nil, or_false, not_or] <;> omega)).trans f5
  have hRL1 := hRL.fr (pfr 5 (by simp only [List.mem_cons, List.not_mem_nil, or_false, not_or] <;> omega)) (pfr 6 (by simp only [List.mem_cons, List.not_mem_nil, or_false, not_or] <;> omega)) (pfr 7 (by simp only [List.mem_cons, List.not_mem_nil, or_false, not_or] <;> omega))
  refine lv_aload_n jx jb dX8_differencesOfLog_14 rfl (lv_at hl 0 rfl) ?_
  refine w_get X hW K8 (by omega) hf1 3 (by decide) fl_X8_35 rfl dX8_differencesOfLog_15 ?_
  refine lv_aload_n jx jb dX8_differencesOfLog_18 rfl (lv_at hl 0 rfl) ?_
  refine w_get X hW K8 (by omega) hf1 1 (by decide) fl_X8_19 rfl dX8_differencesOfLog_19 ?_
  refine w_getN X hW K1 (by omega) hf2 0 (by decide) fn_X8_108 rfl dX8_differencesOfLog_22 ?_
  refine w_rV (As := [.ref (ad 5)]) X hW (c_differences hP1 hRL1) (by omega) p60 rfl rfl ml_X8_215 mf_X4_differences ⟨Nat.le_of_ble_eq_true rfl, Nat.le_of_ble_eq_true rfl⟩ hl.1 rfl (Nat.le_of_ble_eq_true rfl) ⟨Nat.le_of_ble_eq_true rfl, Nat.le_of_ble_eq_true rfl⟩ dX8_differencesOfLog_25 (fun H locs hW => ?_)
  refine top_eq (y := nI (dfq (rsq M (gl lg) 0) lr lg.length)) (congrArg nI (dfq_congr hres (fun i hi => rfl))) ?_
  exact ret _ _ _ _ _ _ dX8_differencesOfLog_28 hW ⟨rfl, ⟨hf1, hM.fr (fun k hk => by show g1 k = _; rw [pfr k (by simp only [List.mem_cons, List.not_mem_nil, or_false, not_or] <;> omega)]), ⟨fc, hL.fr (fun k hk1 hk2 => by show g1 k = _; rw [pfr k (by simp only [List.mem_cons, List.not_mem_nil, or_false, not_or] <;> omega)]), hlc, hl96⟩, hS.fr (fun k hk1 hk2 => by show g1 k = _; rw [pfr k (by simp only [List.mem_cons, List.not_mem_nil, or_false, not_or] <;> omega)]), ⟨_, pf1, _, _, hP1⟩, ⟨w0, w1, (show g1 62 = g 62 from by rw [pfr _ (by simp only [List.mem_cons, List.not_mem_nil, or_false, not_or] <;> omega)]).trans f62⟩⟩, (fun k hk => by show g1 k = _; rw [pfr k (by simp only [List.mem_cons, List.not_mem_nil, or_false, not_or] <;> omega)])⟩

set_option maxHeartbeats 4000000 in
set_option maxRecDepth 100000 in
theorem c_differsNo {l : Launch} {G : va_G} {cy : Nat → ClassId} {N : Nat} {ad : Nat → Nat} {g : Nat → va_E} {M : M4} {lg : List Nat} {lr lt : Nat → Int32} {st T : Nat} {p : Nat → Nat} {x : Nat → TT} {i : Int32} (hX : XAt cy N ad g M lg lr lt st T p x) (hno : ¬ (0 ≤ i ∧ i < nI T)) : RI l G cy (N, ad, g) yX8_differs cX8_differs 3 (some .int) (rmN 5) [.ref (ad 0), .int i] (-1) := by
  refine RI.mk (by decide) (by first | rfl | exact bI_nar) (Nat.le_of_ble_eq_true rfl) ?_
  intro jp je js jm below meth jc A Q X hW ret ls hl
  have jx := X.hx
  have jb := X.hb
  have hl : lv_has ls 3 [(0, .ref (ad 0)), (1, .int i)] := hl
  have X : Cx G cy jp js jm _ jc cX8_differs 3 RX8 A js.heap := X
  obtain ⟨f0, hM, ⟨fc, hL, hlc, hl96⟩, hS, ⟨psz, pf, mt, ltt, hP⟩, ⟨w0, w1, f62⟩⟩ := id hX
  obtain ⟨hok, h83, bc_, fs_, f1, -⟩ := id hM
  obtain ⟨-, hRL, hst, f4, f8⟩ := id hL
  have f5 := hRL.2.2.2.2.2.2.2.1
  have hlen := hRL.2.2.2.2.2.2.1
  obtain ⟨-, hT, hp12, hinj, ⟨ft, fm, f9, f10, f11, hft⟩, hx⟩ := id hS
  obtain ⟨-, hpsz, f60, f61⟩ := id hP
  refine lv_aload_n jx jb dX8_differs_0 rfl (lv_at hl 0 rfl) ?_
  refine w_get X hW K8 (by omega) f0 2 (by decide) fl_X8_26 rfl dX8_differs_1 ?_
  refine lv_iload_n jx jb dX8_differs_4 rfl (lv_at hl 1 rfl) ?_
  refine w_rVr (As := [.int i]) X hW (c_at hS) (by omega) f9 rfl rfl ml_X8_143 mf_X7_at ⟨Nat.le_of_ble_eq_true rfl, Nat.le_of_ble_eq_true rfl⟩ hl.1 rfl (Nat.le_of_ble_eq_true rfl) ⟨Nat.le_of_ble_eq_true rfl, Nat.le_of_ble_eq_true rfl⟩ dX8_differs_5 (fun H locs hW => ?_)
  refine top_q (y := none) (if_neg hno) ?_
  refine lv_astore_nN (lv' := [(2, .null), (0, .ref (ad 0)), (1, .int i)]) jx jb dX8_differs_8 rfl hl (by decide) rfl (fun ls hl => ?_)
  refine lv_aload_nN jx jb dX8_differs_9 rfl (lv_at hl 0 rfl) ?_
  refine lv_ifnonnullN jx jb dX8_differs_10 ?_
  refine lv_iconst (v := -1) jx jb dX8_differs_13 (by decide) ?_
  refine lv_goto (tgt := 22) jx jb dX8_differs_14 (by decide) ?_
  exact ret _ _ _ _ _ dX8_differs_22 hW rfl

set_option maxHeartbeats 4000000 in
set_option maxRecDepth 100000 in
theorem c_differs {l : Launch} {G : va_G} {cy : Nat → ClassId} {N : Nat} {ad : Nat → Nat} {g : Nat → va_E} {M : M4} {lg : List Nat} {lr lt : Nat → Int32} {st T : Nat} {p : Nat → Nat} {x : Nat → TT} {j : Nat} (hX : XAt cy N ad g M lg lr lt st T p x) (hj : j < T) : MI l G cy (N, ad, g) yX8_differs cX8_differs 3 (some .int) (rmN 5) [.ref (ad 0), .int (nI j)] (nA N ad (fun v g1 => v = fdT M (x (p j)) ∧ XAt cy N ad g1 M lg lr lt st T p x ∧ ∀ k, 63 ≤ k → g1 k = g k)) := by
  refine NI.mk (by decide) (by intros; first | rfl | (simp_all; done)) (Nat.le_of_ble_eq_true rfl) ?_
  intro jp je js jm below meth jc A Q X hW ret ls hl
  have jx := X.hx
  have jb := X.hb
  have hl : lv_has ls 3 [(0, .ref (ad 0)), (1, .int (nI j))] := hl
  have X : Cx G cy jp js jm _ jc cX8_differs 3 RX8 A js.heap := X
  obtain ⟨f0, hM, ⟨fc, hL, hlc, hl96⟩, hS, ⟨psz, pf, mt, ltt, hP⟩, ⟨w0, w1, f62⟩⟩ := id hX
  obtain ⟨hok, h83, bc_, fs_, f1, -⟩ := id hM
  obtain ⟨-, hRL, hst, f4, f8⟩ := id hL
  have f5 := hRL.2.2.2.2.2.2.2.1
  have hlen := hRL.2.2.2.2.2.2.1
  obtain ⟨-, hT, hp12, hinj, ⟨ft, fm, f9, f10, f11, hft⟩, hx⟩ := id hS
  obtain ⟨-, hpsz, f60, f61⟩ := id hP
  refine lv_aload_n jx jb dX8_differs_0 rfl (lv_at hl 0 rfl) ?_
  refine w_get X hW K8 (by omega) f0 2 (by decide) fl_X8_26 rfl dX8_differs_1 ?_
  refine lv_iload_n jx jb dX8_differs_4 rfl (lv_at hl 1 rfl) ?_
  refine w_rVr (As := [.int (nI j)]) X hW (c_at hS) (by omega) f9 rfl rfl ml_X8_143 mf_X7_at ⟨Nat.le_of_ble_eq_true rfl, Nat.le_of_ble_eq_true rfl⟩ hl.1 rfl (Nat.le_of_ble_eq_true rfl) ⟨Nat.le_of_ble_eq_true rfl, Nat.le_of_ble_eq_true rfl⟩ dX8_differs_5 (fun H locs hW => ?_)
  refine top_q (y := some (ad (12 + 4 * p j))) (by rw [if_pos ⟨i_0le (by omega), nI_lt hj (by omega)⟩, i_cl (by omega)]) ?_
  refine lv_astore_n (lv' := [(2, .ref (ad (12 + 4 * p j))), (0, .ref (ad 0)), (1, .int (nI j))]) jx jb dX8_differs_8 rfl hl (by decide) rfl (fun ls hl => ?_)
  refine lv_aload_n jx jb dX8_differs_9 rfl (lv_at hl 0 rfl) ?_
  refine lv_ifnonnull (tgt := 17) jx jb dX8_differs_10 (by decide) ?_
  refine lv_aload_n jx jb dX8_differs_17 rfl (lv_at hl 1 rfl) ?_
  refine lv_aload_n jx jb dX8_differs_18 rfl (lv_at hl 0 rfl) ?_
  refine w_nV (As := [.ref (ad (12 + 4 * p j))]) X hW (c_xFirstDiff hX hj) (by omega) f0 rfl rfl ml_X8_155 mf_X8_firstDifference ⟨Nat.le_of_ble_eq_true rfl, Nat.le_of_ble_eq_true rfl⟩ hl.1 rfl (Nat.le_of_ble_eq_true rfl) ⟨Nat.le_of_ble_eq_true rfl, Nat.le_of_ble_eq_true rfl⟩ dX8_differs_19 (fun r1 g1 H locs hp hW => ?_)
  obtain ⟨er, hX1, pfr⟩ := hp
  refine top_eq (y := fdT M (x (p j))) (er) ?_
  exact ret _ _ _ _ _ _ dX8_differs_22 hW ⟨rfl, hX1, pfr⟩

set_option maxHeartbeats 4000000 in
set_option maxRecDepth 100000 in
theorem c_acceptNo {l : Launch} {G : va_G} {cy : Nat → ClassId} {N : Nat} {ad : Nat → Nat} {g : Nat → va_E} {M : M4} {lg : List Nat} {lr lt : Nat → Int32} {st T : Nat} {p : Nat → Nat} {x : Nat → TT} {i : Int32} (hX : XAt cy N ad g M lg lr lt st T p x) (hno : ¬ (0 ≤ i ∧ i < nI T)) : RI l G cy (N, ad, g) yX8_accept cX8_accept 3 (some .boolean) (rmN 4) [.ref (ad 0), .int i] 0 := by
  refine RI.mk (by decide) (by first | rfl | exact bI_nar) (Nat.le_of_ble_eq_true rfl) ?_
  intro jp je js jm below meth jc A Q X hW ret ls hl
  have jx := X.hx
  have jb := X.hb
  have hl : lv_has ls 3 [(0, .ref (ad 0)), (1, .int i)] := hl
  have X : Cx G cy jp js jm _ jc cX8_accept 3 RX8 A js.heap := X
  obtain ⟨f0, hM, ⟨fc, hL, hlc, hl96⟩, hS, ⟨psz, pf, mt, ltt, hP⟩, ⟨w0, w1, f62⟩⟩ := id hX
  obtain ⟨hok, h83, bc_, fs_, f1, -⟩ := id hM
  obtain ⟨-, hRL, hst, f4, f8⟩ := id hL
  have f5 := hRL.2.2.2.2.2.2.2.1
  have hlen := hRL.2.2.2.2.2.2.1
  obtain ⟨-, hT, hp12, hinj, ⟨ft, fm, f9, f10, f11, hft⟩, hx⟩ := id hS
  obtain ⟨-, hpsz, f60, f61⟩ := id hP
  refine lv_aload_n jx jb dX8_accept_0 rfl (lv_at hl 0 rfl) ?_
  refine w_get X hW K8 (by omega) f0 2 (by decide) fl_X8_26 rfl dX8_accept_1 ?_
  refine lv_iload_n jx jb dX8_accept_4 rfl (lv_at hl 1 rfl) ?_
  refine w_rVr (As := [.int i]) X hW (c_at hS) (by omega) f9 rfl rfl ml_X8_143 mf_X7_at ⟨Nat.le_of_ble_eq_true rfl, Nat.le_of_ble_eq_true rfl⟩ hl.1 rfl (Nat.le_of_ble_eq_true rfl) ⟨Nat.le_of_ble_eq_true rfl, Nat.le_of_ble_eq_true rfl⟩ dX8_accept_5 (fun H locs hW => ?_)
  refine top_q (y := none) (if_neg hno) ?_
  refine lv_astore_nN (lv' := [(2, .null), (0, .ref (ad 0)), (1, .int i)]) jx jb dX8_accept_8 rfl hl (by decide) rfl (fun ls hl => ?_)
  refine lv_aload_nN jx jb dX8_accept_9 rfl (lv_at hl 0 rfl) ?_
  refine lv_ifnonnullN jx jb dX8_accept_10 ?_
  refine lv_iconst (v := 0) jx jb dX8_accept_13 (by decide) ?_
  exact ret _ _ _ _ _ dX8_accept_14 hW rfl

set_option maxHeartbeats 4000000 in
set_option maxRecDepth 100000 in
theorem c_accept {l : Launch} {G : va_G} {cy : Nat → ClassId} {N : Nat} {ad : Nat → Nat} {g : Nat → va_E} {M : M4} {lg : List Nat} {lr lt : Nat → Int32} {st T : Nat} {p : Nat → Nat} {x : Nat → TT} {j : Nat} (hX : XAt cy N ad g M lg lr lt st T p x) (hj : j < T) : MI l G cy (N, ad, g) yX8_accept cX8_accept 3 (some .boolean) (rmN 4) [.ref (ad 0), .int (nI j)] (nA N ad (fun v g1 => v = 1 ∧ XAt cy N ad g1 M lg lr lt st T p (va_up x (p j) (stl M (x (p j)))) ∧ ∀ k, 63 ≤ k → g1 k = g k)) := by
  refine NI.mk (by decide) (by intro v g1 h; rw [h.1]; decide) (Nat.le_of_ble_eq_true rfl) ?_
  intro jp je js jm below meth jc A Q X hW ret ls hl
  have jx := X.hx
  have jb := X.hb
  have hl : lv_has ls 3 [(0, .ref (ad 0)), (1, .int (nI j))] := hl
  have X : Cx G cy jp js jm _ jc cX8_accept 3 RX8 A js.heap := X
  obtain ⟨f0, hM, ⟨fc, hL, hlc, hl96⟩, hS, ⟨psz, pf, mt, ltt, hP⟩, ⟨w0, w1, f62⟩⟩ := id hX
  obtain ⟨hok, h83, bc_, fs_, f1, -⟩ := id hM
  obtain ⟨-, hRL, hst, f4, f8⟩ := id hL
  have f5 := hRL.2.2.2.2.2.2.2.1
  have hlen := hRL.2.2.2.2.2.2.1
  obtain ⟨-, hT, hp12, hinj, ⟨ft, fm, f9, f10, f11, hft⟩, hx⟩ := id hS
  obtain ⟨-, hpsz, f60, f61⟩ := id hP
  have hpj := hp12 j (by omega)
  obtain ⟨tfc, tfr, t1, tR, tc, t96, ta⟩ := hx (p j) hpj
  have htl := tR.2.2.2.2.2.2.1
  refine lv_aload_n jx jb dX8_accept_0 rfl (lv_at hl 0 rfl) ?_
  refine w_get X hW K8 (by omega) f0 2 (by decide) fl_X8_26 rfl dX8_accept_1 ?_
  refine lv_iload_n jx jb dX8_accept_4 rfl (lv_at hl 1 rfl) ?_
  refine w_rVr (As := [.int (nI j)]) X hW (c_at hS) (by omega) f9 rfl rfl ml_X8_143 mf_X7_at ⟨Nat.le_of_ble_eq_true rfl, Nat.le_of_ble_eq_true rfl⟩ hl.1 rfl (Nat.le_of_ble_eq_true rfl) ⟨Nat.le_of_ble_eq_true rfl, Nat.le_of_ble_eq_true rfl⟩ dX8_accept_5 (fun H locs hW => ?_)
  refine top_q (y := some (ad (12 + 4 * p j))) (by rw [if_pos ⟨i_0le (by omega), nI_lt hj (by omega)⟩, i_cl (by omega)]) ?_
  refine lv_astore_n (lv' := [(2, .ref (ad (12 + 4 * p j))), (0, .ref (ad 0)), (1, .int (nI j))]) jx jb dX8_accept_8 rfl hl (by decide) rfl (fun ls hl => ?_)
  refine lv_aload_n jx jb dX8_accept_9 rfl (lv_at hl 0 rfl) ?_
  refine lv_ifnonnull (tgt := 15) jx jb dX8_accept_10 (by decide) ?_
  refine lv_aload_n jx jb dX8_accept_15 rfl (lv_at hl 1 rfl) ?_
  refine w_get X hW K8 (by omega) f0 3 (by decide) fl_X8_35 rfl dX8_accept_16 ?_
  refine lv_aload_n jx jb dX8_accept_19 rfl (lv_at hl 0 rfl) ?_
  refine w_getN X hW K3 (by omega) t1 0 (by decide) fn_X8_102 rfl dX8_accept_20 ?_
  refine w_nVv (As := [.ref (ad (13 + 4 * p j))]) X hW (c_play hM hP tR (fun i hi => ⟨tc i hi, t96 _ (gl_mem hi)⟩) (by omega)) (by omega) f60 rfl rfl ml_X8_115 mf_X4_play ⟨Nat.le_of_ble_eq_true rfl, Nat.le_of_ble_eq_true rfl⟩ hl.1 rfl (Nat.le_of_ble_eq_true rfl) ⟨Nat.le_of_ble_eq_true rfl, Nat.le_of_ble_eq_true rfl⟩ dX8_accept_23 (fun g1 H locs hp hW => ?_)
  obtain ⟨pf1, hP1, hres, pfr⟩ := hp
  obtain ⟨-, -, p60, p61⟩ := id hP1
  have hf1 : g1 0 = .inr (8, [.ref (ad 1), .ref (ad 4), .ref (ad 9), .ref (ad 60), .ref (ad 62)]) := (pfr 0 (by simp only [List.mem_cons, List.not_mem_nil, or_false, not_or] <;> omega)).trans f0
  have hf2 : g1 9 = .inr (7, [.ref (ad 10), .ref (ad 11), .int (nI T)]) := (pfr 9 (by simp only [List.mem_cons, List.not_mem_nil, or_false, not_or] <;> omega)).trans f9
  have hf3 : g1 (12 + 4 * p j) = .inr (3, [.ref (ad (13 + 4 * p j)), .int ((x (p j)).2.2.1), .int (bI ((x (p j)).2.2.2.1 = true)), .int (bI ((x (p j)).2.2.2.2 = true))]) := (pfr (12 + 4 * p j) (by simp only [List.mem_cons, List.not_mem_nil, or_false, not_or] <;> omega)).trans t1
  have hf4 : g1 (13 + 4 * p j) = .inr (5, [.ref (ad (14 + 4 * p j)), .ref (ad (15 + 4 * p j)), .int (nI (x (p j)).1.length)]) := (pfr (13 + 4 * p j) (by simp only [List.mem_cons, List.not_mem_nil, or_false, not_or] <;> omega)).trans tR.2.2.2.2.2.2.2.1
  have tR1 := tR.fr (pfr (13 + 4 * p j) (by simp only [List.mem_cons, List.not_mem_nil, or_false, not_or] <;> omega)) (pfr (14 + 4 * p j) (by simp only [List.mem_cons, List.not_mem_nil, or_false, not_or] <;> omega)) (pfr (15 + 4 * p j) (by simp only [List.mem_cons, List.not_mem_nil, or_false, not_or] <;> omega))
  refine lv_aload_n jx jb dX8_accept_26 rfl (lv_at hl 0 rfl) ?_
  refine lv_aload_n jx jb dX8_accept_27 rfl (lv_at hl 1 rfl) ?_
  refine w_get X hW K8 (by omega) hf1 3 (by decide) fl_X8_35 rfl dX8_accept_28 ?_
  refine w_nVv (As := [.ref (ad 60)]) X hW (c_settle hP1 tR1 (by omega) (by omega) hf3 (by omega)) (by omega) hf3 rfl rfl ml_X8_133 mf_X3_settle ⟨Nat.le_of_ble_eq_true rfl, Nat.le_of_ble_eq_true rfl⟩ hl.1 rfl (Nat.le_of_ble_eq_true rfl) ⟨Nat.le_of_ble_eq_true rfl, Nat.le_of_ble_eq_true rfl⟩ dX8_accept_31 (fun g2 H locs hp hW => ?_)
  obtain ⟨f2, s1, sR, sres, sfr⟩ := hp
  refine lv_iconst (v := 1) jx jb dX8_accept_34 (by decide) ?_
  exact ret _ _ _ _ _ _ dX8_accept_35 hW ⟨rfl, ⟨((show g2 0 = g 0 from by rw [sfr _ (by simp only [List.mem_cons, List.not_mem_nil, or_false, not_or] <;> omega), pfr _ (by simp only [List.mem_cons, List.not_mem_nil, or_false, not_or] <;> omega)]).trans f0), hM.fr (fun k hk => by show g2 k = _; rw [sfr k (by simp only [List.mem_cons, List.not_mem_nil, or_false, not_or] <;> omega), pfr k (by simp only [List.mem_cons, List.not_mem_nil, or_false, not_or] <;> omega)]), ⟨fc, hL.fr (fun k hk1 hk2 => by show g2 k = _; rw [sfr k (by simp only [List.mem_cons, List.not_mem_nil, or_false, not_or] <;> omega), pfr k (by simp only [List.mem_cons, List.not_mem_nil, or_false, not_or] <;> omega)]), hlc, hl96⟩, hS.put (t := stl M (x (p j))) (fun k k1 k2 k3 k4 k5 k6 => by show g2 k = _; rw [sfr k (by simp only [List.mem_cons, List.not_mem_nil, or_false, not_or]; omega), pfr k (by simp only [List.mem_cons, List.not_mem_nil, or_false, not_or]; omega)]) ⟨tfc, f2, s1, sR, tc, t96, fun i hi => by rw [sres i hi, hres i hi]; rfl⟩, ⟨_, pf1, _, _, hP1.1, hP1.2.1, (sfr 60 (by simp only [List.mem_cons, List.not_mem_nil, or_false, not_or] <;> omega)).trans p60, (sfr 61 (by simp only [List.mem_cons, List.not_mem_nil, or_false, not_or] <;> omega)).trans p61⟩, ⟨w0, w1, (show g2 62 = g 62 from by rw [sfr _ (by simp only [List.mem_cons, List.not_mem_nil, or_false, not_or] <;> omega), pfr _ (by simp only [List.mem_cons, List.not_mem_nil, or_false, not_or] <;> omega)]).trans f62⟩⟩, (fun k hk => by show g2 k = _; rw [sfr k (by simp only [List.mem_cons, List.not_mem_nil, or_false, not_or] <;> omega), pfr k (by simp only [List.mem_cons, List.not_mem_nil, or_false, not_or] <;> omega)])⟩

set_option maxHeartbeats 4000000 in
set_option maxRecDepth 100000 in
theorem c_dropNo {l : Launch} {G : va_G} {cy : Nat → ClassId} {N : Nat} {ad : Nat → Nat} {g : Nat → va_E} {M : M4} {lg : List Nat} {lr lt : Nat → Int32} {st T : Nat} {p : Nat → Nat} {x : Nat → TT} {i : Int32} (hX : XAt cy N ad g M lg lr lt st T p x) (hno : ¬ (0 ≤ i ∧ i < nI T)) : RI l G cy (N, ad, g) yX8_drop cX8_drop 2 (some .boolean) (rmN 2) [.ref (ad 0), .int i] 0 := by
  refine RI.mk (by decide) (by first | rfl | exact bI_nar) (Nat.le_of_ble_eq_true rfl) ?_
  intro jp je js jm below meth jc A Q X hW ret ls hl
  have jx := X.hx
  have jb := X.hb
  have hl : lv_has ls 2 [(0, .ref (ad 0)), (1, .int i)] := hl
  have X : Cx G cy jp js jm _ jc cX8_drop 2 RX8 A js.heap := X
  obtain ⟨f0, hM, ⟨fc, hL, hlc, hl96⟩, hS, ⟨psz, pf, mt, ltt, hP⟩, ⟨w0, w1, f62⟩⟩ := id hX
  obtain ⟨hok, h83, bc_, fs_, f1, -⟩ := id hM
  obtain ⟨-, hRL, hst, f4, f8⟩ := id hL
  have f5 := hRL.2.2.2.2.2.2.2.1
  have hlen := hRL.2.2.2.2.2.2.1
  obtain ⟨-, hT, hp12, hinj, ⟨ft, fm, f9, f10, f11, hft⟩, hx⟩ := id hS
  obtain ⟨-, hpsz, f60, f61⟩ := id hP
  refine lv_aload_n jx jb dX8_drop_0 rfl (lv_at hl 0 rfl) ?_
  refine w_get X hW K8 (by omega) f0 2 (by decide) fl_X8_26 rfl dX8_drop_1 ?_
  refine lv_iload_n jx jb dX8_drop_4 rfl (lv_at hl 1 rfl) ?_
  refine w_rV (As := [.int i]) X hW (c_removeNo hS hno) (by omega) f9 rfl rfl ml_X8_140 mf_X7_remove ⟨Nat.le_of_ble_eq_true rfl, Nat.le_of_ble_eq_true rfl⟩ hl.1 rfl (Nat.le_of_ble_eq_true rfl) ⟨Nat.le_of_ble_eq_true rfl, Nat.le_of_ble_eq_true rfl⟩ dX8_drop_5 (fun H locs hW => ?_)
  exact ret _ _ _ _ _ dX8_drop_8 hW rfl

set_option maxHeartbeats 4000000 in
set_option maxRecDepth 100000 in
theorem c_drop {l : Launch} {G : va_G} {cy : Nat → ClassId} {N : Nat} {ad : Nat → Nat} {g : Nat → va_E} {M : M4} {lg : List Nat} {lr lt : Nat → Int32} {st T : Nat} {p : Nat → Nat} {x : Nat → TT} {j : Nat} (hX : XAt cy N ad g M lg lr lt st T p x) (hj : j < T) : MI l G cy (N, ad, g) yX8_drop cX8_drop 2 (some .boolean) (rmN 2) [.ref (ad 0), .int (nI j)] (nA N ad (fun v g1 => v = 1 ∧ XAt cy N ad g1 M lg lr lt st (T - 1) (rmP p j T) x ∧ ∀ k, 63 ≤ k → g1 k = g k)) := by
  refine NI.mk (by decide) (by intro v g1 h; rw [h.1]; decide) (Nat.le_of_ble_eq_true rfl) ?_
  intro jp je js jm below meth jc A Q X hW ret ls hl
  have jx := X.hx
  have jb := X.hb
  have hl : lv_has ls 2 [(0, .ref (ad 0)), (1, .int (nI j))] := hl
  have X : Cx G cy jp js jm _ jc cX8_drop 2 RX8 A js.heap := X
  obtain ⟨f0, hM, ⟨fc, hL, hlc, hl96⟩, hS, ⟨psz, pf, mt, ltt, hP⟩, ⟨w0, w1, f62⟩⟩ := id hX
  obtain ⟨hok, h83, bc_, fs_, f1, -⟩ := id hM
  obtain ⟨-, hRL, hst, f4, f8⟩ := id hL
  have f5 := hRL.2.2.2.2.2.2.2.1
  have hlen := hRL.2.2.2.2.2.2.1
  obtain ⟨-, hT, hp12, hinj, ⟨ft, fm, f9, f10, f11, hft⟩, hx⟩ := id hS
  obtain ⟨-, hpsz, f60, f61⟩ := id hP
  refine lv_aload_n jx jb dX8_drop_0 rfl (lv_at hl 0 rfl) ?_
  refine w_get X hW K8 (by omega) f0 2 (by decide) fl_X8_26 rfl dX8_drop_1 ?_
  refine lv_iload_n jx jb dX8_drop_4 rfl (lv_at hl 1 rfl) ?_
  refine w_nV (As := [.int (nI j)]) X hW (c_remove hS hj) (by omega) f9 rfl rfl ml_X8_140 mf_X7_remove ⟨Nat.le_of_ble_eq_true rfl, Nat.le_of_ble_eq_true rfl⟩ hl.1 rfl (Nat.le_of_ble_eq_true rfl) ⟨Nat.le_of_ble_eq_true rfl, Nat.le_of_ble_eq_true rfl⟩ dX8_drop_5 (fun r1 g1 H locs hp hW => ?_)
  obtain ⟨er, hS1, pfr⟩ := hp
  exact ret _ _ _ _ _ _ dX8_drop_8 hW ⟨er, ⟨((show g1 0 = g 0 from by rw [pfr _ (by omega)]).trans f0), hM.fr (fun k hk => by show g1 k = _; rw [pfr k (by omega)]), ⟨fc, hL.fr (fun k hk1 hk2 => by show g1 k = _; rw [pfr k (by omega)]), hlc, hl96⟩, hS1, ⟨psz, pf, mt, ltt, h83, hpsz, (show g1 60 = g 60 from by rw [pfr _ (by omega)]).trans f60, (show g1 61 = g 61 from by rw [pfr _ (by omega)]).trans f61⟩, ⟨w0, w1, (show g1 62 = g 62 from by rw [pfr _ (by omega)]).trans f62⟩⟩, (fun k hk => by show g1 k = _; rw [pfr k (by omega)])⟩
