/-! worlds that grow -/
theorem MachAt.grow {cy : Nat → ClassId} {N N' : Nat} {ad ad' : Nat → Nat} {g g' : Nat → va_E} {M : M4} (h : MachAt cy N ad g M) (hN : N ≤ N') (ha : ∀ k, k < N → ad' k = ad k) (hg : ∀ k, k < N → g' k = g k) : MachAt cy N' ad' g' M := by
  obtain ⟨a, b, bc, fs, e1, ⟨fb, e2, e2b⟩, e3, e4, e5, e6⟩ := h
  refine ⟨a, by omega, bc, fs, ?_, ⟨fb, (hg 2 (by omega)).trans e2, fun b hb => ?_⟩, (hg 3 (by omega)).trans e3, e4, fun b hb hq => ?_, e6⟩
  · rw [hg 1 (by omega), e1, ha 2 (by omega), ha 3 (by omega)]
  · rw [e2b b hb]
    by_cases hq : b % 4 < M.1 (b / 4)
    · obtain ⟨n, n1, -, n3, -⟩ := e5 b hb hq
      rw [n1]
      show some (ad n) = some (ad' n)
      rw [ha n n3]
    · rw [e6 b hb hq]
      rfl
  · obtain ⟨n, n1, n2, n3, n4⟩ := e5 b hb hq
    exact ⟨n, n1, n2, by omega, (hg n n3).trans n4⟩
theorem RowAt.grow {cy : Nat → ClassId} {N N' : Nat} {ad ad' : Nat → Nat} {g g' : Nat → va_E} {n c r sz : Nat} {fc fr : Nat → Int32} (h : RowAt cy N ad g n c r sz fc fr) (hN : N ≤ N') (ha : ∀ k, k < N → ad' k = ad k) (hg : ∀ k, k < N → g' k = g k) : RowAt cy N' ad' g' n c r sz fc fr := by
  obtain ⟨a1, a2, a3, a4, a5, a6, a7, a8, a9, a10⟩ := h
  exact ⟨by omega, by omega, by omega, a4, a5, a6, a7, by rw [hg n a1, a8, ha c a2, ha r a3], (hg c a2).trans a9, (hg r a3).trans a10⟩
theorem LogAt.grow {cy : Nat → ClassId} {N N' : Nat} {ad ad' : Nat → Nat} {g g' : Nat → va_E} {sz : Nat} {fc fr ft : Nat → Int32} {st : Nat} (h : LogAt cy N ad g sz fc fr ft st) (hN : N ≤ N') (ha : ∀ k, k < N → ad' k = ad k) (hg : ∀ k, k < N → g' k = g k) : LogAt cy N' ad' g' sz fc fr ft st := by
  obtain ⟨a, b, b2, c, d⟩ := h
  exact ⟨by omega, b.grow hN ha hg, b2, by rw [hg 4 (by omega), c, ha 5 (by omega), ha 8 (by omega)], (hg 8 (by omega)).trans d⟩
theorem TstAt.grow {cy : Nat → ClassId} {N N' : Nat} {ad ad' : Nat → Nat} {g g' : Nat → va_E} {q : Nat} {t : TT} (h : TstAt cy N ad g q t) (hN : N ≤ N') (ha : ∀ k, k < N → ad' k = ad k) (hg : ∀ k, k < N → g' k = g k) : TstAt cy N' ad' g' q t := by
  obtain ⟨fc, fr, a, b, c, d, e⟩ := h
  have h1 : 13 + 4 * q < N := b.1
  exact ⟨fc, fr, by rw [hg _ (by omega), a, ha _ (by omega)], b.grow hN ha hg, c, d, e⟩
theorem SuAt.grow {cy : Nat → ClassId} {N N' : Nat} {ad ad' : Nat → Nat} {g g' : Nat → va_E} {T : Nat} {p : Nat → Nat} {x : Nat → TT} (h : SuAt cy N ad g T p x) (hN : N ≤ N') (ha : ∀ k, k < N → ad' k = ad k) (hg : ∀ k, k < N → g' k = g k) : SuAt cy N' ad' g' T p x := by
  obtain ⟨a, b, c, d, ⟨ft, fm, e1, e2, e3, e4⟩, f⟩ := h
  exact ⟨by omega, b, c, d, ⟨ft, fm, by rw [hg 9 (by omega), e1, ha 10 (by omega), ha 11 (by omega)], (hg 10 (by omega)).trans e2, (hg 11 (by omega)).trans e3, fun i hi => by rw [e4 i hi, ha _ (by have := c i hi; omega)]⟩, fun q hq => (f q hq).grow hN ha hg⟩
theorem XAt.grow {cy : Nat → ClassId} {N N' : Nat} {ad ad' : Nat → Nat} {g g' : Nat → va_E} {M : M4} {lg : List Nat} {lr lt : Nat → Int32} {st T : Nat} {p : Nat → Nat} {x : Nat → TT} (h : XAt cy N ad g M lg lr lt st T p x) (hN : N ≤ N') (ha : ∀ k, k < N → ad' k = ad k) (hg : ∀ k, k < N → g' k = g k) : XAt cy N' ad' g' M lg lr lt st T p x := by
  obtain ⟨a, b, ⟨fc, c1, c2, c3⟩, d, ⟨e1, e2, e3, e4, e5⟩, ⟨f1, f2, f3⟩⟩ := h
  have h83 := b.2.1
  exact ⟨by rw [hg 0 (by omega), a, ha 1 (by omega), ha 4 (by omega), ha 9 (by omega), ha 60 (by omega), ha 62 (by omega)], b.grow hN ha hg, ⟨fc, c1.grow hN ha hg, c2, c3⟩, d.grow hN ha hg, ⟨e1, e2, e3, e4, by omega, e5.2.1, by rw [hg 60 (by omega), e5.2.2.1, ha 1 (by omega), ha 61 (by omega)], (hg 61 (by omega)).trans e5.2.2.2⟩, ⟨f1, f2, by rw [hg 62 (by omega), f3, ha 1 (by omega)]⟩⟩
def addM (M : M4) (k w t r : Nat) : M4 := (va_up M.1 k (M.1 k + 1), va_up M.2.1 (4 * k + M.1 k) w, va_up M.2.2.1 (4 * k + M.1 k) t, va_up M.2.2.2 (4 * k + M.1 k) r)
def setM (M : M4) (b w t r : Nat) : M4 := (M.1, va_up M.2.1 b w, va_up M.2.2.1 b t, va_up M.2.2.2 b r)
theorem add_lt {M : M4} {k b : Nat} (hb : b ≠ 4 * k + M.1 k) : b % 4 < va_up M.1 k (M.1 k + 1) (b / 4) ↔ b % 4 < M.1 (b / 4) := by
  by_cases h : b / 4 = k
  · rw [h, va_up_s]
    omega
  · rw [va_up_n h]
theorem okM_add {M : M4} (hok : okM M) {k w t r : Nat} (hk : k < 6) (hm : M.1 k < 4) (hw : okW w) (ht : okT t) (hr : r < 4) : okM (addM M k w t r) := by
  refine ⟨fun j hj => ?_, fun b hb hq => ?_⟩
  · show va_up M.1 k (M.1 k + 1) j ≤ 4
    by_cases e : j = k
    · rw [e, va_up_s]; omega
    · rw [va_up_n e]; exact hok.1 j hj
  · show okW (va_up M.2.1 (4 * k + M.1 k) w b) ∧ okT (va_up M.2.2.1 (4 * k + M.1 k) t b) ∧ va_up M.2.2.2 (4 * k + M.1 k) r b < 4
    by_cases e : b = 4 * k + M.1 k
    · rw [e, va_up_s, va_up_s, va_up_s]
      exact ⟨hw, ht, hr⟩
    · rw [va_up_n e, va_up_n e, va_up_n e]
      exact hok.2 b hb ((add_lt e).mp hq)
theorem okM_set {M : M4} (hok : okM M) {b w t r : Nat} (hw : okW w) (ht : okT t) (hr : r < 4) : okM (setM M b w t r) := by
  refine ⟨hok.1, fun j hj hq => ?_⟩
  show okW (va_up M.2.1 b w j) ∧ okT (va_up M.2.2.1 b t j) ∧ va_up M.2.2.2 b r j < 4
  by_cases e : j = b
  · rw [e, va_up_s, va_up_s, va_up_s]
    exact ⟨hw, ht, hr⟩
  · rw [va_up_n e, va_up_n e, va_up_n e]
    exact hok.2 j hj hq
section MA
variable {cy : Nat → ClassId} {N : Nat} {ad : Nat → Nat} {g g' : Nat → va_E} {M : M4} {bc fB : Nat → Option Nat} {fs : Nat → Int32} {n w t r : Nat}
theorem mach_add {k : Nat} (hok : okM M) (h83 : 83 ≤ N) (f1 : g 1 = .inr (2, [.ref (ad 2), .ref (ad 3)])) (hfb : ∀ b, b < 24 → fB b = (bc b).map ad) (f4 : ∀ k, k < 6 → fs k = nI (M.1 k)) (f5 : ∀ b, b < 24 → b % 4 < M.1 (b / 4) → ∃ n, bc b = some n ∧ 83 ≤ n ∧ n < N ∧ g n = .inr (0, brf (M.2.1 b) (M.2.2.1 b) (M.2.2.2 b))) (f6 : ∀ b, b < 24 → ¬ b % 4 < M.1 (b / 4) → bc b = none)
    (hk : k < 6) (hm : M.1 k < 4) (hw : okW w) (ht : okT t) (hr : r < 4) (hn : n < N) (hn83 : 83 ≤ n) (hgn : g n = .inr (0, brf w t r)) (e2 : g' 2 = .inl (cy 2, 24, .inr (.inr (.inr (.inr (va_up fB (4 * k + M.1 k) (some (ad n)))))))) (e3 : g' 3 = .inl (cy 0, 6, .inl (upd fs k (fs k + 1)))) (hfr : ∀ j, j ≠ 2 → j ≠ 3 → g' j = g j) : MachAt cy N ad g' (addM M k w t r) := by
  refine ⟨okM_add hok hk hm hw ht hr, h83, va_up bc (4 * k + M.1 k) (some n), _, (hfr 1 (by omega) (by omega)).trans f1, ⟨_, e2, fun b hb => ?_⟩, e3, fun j hj => ?_, fun b hb hq => ?_, fun b hb hq => ?_⟩
  · by_cases e : b = 4 * k + M.1 k
    · rw [e, va_up_s, va_up_s]; rfl
    · rw [va_up_n e, va_up_n e]; exact hfb b hb
  · show upd fs k (fs k + 1) j = nI (va_up M.1 k (M.1 k + 1) j)
    by_cases e : j = k
    · rw [e, pk_us, va_up_s, f4 k hk]; exact nI_1 _
    · rw [pk_un e, va_up_n e]; exact f4 j hj
  · show ∃ m, va_up bc (4 * k + M.1 k) (some n) b = some m ∧ 83 ≤ m ∧ m < N ∧ g' m = .inr (0, brf (va_up M.2.1 (4 * k + M.1 k) w b) (va_up M.2.2.1 (4 * k + M.1 k) t b) (va_up M.2.2.2 (4 * k + M.1 k) r b))
    by_cases e : b = 4 * k + M.1 k
    · rw [e, va_up_s, va_up_s, va_up_s, va_up_s]
      exact ⟨n, rfl, hn83, hn, (hfr n (by omega) (by omega)).trans hgn⟩
    · rw [va_up_n e, va_up_n e, va_up_n e, va_up_n e]
      obtain ⟨m, m1, m2, m3, m4⟩ := f5 b hb ((add_lt e).mp hq)
      exact ⟨m, m1, m2, m3, (hfr m (by omega) (by omega)).trans m4⟩
  · by_cases e : b = 4 * k + M.1 k
    · exfalso
      apply hq
      show b % 4 < va_up M.1 k (M.1 k + 1) (b / 4)
      rw [show b / 4 = k by omega, va_up_s]
      omega
    · rw [va_up_n e]
      exact f6 b hb (fun z => hq ((add_lt e).mpr z))
theorem mach_set {b0 : Nat} (hok : okM M) (h83 : 83 ≤ N) (f1 : g 1 = .inr (2, [.ref (ad 2), .ref (ad 3)])) (f3 : g 3 = .inl (cy 0, 6, .inl fs)) (hfb : ∀ b, b < 24 → fB b = (bc b).map ad) (f4 : ∀ k, k < 6 → fs k = nI (M.1 k)) (f5 : ∀ b, b < 24 → b % 4 < M.1 (b / 4) → ∃ n, bc b = some n ∧ 83 ≤ n ∧ n < N ∧ g n = .inr (0, brf (M.2.1 b) (M.2.2.1 b) (M.2.2.2 b))) (f6 : ∀ b, b < 24 → ¬ b % 4 < M.1 (b / 4) → bc b = none)
    (hb0 : b0 < 24) (hm : b0 % 4 < M.1 (b0 / 4)) (hw : okW w) (ht : okT t) (hr : r < 4) (hn : n < N) (hn83 : 83 ≤ n) (hgn : g n = .inr (0, brf w t r)) (e2 : g' 2 = .inl (cy 2, 24, .inr (.inr (.inr (.inr (va_up fB b0 (some (ad n)))))))) (hfr : ∀ j, j ≠ 2 → g' j = g j) : MachAt cy N ad g' (setM M b0 w t r) := by
  refine ⟨okM_set hok hw ht hr, h83, va_up bc b0 (some n), fs, (hfr 1 (by omega)).trans f1, ⟨_, e2, fun b hb => ?_⟩, (hfr 3 (by omega)).trans f3, f4, fun b hb hq => ?_, fun b hb hq => ?_⟩
  · by_cases e : b = b0
    · rw [e, va_up_s, va_up_s]; rfl
    · rw [va_up_n e, va_up_n e]; exact hfb b hb
  · show ∃ m, va_up bc b0 (some n) b = some m ∧ 83 ≤ m ∧ m < N ∧ g' m = .inr (0, brf (va_up M.2.1 b0 w b) (va_up M.2.2.1 b0 t b) (va_up M.2.2.2 b0 r b))
    by_cases e : b = b0
    · rw [e, va_up_s, va_up_s, va_up_s, va_up_s]
      exact ⟨n, rfl, hn83, hn, (hfr n (by omega)).trans hgn⟩
    · rw [va_up_n e, va_up_n e, va_up_n e, va_up_n e]
      obtain ⟨m, m1, m2, m3, m4⟩ := f5 b hb hq
      exact ⟨m, m1, m2, m3, (hfr m (by omega)).trans m4⟩
  · have e : b ≠ b0 := fun z => hq (by rw [z]; exact hm)
    rw [va_up_n e]
    exact f6 b hb hq
end MA
section WI
variable {p : Program} {l : Launch} {e : Env} {R : Room} {s : State} {m : MethodId} {args : Array Value} {below : List Frame} {meth : Method} {c : Code} {H : Heap} {locs : List Loc} {cells slots : Nat} {Q : State → Prop}
variable {cc : ByteArray} {pc : Nat} {ls : Array Slot} {rest st0 : List Value} {G : va_G} {cy : Nat → ClassId} {A : Nat → Prop} {H0 : Heap} {nL : Nat} {own : String}
variable {y : MethodName} {cc' : ByteArray} {nL' idx : Nat} {rm : Room} {As : List Value} {N b : Nat} {ad : Nat → Nat} {g : Nat → va_E}
theorem w_nIv (X : Cx G cy p s m args c cc nL own A H0) (hW : Wd G A H0 (N, ad, g) H locs) {P : (Nat → va_E) → Prop} (hM : MV l G cy (N, ad, g) y cc' nL' none rm (.ref b :: As) (nV N ad P)) (hl : Cond.methodLink own idx y ∈ tg) (hm : MthI y cc' nL' As.length)
    (hR : rm.frames + 1 ≤ R.frames ∧ 8 + (nL' + 11) + rm.locals ≤ R.locals) (hls : ls.size = nL) (hst : st0 = As.reverse ++ .ref b :: rest) (hcat : (rest.map fun v => v.category).sum ≤ 8) (hf : cells + rm.cells ≤ R.cells ∧ slots + rm.slots ≤ R.slots) (hdg : decode cc pc = .ok (.invokespecial idx, 3))
    (kk : ∀ (g1 : Nat → va_E) (H1 : Heap) (locs1 : List Loc), P g1 → Wd G A H0 (N, ad, g1) H1 locs1 → W p l e R s m args below meth c H1 locs1 (cells + rm.cells) (slots + rm.slots) Q (F0 m (pc + 3) ls rest)) : W p l e R s m args below meth c H locs cells slots Q (F0 m pc ls st0) :=
  w_cIv (w := (N, ad, g)) X hW hM hl hm hR hls hst hcat hdg hf (fun u H1 locs1 hp hW1 => by obtain ⟨N1, ad1, g1⟩ := u; obtain ⟨h1, h2, h3⟩ := hp; dsimp only at h1 h2 h3; rw [h1, h2] at hW1; exact kk g1 H1 locs1 h3 hW1)
end WI

theorem XAt.mach {cy : Nat → ClassId} {N : Nat} {ad : Nat → Nat} {g g' : Nat → va_E} {M M' : M4} {lg : List Nat} {lr lt : Nat → Int32} {st T : Nat} {p : Nat → Nat} {x : Nat → TT} (h : XAt cy N ad g M lg lr lt st T p x) (h1 : ∀ k, k ≠ 2 → k ≠ 3 → g' k = g k) (hM : MachAt cy N ad g' M') : XAt cy N ad g' M' lg lr lt st T p x := by
  obtain ⟨a, b, ⟨fc, c1, c2, c3⟩, d, ⟨e1, e2, e3, e4, e5⟩, ⟨f1, f2, f3⟩⟩ := h
  exact ⟨(h1 0 (by omega) (by omega)).trans a, hM, ⟨fc, c1.fr (fun k _ _ => h1 k (by omega) (by omega)), c2, c3⟩, d.fr (fun k _ _ => h1 k (by omega) (by omega)), ⟨e1, e2, e3, e4, e5.1, e5.2.1, (h1 60 (by omega) (by omega)).trans e5.2.2.1, (h1 61 (by omega) (by omega)).trans e5.2.2.2⟩, ⟨f1, f2, (h1 62 (by omega) (by omega)).trans f3⟩⟩

set_option maxHeartbeats 4000000 in
set_option maxRecDepth 100000 in
theorem c_branchNo {l : Launch} {G : va_G} {cy : Nat → ClassId} {N : Nat} {ad : Nat → Nat} {g : Nat → va_E} {M : M4} {lg : List Nat} {lr lt : Nat → Int32} {st T : Nat} {p : Nat → Nat} {x : Nat → TT} {k a b r : Int32} (hX : XAt cy N ad g M lg lr lt st T p x) (hno : ¬ (hasR M k ∧ okWi a ∧ okTi b ∧ 0 ≤ r ∧ r < 4)) : RI l G cy (N, ad, g) yX8_branch cX8_branch 5 (some .int) (rmN 3) [.ref (ad 0), .int k, .int a, .int b, .int r] (-1) := by
  refine RI.mk (by decide) (by first | rfl | exact bI_nar) (Nat.le_of_ble_eq_true rfl) ?_
  intro jp je js jm below meth jc A Q X hW ret ls hl
  have jx := X.hx
  have jb := X.hb
  have hl : lv_has ls 5 [(0, .ref (ad 0)), (1, .int k), (2, .int a), (3, .int b), (4, .int r)] := hl
  have X : Cx G cy jp js jm _ jc cX8_branch 5 RX8 A js.heap := X
  obtain ⟨f0, hM, ⟨fc, hL, hlc, hl96⟩, hS, ⟨psz, pf, mt, ltt, hP⟩, ⟨w0, w1, f62⟩⟩ := id hX
  obtain ⟨hok, h83, bc_, fs_, f1, -⟩ := id hM
  obtain ⟨-, hRL, hst, f4, f8⟩ := id hL
  have f5 := hRL.2.2.2.2.2.2.2.1
  have hlen := hRL.2.2.2.2.2.2.1
  obtain ⟨-, hT, hp12, hinj, ⟨ft, fm, f9, f10, f11, hft⟩, hx⟩ := id hS
  obtain ⟨-, hpsz, f60, f61⟩ := id hP
  refine lv_aload_n jx jb dX8_branch_0 rfl (lv_at hl 0 rfl) ?_
  refine w_get X hW K8 (by omega) f0 0 (by decide) fl_X8_12 rfl dX8_branch_1 ?_
  refine lv_iload_n jx jb dX8_branch_4 rfl (lv_at hl 1 rfl) ?_
  refine w_rV (As := [.int k]) X hW (c_hasRoom hM) (by omega) f1 rfl rfl ml_X8_46 mf_X2_hasRoom ⟨Nat.le_of_ble_eq_true rfl, Nat.le_of_ble_eq_true rfl⟩ hl.1 rfl (Nat.le_of_ble_eq_true rfl) ⟨Nat.le_of_ble_eq_true rfl, Nat.le_of_ble_eq_true rfl⟩ dX8_branch_5 (fun H locs hW => ?_)
  refine lv_if_eq (tgt := 21) jx jb dX8_branch_8 (by decide) (fun c8 => ?_) (fun c8 => ?_)
  · refine lv_iconst (v := -1) jx jb dX8_branch_21 (by decide) ?_
    exact ret _ _ _ _ _ dX8_branch_22 hW rfl
  · refine lv_iload_n jx jb dX8_branch_11 rfl (lv_at hl 2 rfl) ?_
    refine lv_iload_n jx jb dX8_branch_12 rfl (lv_at hl 3 rfl) ?_
    refine lv_iload jx jb dX8_branch_13 (lv_at hl 4 rfl) ?_
    refine w_rS (As := [.int a, .int b, .int r]) X hW (c_canBe) ml_X8_50 mf_X0_canBe ⟨Nat.le_of_ble_eq_true rfl, Nat.le_of_ble_eq_true rfl⟩ hl.1 rfl (Nat.le_of_ble_eq_true rfl) ⟨Nat.le_of_ble_eq_true rfl, Nat.le_of_ble_eq_true rfl⟩ dX8_branch_15 (fun H locs hW => ?_)
    refine lv_if_ne (tgt := 23) jx jb dX8_branch_18 (by decide) (fun c18 => ?_) (fun c18 => ?_)
    · exact absurd ⟨bI_n0.mp c8, bI_n0.mp c18⟩ hno
    · refine lv_iconst (v := -1) jx jb dX8_branch_21 (by decide) ?_
      exact ret _ _ _ _ _ dX8_branch_22 hW rfl

set_option maxHeartbeats 4000000 in
set_option maxRecDepth 100000 in
theorem c_changeNo {l : Launch} {G : va_G} {cy : Nat → ClassId} {N : Nat} {ad : Nat → Nat} {g : Nat → va_E} {M : M4} {lg : List Nat} {lr lt : Nat → Int32} {st T : Nat} {p : Nat → Nat} {x : Nat → TT} {k a b r : Int32} (hX : XAt cy N ad g M lg lr lt st T p x) (hno : ¬ (isB M k ∧ okWi a ∧ okTi b ∧ 0 ≤ r ∧ r < 4)) : RI l G cy (N, ad, g) yX8_change cX8_change 5 (some .boolean) (rmN 3) [.ref (ad 0), .int k, .int a, .int b, .int r] 0 := by
  refine RI.mk (by decide) (by first | rfl | exact bI_nar) (Nat.le_of_ble_eq_true rfl) ?_
  intro jp je js jm below meth jc A Q X hW ret ls hl
  have jx := X.hx
  have jb := X.hb
  have hl : lv_has ls 5 [(0, .ref (ad 0)), (1, .int k), (2, .int a), (3, .int b), (4, .int r)] := hl
  have X : Cx G cy jp js jm _ jc cX8_change 5 RX8 A js.heap := X
  obtain ⟨f0, hM, ⟨fc, hL, hlc, hl96⟩, hS, ⟨psz, pf, mt, ltt, hP⟩, ⟨w0, w1, f62⟩⟩ := id hX
  obtain ⟨hok, h83, bc_, fs_, f1, -⟩ := id hM
  obtain ⟨-, hRL, hst, f4, f8⟩ := id hL
  have f5 := hRL.2.2.2.2.2.2.2.1
  have hlen := hRL.2.2.2.2.2.2.1
  obtain ⟨-, hT, hp12, hinj, ⟨ft, fm, f9, f10, f11, hft⟩, hx⟩ := id hS
  obtain ⟨-, hpsz, f60, f61⟩ := id hP
  refine lv_aload_n jx jb dX8_change_0 rfl (lv_at hl 0 rfl) ?_
  refine w_get X hW K8 (by omega) f0 0 (by decide) fl_X8_12 rfl dX8_change_1 ?_
  refine lv_iload_n jx jb dX8_change_4 rfl (lv_at hl 1 rfl) ?_
  refine w_rV (As := [.int k]) X hW (c_has hM) (by omega) f1 rfl rfl ml_X8_67 mf_X2_has ⟨Nat.le_of_ble_eq_true rfl, Nat.le_of_ble_eq_true rfl⟩ hl.1 rfl (Nat.le_of_ble_eq_true rfl) ⟨Nat.le_of_ble_eq_true rfl, Nat.le_of_ble_eq_true rfl⟩ dX8_change_5 (fun H locs hW => ?_)
  refine lv_if_eq (tgt := 21) jx jb dX8_change_8 (by decide) (fun c8 => ?_) (fun c8 => ?_)
  · refine lv_iconst (v := 0) jx jb dX8_change_21 (by decide) ?_
    exact ret _ _ _ _ _ dX8_change_22 hW rfl
  · refine lv_iload_n jx jb dX8_change_11 rfl (lv_at hl 2 rfl) ?_
    refine lv_iload_n jx jb dX8_change_12 rfl (lv_at hl 3 rfl) ?_
    refine lv_iload jx jb dX8_change_13 (lv_at hl 4 rfl) ?_
    refine w_rS (As := [.int a, .int b, .int r]) X hW (c_canBe) ml_X8_50 mf_X0_canBe ⟨Nat.le_of_ble_eq_true rfl, Nat.le_of_ble_eq_true rfl⟩ hl.1 rfl (Nat.le_of_ble_eq_true rfl) ⟨Nat.le_of_ble_eq_true rfl, Nat.le_of_ble_eq_true rfl⟩ dX8_change_15 (fun H locs hW => ?_)
    refine lv_if_ne (tgt := 23) jx jb dX8_change_18 (by decide) (fun c18 => ?_) (fun c18 => ?_)
    · exact absurd ⟨bI_n0.mp c8, bI_n0.mp c18⟩ hno
    · refine lv_iconst (v := 0) jx jb dX8_change_21 (by decide) ?_
      exact ret _ _ _ _ _ dX8_change_22 hW rfl

set_option maxHeartbeats 4000000 in
set_option maxRecDepth 100000 in
theorem c_branch {l : Launch} {G : va_G} {cy : Nat → ClassId} {N : Nat} {ad : Nat → Nat} {g : Nat → va_E} {M : M4} {lg : List Nat} {lr lt : Nat → Int32} {st T : Nat} {p : Nat → Nat} {x : Nat → TT} {k w t r : Nat} (hX : XAt cy N ad g M lg lr lt st T p x) (hk : k < 6) (hm : M.1 k < 4) (hw : okW w) (ht : okT t) (hr : r < 4) : MI l G cy (N, ad, g) yX8_branch cX8_branch 5 (some .int) (rmA 3 1 8) [.ref (ad 0), .int (nI k), .int (nI w), .int (nI t), .int (nI r)] (fun v u => ∃ ad1 g1, u = (N + 1, ad1, g1) ∧ v = nI (M.1 k + 1) ∧ XAt cy (N + 1) ad1 g1 (addM M k w t r) lg lr lt st T p (mapT p (tK k) x T) ∧ (∀ j, j < N → ad1 j = ad j) ∧ ∀ j, 63 ≤ j → j < N → g1 j = g j) := by
  refine MI.mk (by decide) (by intro v u h; rfl) (Nat.le_of_ble_eq_true rfl) ?_
  intro jp je js jm below meth jc A Q X hW ret ls hl
  have jx := X.hx
  have jb := X.hb
  have hl : lv_has ls 5 [(0, .ref (ad 0)), (1, .int (nI k)), (2, .int (nI w)), (3, .int (nI t)), (4, .int (nI r))] := hl
  have X : Cx G cy jp js jm _ jc cX8_branch 5 RX8 A js.heap := X
  obtain ⟨f0, hM, ⟨fc, hL, hlc, hl96⟩, hS, ⟨psz, pf, mt, ltt, hP⟩, ⟨w0, w1, f62⟩⟩ := id hX
  obtain ⟨hok, h83, bc_, fs_, f1, -⟩ := id hM
  obtain ⟨-, hRL, hst, f4, f8⟩ := id hL
  have f5 := hRL.2.2.2.2.2.2.2.1
  have hlen := hRL.2.2.2.2.2.2.1
  obtain ⟨-, hT, hp12, hinj, ⟨ft, fm, f9, f10, f11, hft⟩, hx⟩ := id hS
  obtain ⟨-, hpsz, f60, f61⟩ := id hP
  refine lv_aload_n jx jb dX8_branch_0 rfl (lv_at hl 0 rfl) ?_
  refine w_get X hW K8 (by omega) f0 0 (by decide) fl_X8_12 rfl dX8_branch_1 ?_
  refine lv_iload_n jx jb dX8_branch_4 rfl (lv_at hl 1 rfl) ?_
  refine w_rV (As := [.int (nI k)]) X hW (c_hasRoom hM) (by omega) f1 rfl rfl ml_X8_46 mf_X2_hasRoom ⟨Nat.le_of_ble_eq_true rfl, Nat.le_of_ble_eq_true rfl⟩ hl.1 rfl (Nat.le_of_ble_eq_true rfl) ⟨Nat.le_of_ble_eq_true rfl, Nat.le_of_ble_eq_true rfl⟩ dX8_branch_5 (fun H locs hW => ?_)
  refine lv_if_eq (tgt := 21) jx jb dX8_branch_8 (by decide) (fun c8 => ?_) (fun c8 => ?_)
  · exact absurd c8 (bI_n0.mpr ((hasR_nI hk).mpr hm))
  · refine lv_iload_n jx jb dX8_branch_11 rfl (lv_at hl 2 rfl) ?_
    refine lv_iload_n jx jb dX8_branch_12 rfl (lv_at hl 3 rfl) ?_
    refine lv_iload jx jb dX8_branch_13 (lv_at hl 4 rfl) ?_
    refine w_rS (As := [.int (nI w), .int (nI t), .int (nI r)]) X hW (c_canBe) ml_X8_50 mf_X0_canBe ⟨Nat.le_of_ble_eq_true rfl, Nat.le_of_ble_eq_true rfl⟩ hl.1 rfl (Nat.le_of_ble_eq_true rfl) ⟨Nat.le_of_ble_eq_true rfl, Nat.le_of_ble_eq_true rfl⟩ dX8_branch_15 (fun H locs hW => ?_)
    refine lv_if_ne (tgt := 23) jx jb dX8_branch_18 (by decide) (fun c18 => ?_) (fun c18 => ?_)
    · refine lv_aload_n jx jb dX8_branch_23 rfl (lv_at hl 0 rfl) ?_
      refine w_get X hW K8 (by omega) f0 2 (by decide) fl_X8_26 rfl dX8_branch_24 ?_
      refine lv_iload_n jx jb dX8_branch_27 rfl (lv_at hl 1 rfl) ?_
      refine w_nVv (As := [.int (nI k)]) X hW (c_touchCallersOf hS hk) (by omega) f9 rfl rfl ml_X8_56 mf_X7_touchCallersOf ⟨Nat.le_of_ble_eq_true rfl, Nat.le_of_ble_eq_true rfl⟩ hl.1 rfl (Nat.le_of_ble_eq_true rfl) ⟨Nat.le_of_ble_eq_true rfl, Nat.le_of_ble_eq_true rfl⟩ dX8_branch_28 (fun ga H locs hp hW => ?_)
      obtain ⟨hSa, afr⟩ := hp
      have hf1 : ga 0 = .inr (8, [.ref (ad 1), .ref (ad 4), .ref (ad 9), .ref (ad 60), .ref (ad 62)]) := (afr 0 (by omega)).trans f0
      have hf2 : ga 1 = .inr (2, [.ref (ad 2), .ref (ad 3)]) := (afr 1 (by omega)).trans f1
      have hXa : XAt cy N ad ga M lg lr lt st T p (mapT p (tK k) x T) := ⟨hf1, hM.fr (fun k hk => by show ga k = _; rw [afr k (by omega)]), ⟨fc, hL.fr (fun k hk1 hk2 => by show ga k = _; rw [afr k (by omega)]), hlc, hl96⟩, hSa, ⟨psz, pf, mt, ltt, h83, hpsz, (show ga 60 = g 60 from by rw [afr _ (by omega)]).trans f60, (show ga 61 = g 61 from by rw [afr _ (by omega)]).trans f61⟩, ⟨w0, w1, (show ga 62 = g 62 from by rw [afr _ (by omega)]).trans f62⟩⟩
      refine lv_aload_n jx jb dX8_branch_31 rfl (lv_at hl 0 rfl) ?_
      refine w_get X hW K8 (by omega) hf1 0 (by decide) fl_X8_12 rfl dX8_branch_32 ?_
      refine lv_iload_n jx jb dX8_branch_35 rfl (lv_at hl 1 rfl) ?_
      refine w_new X hW K0 cl_X8_51 inst_X0 ini_X0 (fs := [.int 0, .int 0, .int 0, .int 0, .int 0, .int 0, .int 0, .int 0]) (fun j hj => by rcases (show j = 0 ∨ j = 1 ∨ j = 2 ∨ j = 3 ∨ j = 4 ∨ j = 5 ∨ j = 6 ∨ j = 7 by omega) with rfl | rfl | rfl | rfl | rfl | rfl | rfl | rfl <;> rfl) (Nat.le_of_ble_eq_true rfl) (Nat.le_of_ble_eq_true rfl) dX8_branch_36 (fun qa H hW => ?_)
      obtain ⟨ad1, ead⟩ : ∃ zz, zz = va_up ad N qa := ⟨_, rfl⟩
      obtain ⟨gb, egb⟩ : ∃ zz, zz = va_up ga N (.inr (0, [.int 0, .int 0, .int 0, .int 0, .int 0, .int 0, .int 0, .int 0])) := ⟨_, rfl⟩
      have hW : Wd G A js.heap (N + 1, ad1, gb) H locs := by rw [ead, egb]; exact hW
      have hq : ad1 N = qa := by rw [ead]; exact va_up_s
      have ha1 : ∀ k, k < N → ad1 k = ad k := fun k hk => by rw [ead]; exact va_up_n (by omega)
      refine W.eq (g2 := F0 jm 39 ls [.ref (ad1 N), .int (nI k), .ref (ad1 1)]) (by rw [hq, ha1 1 (by omega)]) ?_
      refine lv_dup jx jb dX8_branch_39 rfl ?_
      refine lv_iload_n jx jb dX8_branch_40 rfl (lv_at hl 2 rfl) ?_
      refine lv_iload_n jx jb dX8_branch_41 rfl (lv_at hl 3 rfl) ?_
      refine lv_iload jx jb dX8_branch_42 (lv_at hl 4 rfl) ?_
      refine w_nIv (As := [.int (nI w), .int (nI t), .int (nI r)]) X hW (c_Branch_init (n := N) (by omega) (by rw [egb]; exact va_up_s) hw ht) ml_X8_60 mf_X0_init ⟨Nat.le_of_ble_eq_true rfl, Nat.le_of_ble_eq_true rfl⟩ hl.1 rfl (Nat.le_of_ble_eq_true rfl) ⟨Nat.le_of_ble_eq_true rfl, Nat.le_of_ble_eq_true rfl⟩ dX8_branch_44 (fun gc H locs hp hW => ?_)
      obtain ⟨cN, cfr⟩ := hp
      have hgc : ∀ k, k < N → gc k = ga k := fun k hk => by rw [cfr k (by simp only [List.mem_cons, List.not_mem_nil, or_false, not_or]; omega), egb, va_up_n (by omega)]
      have hXc : XAt cy (N + 1) ad1 gc M lg lr lt st T p (mapT p (tK k) x T) := hXa.grow (by omega) ha1 hgc
      obtain ⟨-, -, bc, fs, m1, ⟨fB, m2, mfb⟩, m3, m4, m5, m6⟩ := id hXc.2.1
      refine w_nV (As := [.int (nI k), .ref (ad1 N)]) X hW (c_mAdd hXc.2.1 m1 m2 m3 m4 hk hm (by omega) cN) (by omega) m1 rfl rfl ml_X8_63 mf_X2_add ⟨Nat.le_of_ble_eq_true rfl, Nat.le_of_ble_eq_true rfl⟩ hl.1 rfl (Nat.le_of_ble_eq_true rfl) ⟨Nat.le_of_ble_eq_true rfl, Nat.le_of_ble_eq_true rfl⟩ dX8_branch_47 (fun r1 gd H locs hp hW => ?_)
      obtain ⟨er, d2, d3, dfr⟩ := hp
      have hMd : MachAt cy (N + 1) ad1 gd (addM M k w t r) := mach_add hok (by omega) m1 mfb m4 m5 m6 hk hm hw ht hr (Nat.lt_succ_self N) h83 cN d2 d3 (fun j j2 j3 => dfr j (by simp only [List.mem_cons, List.not_mem_nil, or_false, not_or]; omega))
      exact ret _ _ _ _ _ _ dX8_branch_50 hW ⟨ad1, gd, rfl, er, hXc.mach (fun j j2 j3 => dfr j (by simp only [List.mem_cons, List.not_mem_nil, or_false, not_or]; omega)) hMd, ha1, fun j h1 h2 => by rw [dfr j (by simp only [List.mem_cons, List.not_mem_nil, or_false, not_or]; omega), hgc j h2, afr j (by omega)]⟩
    · exact absurd c18 (bI_n0.mpr ⟨(okWi_nI (by omega)).mpr hw, (okTi_nI (by omega)).mpr ht, i_0le (by omega), nI_lt (b := 4) hr (by decide)⟩)

set_option maxHeartbeats 4000000 in
set_option maxRecDepth 100000 in
theorem c_change {l : Launch} {G : va_G} {cy : Nat → ClassId} {N : Nat} {ad : Nat → Nat} {g : Nat → va_E} {M : M4} {lg : List Nat} {lr lt : Nat → Int32} {st T : Nat} {p : Nat → Nat} {x : Nat → TT} {k w t r : Nat} (hX : XAt cy N ad g M lg lr lt st T p x) (hk : k < 24) (hm : k % 4 < M.1 (k / 4)) (hw : okW w) (ht : okT t) (hr : r < 4) : MI l G cy (N, ad, g) yX8_change cX8_change 5 (some .boolean) (rmA 3 1 8) [.ref (ad 0), .int (nI k), .int (nI w), .int (nI t), .int (nI r)] (fun v u => ∃ ad1 g1, u = (N + 1, ad1, g1) ∧ v = 1 ∧ XAt cy (N + 1) ad1 g1 (setM M k w t r) lg lr lt st T p (mapT p (tM k) x T) ∧ (∀ j, j < N → ad1 j = ad j) ∧ ∀ j, 63 ≤ j → j < N → g1 j = g j) := by
  refine MI.mk (by decide) (by intro v u h; obtain ⟨_, _, -, h, -⟩ := h; rw [h]; decide) (Nat.le_of_ble_eq_true rfl) ?_
  intro jp je js jm below meth jc A Q X hW ret ls hl
  have jx := X.hx
  have jb := X.hb
  have hl : lv_has ls 5 [(0, .ref (ad 0)), (1, .int (nI k)), (2, .int (nI w)), (3, .int (nI t)), (4, .int (nI r))] := hl
  have X : Cx G cy jp js jm _ jc cX8_change 5 RX8 A js.heap := X
  obtain ⟨f0, hM, ⟨fc, hL, hlc, hl96⟩, hS, ⟨psz, pf, mt, ltt, hP⟩, ⟨w0, w1, f62⟩⟩ := id hX
  obtain ⟨hok, h83, bc_, fs_, f1, -⟩ := id hM
  obtain ⟨-, hRL, hst, f4, f8⟩ := id hL
  have f5 := hRL.2.2.2.2.2.2.2.1
  have hlen := hRL.2.2.2.2.2.2.1
  obtain ⟨-, hT, hp12, hinj, ⟨ft, fm, f9, f10, f11, hft⟩, hx⟩ := id hS
  obtain ⟨-, hpsz, f60, f61⟩ := id hP
  refine lv_aload_n jx jb dX8_change_0 rfl (lv_at hl 0 rfl) ?_
  refine w_get X hW K8 (by omega) f0 0 (by decide) fl_X8_12 rfl dX8_change_1 ?_
  refine lv_iload_n jx jb dX8_change_4 rfl (lv_at hl 1 rfl) ?_
  refine w_rV (As := [.int (nI k)]) X hW (c_has hM) (by omega) f1 rfl rfl ml_X8_67 mf_X2_has ⟨Nat.le_of_ble_eq_true rfl, Nat.le_of_ble_eq_true rfl⟩ hl.1 rfl (Nat.le_of_ble_eq_true rfl) ⟨Nat.le_of_ble_eq_true rfl, Nat.le_of_ble_eq_true rfl⟩ dX8_change_5 (fun H locs hW => ?_)
  refine lv_if_eq (tgt := 21) jx jb dX8_change_8 (by decide) (fun c8 => ?_) (fun c8 => ?_)
  · exact absurd c8 (bI_n0.mpr ((isB_nI hk).mpr hm))
  · refine lv_iload_n jx jb dX8_change_11 rfl (lv_at hl 2 rfl) ?_
    refine lv_iload_n jx jb dX8_change_12 rfl (lv_at hl 3 rfl) ?_
    refine lv_iload jx jb dX8_change_13 (lv_at hl 4 rfl) ?_
    refine w_rS (As := [.int (nI w), .int (nI t), .int (nI r)]) X hW (c_canBe) ml_X8_50 mf_X0_canBe ⟨Nat.le_of_ble_eq_true rfl, Nat.le_of_ble_eq_true rfl⟩ hl.1 rfl (Nat.le_of_ble_eq_true rfl) ⟨Nat.le_of_ble_eq_true rfl, Nat.le_of_ble_eq_true rfl⟩ dX8_change_15 (fun H locs hW => ?_)
    refine lv_if_ne (tgt := 23) jx jb dX8_change_18 (by decide) (fun c18 => ?_) (fun c18 => ?_)
    · refine lv_aload_n jx jb dX8_change_23 rfl (lv_at hl 0 rfl) ?_
      refine w_get X hW K8 (by omega) f0 2 (by decide) fl_X8_26 rfl dX8_change_24 ?_
      refine lv_iload_n jx jb dX8_change_27 rfl (lv_at hl 1 rfl) ?_
      refine w_nVv (As := [.int (nI k)]) X hW (c_touchThoseThatMet hS) (by omega) f9 rfl rfl ml_X8_70 mf_X7_touchThoseThatMet ⟨Nat.le_of_ble_eq_true rfl, Nat.le_of_ble_eq_true rfl⟩ hl.1 rfl (Nat.le_of_ble_eq_true rfl) ⟨Nat.le_of_ble_eq_true rfl, Nat.le_of_ble_eq_true rfl⟩ dX8_change_28 (fun ga H locs hp hW => ?_)
      obtain ⟨hSa, afr⟩ := hp
      have hf1 : ga 0 = .inr (8, [.ref (ad 1), .ref (ad 4), .ref (ad 9), .ref (ad 60), .ref (ad 62)]) := (afr 0 (by omega)).trans f0
      have hf2 : ga 1 = .inr (2, [.ref (ad 2), .ref (ad 3)]) := (afr 1 (by omega)).trans f1
      have hXa : XAt cy N ad ga M lg lr lt st T p (mapT p (tM k) x T) := ⟨hf1, hM.fr (fun k hk => by show ga k = _; rw [afr k (by omega)]), ⟨fc, hL.fr (fun k hk1 hk2 => by show ga k = _; rw [afr k (by omega)]), hlc, hl96⟩, hSa, ⟨psz, pf, mt, ltt, h83, hpsz, (show ga 60 = g 60 from by rw [afr _ (by omega)]).trans f60, (show ga 61 = g 61 from by rw [afr _ (by omega)]).trans f61⟩, ⟨w0, w1, (show ga 62 = g 62 from by rw [afr _ (by omega)]).trans f62⟩⟩
      refine lv_aload_n jx jb dX8_change_31 rfl (lv_at hl 0 rfl) ?_
      refine w_get X hW K8 (by omega) hf1 0 (by decide) fl_X8_12 rfl dX8_change_32 ?_
      refine lv_iload_n jx jb dX8_change_35 rfl (lv_at hl 1 rfl) ?_
      refine w_new X hW K0 cl_X8_51 inst_X0 ini_X0 (fs := [.int 0, .int 0, .int 0, .int 0, .int 0, .int 0, .int 0, .int 0]) (fun j hj => by rcases (show j = 0 ∨ j = 1 ∨ j = 2 ∨ j = 3 ∨ j = 4 ∨ j = 5 ∨ j = 6 ∨ j = 7 by omega) with rfl | rfl | rfl | rfl | rfl | rfl | rfl | rfl <;> rfl) (Nat.le_of_ble_eq_true rfl) (Nat.le_of_ble_eq_true rfl) dX8_change_36 (fun qa H hW => ?_)
      obtain ⟨ad1, ead⟩ : ∃ zz, zz = va_up ad N qa := ⟨_, rfl⟩
      obtain ⟨gb, egb⟩ : ∃ zz, zz = va_up ga N (.inr (0, [.int 0, .int 0, .int 0, .int 0, .int 0, .int 0, .int 0, .int 0])) := ⟨_, rfl⟩
      have hW : Wd G A js.heap (N + 1, ad1, gb) H locs := by rw [ead, egb]; exact hW
      have hq : ad1 N = qa := by rw [ead]; exact va_up_s
      have ha1 : ∀ k, k < N → ad1 k = ad k := fun k hk => by rw [ead]; exact va_up_n (by omega)
      refine W.eq (g2 := F0 jm 39 ls [.ref (ad1 N), .int (nI k), .ref (ad1 1)]) (by rw [hq, ha1 1 (by omega)]) ?_
      refine lv_dup jx jb dX8_change_39 rfl ?_
      refine lv_iload_n jx jb dX8_change_40 rfl (lv_at hl 2 rfl) ?_
      refine lv_iload_n jx jb dX8_change_41 rfl (lv_at hl 3 rfl) ?_
      refine lv_iload jx jb dX8_change_42 (lv_at hl 4 rfl) ?_
      refine w_nIv (As := [.int (nI w), .int (nI t), .int (nI r)]) X hW (c_Branch_init (n := N) (by omega) (by rw [egb]; exact va_up_s) hw ht) ml_X8_60 mf_X0_init ⟨Nat.le_of_ble_eq_true rfl, Nat.le_of_ble_eq_true rfl⟩ hl.1 rfl (Nat.le_of_ble_eq_true rfl) ⟨Nat.le_of_ble_eq_true rfl, Nat.le_of_ble_eq_true rfl⟩ dX8_change_44 (fun gc H locs hp hW => ?_)
      obtain ⟨cN, cfr⟩ := hp
      have hgc : ∀ k, k < N → gc k = ga k := fun k hk => by rw [cfr k (by simp only [List.mem_cons, List.not_mem_nil, or_false, not_or]; omega), egb, va_up_n (by omega)]
      have hXc : XAt cy (N + 1) ad1 gc M lg lr lt st T p (mapT p (tM k) x T) := hXa.grow (by omega) ha1 hgc
      obtain ⟨-, -, bc, fs, m1, ⟨fB, m2, mfb⟩, m3, m4, m5, m6⟩ := id hXc.2.1
      refine w_nVv (As := [.int (nI k), .ref (ad1 N)]) X hW (c_put (by omega) m1 m2 m3 hk (by omega) cN) (by omega) m1 rfl rfl ml_X8_73 mf_X2_put ⟨Nat.le_of_ble_eq_true rfl, Nat.le_of_ble_eq_true rfl⟩ hl.1 rfl (Nat.le_of_ble_eq_true rfl) ⟨Nat.le_of_ble_eq_true rfl, Nat.le_of_ble_eq_true rfl⟩ dX8_change_47 (fun gd H locs hp hW => ?_)
      obtain ⟨d2, dfr⟩ := hp
      have hMd : MachAt cy (N + 1) ad1 gd (setM M k w t r) := mach_set hok (by omega) m1 m3 mfb m4 m5 m6 hk hm hw ht hr (Nat.lt_succ_self N) h83 cN d2 (fun j j2 => dfr j (by simp only [List.mem_cons, List.not_mem_nil, or_false, not_or]; omega))
      refine lv_iconst (v := 1) jx jb dX8_change_50 (by decide) ?_
      exact ret _ _ _ _ _ _ dX8_change_51 hW ⟨ad1, gd, rfl, rfl, hXc.mach (fun j j2 j3 => dfr j (by simp only [List.mem_cons, List.not_mem_nil, or_false, not_or]; omega)) hMd, ha1, fun j h1 h2 => by rw [dfr j (by simp only [List.mem_cons, List.not_mem_nil, or_false, not_or]; omega), hgc j h2, afr j (by omega)]⟩
    · exact absurd c18 (bI_n0.mpr ⟨(okWi_nI (by omega)).mpr hw, (okTi_nI (by omega)).mpr ht, i_0le (by omega), nI_lt (b := 4) hr (by decide)⟩)
