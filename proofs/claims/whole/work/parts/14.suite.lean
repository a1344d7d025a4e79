/-- a test: its row, what it asks for, what it met, whether it is touched, whether it is broken -/
abbrev TT : Type := List Nat × (Nat → Int32) × Int32 × Bool × Bool
/-- the test in slot q lies in the cells 12 + 4 q .. 15 + 4 q -/
def TstAt (cy : Nat → ClassId) (N : Nat) (ad : Nat → Nat) (g : Nat → va_E) (q : Nat) (t : TT) : Prop := ∃ fc fr, g (12 + 4 * q) = .inr (3, [.ref (ad (13 + 4 * q)), .int t.2.2.1, .int (bI (t.2.2.2.1 = true)), .int (bI (t.2.2.2.2 = true))]) ∧ RowAt cy N ad g (13 + 4 * q) (14 + 4 * q) (15 + 4 * q) t.1.length fc fr ∧ (∀ i, i < t.1.length → fc i = nI (gl t.1 i)) ∧ (∀ x, x ∈ t.1 → x < 96) ∧ ∀ i, i < t.1.length → fr i = t.2.1 i
theorem TstAt.fr {cy : Nat → ClassId} {N : Nat} {ad : Nat → Nat} {g g' : Nat → va_E} {q : Nat} {t : TT} (h : TstAt cy N ad g q t) (h1 : ∀ k, 12 + 4 * q ≤ k → k ≤ 15 + 4 * q → g' k = g k) : TstAt cy N ad g' q t := by
  obtain ⟨fc, fr, a, b, c, d, e⟩ := h
  exact ⟨fc, fr, (h1 _ (by omega) (by omega)).trans a, b.fr (h1 _ (by omega) (by omega)) (h1 _ (by omega) (by omega)) (h1 _ (by omega) (by omega)), c, d, e⟩
/-- the suite's cells: the object 9, its tests 10, its meets 11, the slots; T tests stand in the slots p 0 .. p (T - 1) -/
def SuAt (cy : Nat → ClassId) (N : Nat) (ad : Nat → Nat) (g : Nat → va_E) (T : Nat) (p : Nat → Nat) (x : Nat → TT) : Prop := 83 ≤ N ∧ T ≤ 12 ∧ (∀ i, i < 12 → p i < 12) ∧ (∀ i j, i < 12 → j < 12 → p i = p j → i = j) ∧ (∃ ft fm, g 9 = .inr (7, [.ref (ad 10), .ref (ad 11), .int (nI T)]) ∧ g 10 = .inl (cy 3, 12, .inr (.inr (.inr (.inr ft)))) ∧ g 11 = .inl (cy 0, 12, .inl fm) ∧ ∀ i, i < 12 → ft i = some (ad (12 + 4 * p i))) ∧ ∀ q, q < 12 → TstAt cy N ad g q (x q)
theorem SuAt.fr {cy : Nat → ClassId} {N : Nat} {ad : Nat → Nat} {g g' : Nat → va_E} {T : Nat} {p : Nat → Nat} {x : Nat → TT} (h : SuAt cy N ad g T p x) (h1 : ∀ k, 9 ≤ k → k < 60 → g' k = g k) : SuAt cy N ad g' T p x := by
  obtain ⟨a, b, c, d, ⟨ft, fm, e1, e2, e3, e4⟩, f⟩ := h
  exact ⟨a, b, c, d, ⟨ft, fm, (h1 _ (by omega) (by omega)).trans e1, (h1 _ (by omega) (by omega)).trans e2, (h1 _ (by omega) (by omega)).trans e3, e4⟩, fun q hq => (f q hq).fr (fun k _ _ => h1 k (by omega) (by omega))⟩
theorem SuAt.put {cy : Nat → ClassId} {N : Nat} {ad : Nat → Nat} {g g' : Nat → va_E} {T : Nat} {p : Nat → Nat} {x : Nat → TT} {q : Nat} {t : TT} (h : SuAt cy N ad g T p x) (h1 : ∀ k, k ≠ 12 + 4 * q → k ≠ 13 + 4 * q → k ≠ 14 + 4 * q → k ≠ 15 + 4 * q → 9 ≤ k → k < 60 → g' k = g k) (ht : TstAt cy N ad g' q t) : SuAt cy N ad g' T p (va_up x q t) := by
  obtain ⟨a, b, c, d, ⟨ft, fm, e1, e2, e3, e4⟩, f⟩ := h
  refine ⟨a, b, c, d, ⟨ft, fm, (h1 _ (by omega) (by omega) (by omega) (by omega) (by omega) (by omega)).trans e1, (h1 _ (by omega) (by omega) (by omega) (by omega) (by omega) (by omega)).trans e2, (h1 _ (by omega) (by omega) (by omega) (by omega) (by omega) (by omega)).trans e3, e4⟩, fun q' hq => ?_⟩
  by_cases e : q' = q
  · subst e
    rw [va_up_s]
    exact ht
  · rw [va_up_n e]
    exact (f q' hq).fr (fun k _ _ => h1 k (by omega) (by omega) (by omega) (by omega) (by omega) (by omega))
def mapT (p : Nat → Nat) (F : TT → TT) (x : Nat → TT) : Nat → Nat → TT
  | 0 => x
  | k + 1 => va_up (mapT p F x k) (p k) (F (mapT p F x k (p k)))
theorem mapT_out {p : Nat → Nat} {F : TT → TT} {x : Nat → TT} : ∀ {k q : Nat}, (∀ i, i < k → p i ≠ q) → mapT p F x k q = x q
  | 0, _, _ => rfl
  | k + 1, q, h => by
    show va_up _ _ _ q = x q
    rw [va_up_n (fun e => h k (by omega) e.symm)]
    exact mapT_out (fun i hi => h i (by omega))
theorem mapT_in {p : Nat → Nat} {F : TT → TT} {x : Nat → TT} (hinj : ∀ i j, i < 12 → j < 12 → p i = p j → i = j) : ∀ {k i : Nat}, k ≤ 12 → i < k → mapT p F x k (p i) = F (x (p i))
  | k + 1, i, hk, hi => by
    show va_up _ _ _ (p i) = _
    by_cases e : i = k
    · subst e
      rw [va_up_s, mapT_out (fun j hj q => by have := hinj j i (by omega) (by omega) q; omega)]
    · rw [va_up_n (fun q => e (hinj i k (by omega) (by omega) q))]
      exact mapT_in hinj (by omega) (by omega)
theorem bI_fit {b : Prop} [Decidable b] : fits .boolean (.int (bI b)) = true := by by_cases h : b <;> simp [bI, h] <;> decide
theorem bor {a c : Bool} : bI (a = true) ||| bI (c = true) = bI ((a || c) = true) := by cases a <;> cases c <;> decide
/-- touched by a change of branch b; by one branch more of kind k; run; -/
def tM (b : Nat) (t : TT) : TT := (t.1, t.2.1, t.2.2.1, t.2.2.2.1 || decide ((t.2.2.1 >>> (nI b &&& 31)) &&& 1 = 1), t.2.2.2.2)
def tK (k : Nat) (t : TT) : TT := (t.1, t.2.1, t.2.2.1, t.2.2.2.1 || anyK (gl t.1) k t.1.length, t.2.2.2.2)
def likeK (y : Nat → TT) (row : List Nat) : Nat → Bool
  | 0 => false
  | n + 1 => likeK y row n || decide ((y n).1 = row)
theorem likeK_mono {y : Nat → TT} {row : List Nat} {a : Nat} (h : likeK y row a = true) : ∀ {b : Nat}, a ≤ b → likeK y row b = true
  | 0, hb => by rw [show a = 0 by omega] at h; exact h
  | b + 1, hb => by
    by_cases e : a = b + 1
    · rw [← e]; exact h
    · unfold likeK
      rw [likeK_mono h (b := b) (by omega)]
      rfl
def cntB (f : Nat → Bool) : Nat → Nat
  | 0 => 0
  | n + 1 => cntB f n + (if f n = true then 1 else 0)
theorem gl_ext {a b : List Nat} (h : a.length = b.length) (h2 : ∀ i, i < a.length → gl a i = gl b i) : a = b := by
  apply List.ext_getElem h
  intro i h1 h3
  have := h2 i h1
  simpa [gl, List.getD, h1, h3] using this
theorem sameK_iff {f f' : Nat → Int32} : ∀ {n : Nat}, sameK f f' n = true ↔ ∀ i, i < n → f i = f' i
  | 0 => ⟨fun _ i hi => absurd hi (by omega), fun _ => rfl⟩
  | n + 1 => by
    unfold sameK
    rw [Bool.and_eq_true, sameK_iff (n := n), decide_eq_true_eq]
    constructor
    · intro h i hi
      by_cases e : i = n
      · rw [e]; exact h.2
      · exact h.1 i (by omega)
    · exact fun h => ⟨fun i hi => h i (by omega), h n (by omega)⟩
theorem same_row {a b : List Nat} {f f' : Nat → Int32} (ha : ∀ i, i < a.length → f i = nI (gl a i)) (hb : ∀ i, i < b.length → f' i = nI (gl b i)) (ha96 : ∀ x, x ∈ a → x < 96) (hb96 : ∀ x, x ∈ b → x < 96) : (a.length = b.length ∧ sameK f f' a.length = true) ↔ a = b := by
  constructor
  · intro h
    apply gl_ext h.1
    intro i hi
    have h1 := sameK_iff.mp h.2 i hi
    rw [ha i hi, hb i (by omega)] at h1
    have h2 := ha96 _ (gl_mem hi)
    have h3 := hb96 _ (gl_mem (row := b) (i := i) (by omega))
    exact n_eq (by omega) (by omega) h1
  · rintro rfl
    exact ⟨rfl, sameK_iff.mpr (fun i hi => by rw [ha i hi, hb i hi])⟩
def mbh (fm : Nat → Int32) (h : Int32) : Nat → Int32
  | 0 => 0
  | i + 1 => mbh fm h i ||| (if (h >>> (nI i &&& 31)) &&& 1 = 1 then fm i else 0)
def bc1 (x : Int32) : Int32 := x - ((x.toUInt32 >>> ((1 : Int32).toUInt32 &&& Int32.toUInt32 31)).toInt32 &&& 1431655765)
def bc2 (x : Int32) : Int32 := (x &&& 858993459) + ((x.toUInt32 >>> ((2 : Int32).toUInt32 &&& Int32.toUInt32 31)).toInt32 &&& 858993459)
def bc3 (x : Int32) : Int32 := (x + (x.toUInt32 >>> ((4 : Int32).toUInt32 &&& Int32.toUInt32 31)).toInt32) &&& 252645135
def bc4 (x : Int32) : Int32 := x + (x.toUInt32 >>> ((8 : Int32).toUInt32 &&& Int32.toUInt32 31)).toInt32
def bc5 (x : Int32) : Int32 := x + (x.toUInt32 >>> ((16 : Int32).toUInt32 &&& Int32.toUInt32 31)).toInt32
def bcI (x : Int32) : Int32 := bc5 (bc4 (bc3 (bc2 (bc1 x)))) &&& 63
def pc2 (n : Nat) : Nat := n % 2 + n / 2 % 2 + n / 4 % 2 + n / 8 % 2 + n / 16 % 2 + n / 32 % 2 + n / 64 % 2 + n / 128 % 2 + n / 256 % 2 + n / 512 % 2 + n / 1024 % 2 + n / 2048 % 2
set_option maxRecDepth 100000 in
theorem bcI_pc : ∀ n, n < 4096 → bcI (nI n) = nI (pc2 n) := by decide +kernel

set_option maxHeartbeats 4000000 in
set_option maxRecDepth 100000 in
theorem c_bitCount {l : Launch} {G : va_G} {cy : Nat → ClassId} {w : WT} {x : Int32} : RI l G cy w yJ6_bitCount_0f7a4 cJ6_bitCount_0f7a4 1 (some .int) (rmN 0) [.int x] (bcI x) := by
  refine RI.mk (by decide) (by first | rfl | exact bI_nar) (Nat.le_of_ble_eq_true rfl) ?_
  intro jp je js jm below meth jc A Q X hW ret ls hl
  have jx := X.hx
  have jb := X.hb
  have hl : lv_has ls 1 [(0, .int x)] := hl
  have X : Cx G cy jp js jm _ jc cJ6_bitCount_0f7a4 1 RJ6 A js.heap := X
  refine lv_iload_n jx jb dJ6_bitCount_0f7a4_0 rfl (lv_at hl 0 rfl) ?_
  refine lv_iload_n jx jb dJ6_bitCount_0f7a4_1 rfl (lv_at hl 0 rfl) ?_
  refine lv_iconst (v := 1) jx jb dJ6_bitCount_0f7a4_2 (by decide) ?_
  refine lv_iushr jx jb dJ6_bitCount_0f7a4_3 rfl ?_
  refine lv_ldcw (v := 1431655765) jx jb X.1.2.2.2.1 (X.ht cs_J6_265) dJ6_bitCount_0f7a4_4 ?_
  refine lv_iand jx jb dJ6_bitCount_0f7a4_7 ?_
  refine lv_isub jx jb dJ6_bitCount_0f7a4_8 ?_
  refine top_eq (y := bc1 x) (rfl) ?_
  refine lv_istore_n (lv' := [(0, .int (bc1 x))]) jx jb dJ6_bitCount_0f7a4_9 rfl hl (by decide) rfl (fun ls hl => ?_)
  refine lv_iload_n jx jb dJ6_bitCount_0f7a4_10 rfl (lv_at hl 0 rfl) ?_
  refine lv_ldcw (v := 858993459) jx jb X.1.2.2.2.1 (X.ht cs_J6_266) dJ6_bitCount_0f7a4_11 ?_
  refine lv_iand jx jb dJ6_bitCount_0f7a4_14 ?_
  refine lv_iload_n jx jb dJ6_bitCount_0f7a4_15 rfl (lv_at hl 0 rfl) ?_
  refine lv_iconst (v := 2) jx jb dJ6_bitCount_0f7a4_16 (by decide) ?_
  refine lv_iushr jx jb dJ6_bitCount_0f7a4_17 rfl ?_
  refine lv_ldcw (v := 858993459) jx jb X.1.2.2.2.1 (X.ht cs_J6_266) dJ6_bitCount_0f7a4_18 ?_
  refine lv_iand jx jb dJ6_bitCount_0f7a4_21 ?_
  refine lv_iadd jx jb dJ6_bitCount_0f7a4_22 ?_
  refine top_eq (y := bc2 (bc1 x)) (rfl) ?_
  refine lv_istore_n (lv' := [(0, .int (bc2 (bc1 x)))]) jx jb dJ6_bitCount_0f7a4_23 rfl hl (by decide) rfl (fun ls hl => ?_)
  refine lv_iload_n jx jb dJ6_bitCount_0f7a4_24 rfl (lv_at hl 0 rfl) ?_
  refine lv_iload_n jx jb dJ6_bitCount_0f7a4_25 rfl (lv_at hl 0 rfl) ?_
  refine lv_iconst (v := 4) jx jb dJ6_bitCount_0f7a4_26 (by decide) ?_
  refine lv_iushr jx jb dJ6_bitCount_0f7a4_27 rfl ?_
  refine lv_iadd jx jb dJ6_bitCount_0f7a4_28 ?_
  refine lv_ldcw (v := 252645135) jx jb X.1.2.2.2.1 (X.ht cs_J6_267) dJ6_bitCount_0f7a4_29 ?_
  refine lv_iand jx jb dJ6_bitCount_0f7a4_32 ?_
  refine top_eq (y := bc3 (bc2 (bc1 x))) (rfl) ?_
  refine lv_istore_n (lv' := [(0, .int (bc3 (bc2 (bc1 x))))]) jx jb dJ6_bitCount_0f7a4_33 rfl hl (by decide) rfl (fun ls hl => ?_)
  refine lv_iload_n jx jb dJ6_bitCount_0f7a4_34 rfl (lv_at hl 0 rfl) ?_
  refine lv_iload_n jx jb dJ6_bitCount_0f7a4_35 rfl (lv_at hl 0 rfl) ?_
  refine lv_bipush (v := 8) jx jb dJ6_bitCount_0f7a4_36 (by decide) ?_
  refine lv_iushr jx jb dJ6_bitCount_0f7a4_38 rfl ?_
  refine lv_iadd jx jb dJ6_bitCount_0f7a4_39 ?_
  refine top_eq (y := bc4 (bc3 (bc2 (bc1 x)))) (rfl) ?_
  refine lv_istore_n (lv' := [(0, .int (bc4 (bc3 (bc2 (bc1 x)))))]) jx jb dJ6_bitCount_0f7a4_40 rfl hl (by decide) rfl (fun ls hl => ?_)
  refine lv_iload_n jx jb dJ6_bitCount_0f7a4_41 rfl (lv_at hl 0 rfl) ?_
  refine lv_iload_n jx jb dJ6_bitCount_0f7a4_42 rfl (lv_at hl 0 rfl) ?_
  refine lv_bipush (v := 16) jx jb dJ6_bitCount_0f7a4_43 (by decide) ?_
  refine lv_iushr jx jb dJ6_bitCount_0f7a4_45 rfl ?_
  refine lv_iadd jx jb dJ6_bitCount_0f7a4_46 ?_
  refine top_eq (y := bc5 (bc4 (bc3 (bc2 (bc1 x))))) (rfl) ?_
  refine lv_istore_n (lv' := [(0, .int (bc5 (bc4 (bc3 (bc2 (bc1 x))))))]) jx jb dJ6_bitCount_0f7a4_47 rfl hl (by decide) rfl (fun ls hl => ?_)
  refine lv_iload_n jx jb dJ6_bitCount_0f7a4_48 rfl (lv_at hl 0 rfl) ?_
  refine lv_bipush (v := 63) jx jb dJ6_bitCount_0f7a4_49 (by decide) ?_
  refine lv_iand jx jb dJ6_bitCount_0f7a4_51 ?_
  exact ret _ _ _ _ _ dJ6_bitCount_0f7a4_52 hW rfl

set_option maxHeartbeats 4000000 in
set_option maxRecDepth 100000 in
theorem c_sSize {l : Launch} {G : va_G} {cy : Nat → ClassId} {N : Nat} {ad : Nat → Nat} {g : Nat → va_E} {T : Nat} {p : Nat → Nat} {x : Nat → TT} (hS : SuAt cy N ad g T p x) : RI l G cy (N, ad, g) yX7_size cX7_size 1 (some .int) (rmN 0) [.ref (ad 9)] (nI T) := by
  refine RI.mk (by decide) (by first | rfl | exact bI_nar) (Nat.le_of_ble_eq_true rfl) ?_
  intro jp je js jm below meth jc A Q X hW ret ls hl
  have jx := X.hx
  have jb := X.hb
  have hl : lv_has ls 1 [(0, .ref (ad 9))] := hl
  have X : Cx G cy jp js jm _ jc cX7_size 1 RX7 A js.heap := X
  obtain ⟨h83, hT, hp12, hinj, ⟨ft, fm, f9, f10, f11, hft⟩, hx⟩ := id hS
  refine lv_aload_n jx jb dX7_size_0 rfl (lv_at hl 0 rfl) ?_
  refine w_get X hW K7 (by omega) f9 2 (by decide) fl_X7_21 rfl dX7_size_1 ?_
  exact ret _ _ _ _ _ dX7_size_4 hW rfl

set_option maxHeartbeats 4000000 in
set_option maxRecDepth 100000 in
theorem c_at {l : Launch} {G : va_G} {cy : Nat → ClassId} {N : Nat} {ad : Nat → Nat} {g : Nat → va_E} {T : Nat} {p : Nat → Nat} {x : Nat → TT} {i : Int32} (hS : SuAt cy N ad g T p x) : MR l G cy (N, ad, g) yX7_at cX7_at 2 (some (.object "TestsFromUse$MadeTest")) (rmN 1) [.ref (ad 9), .int i] (fun r u => r = (if 0 ≤ i ∧ i < nI T then some (ad (12 + 4 * p i.toNatClampNeg)) else none) ∧ u = (N, ad, g)) := by
  refine RR.mk (by decide) (Nat.le_of_ble_eq_true rfl) ?_
  intro jp je js jm below meth jc A Q X hW ret ls hl
  have jx := X.hx
  have jb := X.hb
  have hl : lv_has ls 2 [(0, .ref (ad 9)), (1, .int i)] := hl
  have X : Cx G cy jp js jm _ jc cX7_at 2 RX7 A js.heap := X
  obtain ⟨h83, hT, hp12, hinj, ⟨ft, fm, f9, f10, f11, hft⟩, hx⟩ := id hS
  refine lv_iload_n jx jb dX7_at_0 rfl (lv_at hl 1 rfl) ?_
  refine lv_aload_n jx jb dX7_at_1 rfl (lv_at hl 0 rfl) ?_
  refine w_get X hW K7 (by omega) f9 2 (by decide) fl_X7_21 rfl dX7_at_2 ?_
  refine w_rN (As := [.int i, .int (nI T)]) X hW (c_isBelow) mn_X7_26 mf_X8_isBelow ⟨Nat.le_of_ble_eq_true rfl, Nat.le_of_ble_eq_true rfl⟩ hl.1 rfl (Nat.le_of_ble_eq_true rfl) ⟨Nat.le_of_ble_eq_true rfl, Nat.le_of_ble_eq_true rfl⟩ dX7_at_5 (fun H locs hW => ?_)
  refine lv_if_eq (tgt := 20) jx jb dX7_at_8 (by decide) (fun c8 => ?_) (fun c8 => ?_)
  · refine lv_null jx jb dX7_at_20 ?_
    exact ret none _ _ _ _ dX7_at_21 hW (by rw [if_neg (bI_0.mp c8)])
  · obtain ⟨j, hj, ej⟩ := i_below (by omega) (bI_n0.mp c8)
    have hj12 : j < 12 := by omega
    refine lv_aload_n jx jb dX7_at_11 rfl (lv_at hl 0 rfl) ?_
    refine w_get X hW K7 (by omega) f9 0 (by decide) fl_X7_11 rfl dX7_at_12 ?_
    refine lv_iload_n jx jb dX7_at_15 rfl (lv_at hl 1 rfl) ?_
    refine w_ald X hW (by omega) (t := 3) rfl f10 j ej hj12 (by decide) dX7_at_16 ?_
    refine lv_goto (tgt := 21) jx jb dX7_at_17 (by decide) ?_
    exact ret (ft j) _ _ _ _ dX7_at_21 hW (by rw [if_pos (bI_n0.mp c8), ej, i_cl (by omega)]; exact hft j hj12)

set_option maxHeartbeats 4000000 in
set_option maxRecDepth 100000 in
theorem c_spare {l : Launch} {G : va_G} {cy : Nat → ClassId} {N : Nat} {ad : Nat → Nat} {g : Nat → va_E} {T : Nat} {p : Nat → Nat} {x : Nat → TT} (hS : SuAt cy N ad g T p x) : MR l G cy (N, ad, g) yX7_spare cX7_spare 1 (some (.object "TestsFromUse$MadeTest")) (rmN 0) [.ref (ad 9)] (fun r u => r = (if T < 12 then some (ad (12 + 4 * p T)) else none) ∧ u = (N, ad, g)) := by
  refine RR.mk (by decide) (Nat.le_of_ble_eq_true rfl) ?_
  intro jp je js jm below meth jc A Q X hW ret ls hl
  have jx := X.hx
  have jb := X.hb
  have hl : lv_has ls 1 [(0, .ref (ad 9))] := hl
  have X : Cx G cy jp js jm _ jc cX7_spare 1 RX7 A js.heap := X
  obtain ⟨h83, hT, hp12, hinj, ⟨ft, fm, f9, f10, f11, hft⟩, hx⟩ := id hS
  refine lv_aload_n jx jb dX7_spare_0 rfl (lv_at hl 0 rfl) ?_
  refine w_get X hW K7 (by omega) f9 2 (by decide) fl_X7_21 rfl dX7_spare_1 ?_
  refine lv_bipush (v := 12) jx jb dX7_spare_4 (by decide) ?_
  refine lv_icmp_ge (tgt := 21) jx jb dX7_spare_6 (by decide) (fun c6 => ?_) (fun c6 => ?_)
  · refine lv_null jx jb dX7_spare_21 ?_
    exact ret none _ _ _ _ dX7_spare_22 hW (by rw [if_neg (by have := n_le (a := 12) (by decide) (by omega) c6; omega)])
  · have hlt : T < 12 := n_nle (a := 12) (by decide) (by omega) c6
    refine lv_aload_n jx jb dX7_spare_9 rfl (lv_at hl 0 rfl) ?_
    refine w_get X hW K7 (by omega) f9 0 (by decide) fl_X7_11 rfl dX7_spare_10 ?_
    refine lv_aload_n jx jb dX7_spare_13 rfl (lv_at hl 0 rfl) ?_
    refine w_get X hW K7 (by omega) f9 2 (by decide) fl_X7_21 rfl dX7_spare_14 ?_
    refine w_ald X hW (by omega) (t := 3) rfl f10 T rfl hlt (by decide) dX7_spare_17 ?_
    refine lv_goto (tgt := 22) jx jb dX7_spare_18 (by decide) ?_
    exact ret (ft T) _ _ _ _ dX7_spare_22 hW (by rw [if_pos hlt]; exact hft T hlt)

set_option maxHeartbeats 4000000 in
set_option maxRecDepth 100000 in
theorem c_keepSpare {l : Launch} {G : va_G} {cy : Nat → ClassId} {N : Nat} {ad : Nat → Nat} {g : Nat → va_E} {T : Nat} {p : Nat → Nat} {x : Nat → TT} (hS : SuAt cy N ad g T p x) (hlt : T < 12) : MI l G cy (N, ad, g) yX7_keepSpare cX7_keepSpare 1 (some .int) (rmN 0) [.ref (ad 9)] (nA N ad (fun v g1 => v = nI T ∧ SuAt cy N ad g1 (T + 1) p x ∧ ∀ k, ¬ (9 ≤ k ∧ k < 60) → g1 k = g k)) := by
  refine NI.mk (by decide) (by intros; first | rfl | (simp_all; done)) (Nat.le_of_ble_eq_true rfl) ?_
  intro jp je js jm below meth jc A Q X hW ret ls hl
  have jx := X.hx
  have jb := X.hb
  have hl : lv_has ls 1 [(0, .ref (ad 9))] := hl
  have X : Cx G cy jp js jm _ jc cX7_keepSpare 1 RX7 A js.heap := X
  obtain ⟨h83, hT, hp12, hinj, ⟨ft, fm, f9, f10, f11, hft⟩, hx⟩ := id hS
  refine lv_aload_n jx jb dX7_keepSpare_0 rfl (lv_at hl 0 rfl) ?_
  refine w_get X hW K7 (by omega) f9 2 (by decide) fl_X7_21 rfl dX7_keepSpare_1 ?_
  refine lv_bipush (v := 12) jx jb dX7_keepSpare_4 (by decide) ?_
  refine lv_icmp_lt (tgt := 11) jx jb dX7_keepSpare_6 (by decide) (fun c6 => ?_) (fun c6 => ?_)
  · refine lv_aload_n jx jb dX7_keepSpare_11 rfl (lv_at hl 0 rfl) ?_
    refine lv_dup jx jb dX7_keepSpare_12 rfl ?_
    refine w_get X hW K7 (by omega) f9 2 (by decide) fl_X7_21 rfl dX7_keepSpare_13 ?_
    refine lv_iconst (v := 1) jx jb dX7_keepSpare_16 (by decide) ?_
    refine lv_iadd jx jb dX7_keepSpare_17 ?_
    refine top_eq (y := nI (T + 1)) (nI_1 _) ?_
    refine w_put X hW K7 (by omega) f9 2 (by decide) fl_X7_21 rfl rfl rfl (Nat.le_of_ble_eq_true rfl) dX7_keepSpare_18 (fun H locs hW => ?_)
    obtain ⟨g_1, eg_1⟩ : ∃ zz, zz = va_up g 9 (.inr (7, [.ref (ad 10), .ref (ad 11), .int (nI (T + 1))])) := ⟨_, rfl⟩
    have hW : Wd G A js.heap (N, ad, g_1) H locs := by rw [eg_1]; exact hW
    have hf2 : g_1 9 = .inr (7, [.ref (ad 10), .ref (ad 11), .int (nI (T + 1))]) := by rw [eg_1]; exact va_up_s
    have hf3 : g_1 10 = .inl (cy 3, 12, .inr (.inr (.inr (.inr ft)))) := by rw [eg_1]; exact (va_up_n (by decide)).trans f10
    have hf4 : g_1 11 = .inl (cy 0, 12, .inl fm) := by rw [eg_1]; exact (va_up_n (by decide)).trans f11
    refine lv_aload_n jx jb dX7_keepSpare_21 rfl (lv_at hl 0 rfl) ?_
    refine w_get X hW K7 (by omega) hf2 2 (by decide) fl_X7_21 rfl dX7_keepSpare_22 ?_
    refine lv_iconst (v := 1) jx jb dX7_keepSpare_25 (by decide) ?_
    refine lv_isub jx jb dX7_keepSpare_26 ?_
    exact ret _ _ _ _ _ _ dX7_keepSpare_27 hW ⟨by rw [show (1 : Int32) = nI 1 from rfl, pk_sub (by omega)]; rfl, ⟨h83, by omega, hp12, hinj, ⟨ft, fm, hf2, hf3, hf4, hft⟩, fun q hq => (hx q hq).fr (fun k hk1 hk2 => by show g_1 k = _; rw [eg_1, va_up_n (by omega)])⟩, (fun k hk => by show g_1 k = _; rw [eg_1, va_up_n (by omega)])⟩
  · exact absurd (nI_lt (b := 12) hlt (by decide)) c6

set_option maxHeartbeats 4000000 in
set_option maxRecDepth 100000 in
theorem c_hasLike {l : Launch} {G : va_G} {cy : Nat → ClassId} {N : Nat} {ad : Nat → Nat} {g : Nat → va_E} {T : Nat} {p : Nat → Nat} {x : Nat → TT} {q : Nat} (hS : SuAt cy N ad g T p x) (hq : q < 12) : RI l G cy (N, ad, g) yX7_hasLike cX7_hasLike 3 (some .boolean) (rmN 1) [.ref (ad 9), .ref (ad (12 + 4 * q))] (bI (likeK (fun i => x (p i)) (x q).1 T = true)) := by
  refine RI.mk (by decide) (by first | rfl | exact bI_nar) (Nat.le_of_ble_eq_true rfl) ?_
  intro jp je js jm below meth jc A Q X hW ret ls hl
  have jx := X.hx
  have jb := X.hb
  have hl : lv_has ls 3 [(0, .ref (ad 9)), (1, .ref (ad (12 + 4 * q)))] := hl
  have X : Cx G cy jp js jm _ jc cX7_hasLike 3 RX7 A js.heap := X
  obtain ⟨h83, hT, hp12, hinj, ⟨ft, fm, f9, f10, f11, hft⟩, hx⟩ := id hS
  obtain ⟨sf, sg, s1, sR, sc, s96, sa⟩ := hx q hq
  refine lv_iconst (v := 0) jx jb dX7_hasLike_0 (by decide) ?_
  refine lv_istore_n (lv' := [(2, .int 0), (0, .ref (ad 9)), (1, .ref (ad (12 + 4 * q)))]) jx jb dX7_hasLike_1 rfl hl (by decide) rfl (fun ls hl => ?_)
  have loop2 : ∀ (fuel2 : Nat) (k : Nat) (H : Heap) (locs : List Loc) (ls : Array Slot), (k ≤ T) → (likeK (fun i => x (p i)) (x q).1 k = false) → T - k < fuel2 → Wd G A js.heap (N, ad, g) H locs → lv_has ls 3 [(0, .ref (ad 9)), (1, .ref (ad (12 + 4 * q))), (2, .int (nI k))] → W jp l je (rmN 1) js jm [.ref (ad 9), .ref (ad (12 + 4 * q))].toArray below meth jc H locs 0 0 Q (F0 jm 2 ls []) := by
    intro fuel2
    induction fuel2 with
    | zero => intro k H locs ls hk hlk  hm2; exact absurd hm2 (Nat.not_lt_zero _)
    | succ fuel2 ih2 =>
      intro k H locs ls hk hlk  hm2 hW hl
      refine lv_iload_n jx jb dX7_hasLike_2 rfl (lv_at hl 2 rfl) ?_
      refine lv_aload_n jx jb dX7_hasLike_3 rfl (lv_at hl 0 rfl) ?_
      refine w_get X hW K7 (by omega) f9 2 (by decide) fl_X7_21 rfl dX7_hasLike_4 ?_
      refine lv_icmp_ge (tgt := 37) jx jb dX7_hasLike_7 (by decide) (fun c7 => ?_) (fun c7 => ?_)
      · refine lv_iconst (v := 0) jx jb dX7_hasLike_37 (by decide) ?_
        exact ret _ _ _ _ _ dX7_hasLike_38 hW (by have := n_le (by omega) (by omega) c7; have e : k = T := (by omega); rw [← e, hlk]; rfl)
      · have hlt : k < T := n_nle (by omega) (by omega) c7
        have hk12 : k < 12 := by omega
        have hpk := hp12 k hk12
        obtain ⟨fc, fr, t1, tR, tc, t96, ta⟩ := hx (p k) hpk
        refine lv_aload_n jx jb dX7_hasLike_10 rfl (lv_at hl 0 rfl) ?_
        refine w_get X hW K7 (by omega) f9 0 (by decide) fl_X7_11 rfl dX7_hasLike_11 ?_
        refine lv_iload_n jx jb dX7_hasLike_14 rfl (lv_at hl 2 rfl) ?_
        refine w_ald X hW (by omega) (t := 3) rfl f10 k rfl (by omega) (by decide) dX7_hasLike_15 ?_
        refine top_q (y := some (ad (12 + 4 * p k))) (hft k hk12) ?_
        refine w_getN X hW K3 (by omega) t1 0 (by decide) fn_X7_30 rfl dX7_hasLike_16 ?_
        refine lv_aload_n jx jb dX7_hasLike_19 rfl (lv_at hl 1 rfl) ?_
        refine w_getN X hW K3 (by omega) s1 0 (by decide) fn_X7_30 rfl dX7_hasLike_20 ?_
        refine w_rV (As := [.ref (ad (13 + 4 * q))]) X hW (c_hasSameCalls tR sR) tR.1 tR.2.2.2.2.2.2.2.1 rfl rfl ml_X7_34 mf_X5_hasSameCalls ⟨Nat.le_of_ble_eq_true rfl, Nat.le_of_ble_eq_true rfl⟩ hl.1 rfl (Nat.le_of_ble_eq_true rfl) ⟨Nat.le_of_ble_eq_true rfl, Nat.le_of_ble_eq_true rfl⟩ dX7_hasLike_23 (fun H locs hW => ?_)
        refine lv_if_eq (tgt := 31) jx jb dX7_hasLike_26 (by decide) (fun c26 => ?_) (fun c26 => ?_)
        · refine lv_iinc (v := nI (k + 1)) (lv' := [(2, .int (nI (k + 1))), (0, .ref (ad 9)), (1, .ref (ad (12 + 4 * q)))]) jx jb dX7_hasLike_31 hl (k := 2) rfl (show nI k + 1 = nI (k + 1) from nI_1 _) (by decide) rfl (fun ls hl => ?_)
          refine lv_goto (tgt := 2) jx jb dX7_hasLike_34 (by decide) ?_
          exact ih2 (k + 1)  _ _ _ (by omega) (by unfold likeK; rw [hlk]; simp; exact fun z => bI_0.mp c26 ((same_row tc sc t96 s96).mpr z))  (by omega) hW (lv_sub hl [1, 2, 0] rfl)
        · refine lv_iconst (v := 1) jx jb dX7_hasLike_29 (by decide) ?_
          exact ret _ _ _ _ _ dX7_hasLike_30 hW (bI_t (likeK_mono (a := k + 1) (by unfold likeK; rw [(same_row tc sc t96 s96).mp (bI_n0.mp c26)]; simp) (by omega))).symm
  exact loop2 _ 0  _ _ _ (by omega) rfl  (Nat.lt_succ_self _) hW (lv_sub hl [1, 2, 0] rfl)

set_option maxHeartbeats 4000000 in
set_option maxRecDepth 100000 in
theorem c_touchThoseThatMet {l : Launch} {G : va_G} {cy : Nat → ClassId} {N : Nat} {ad : Nat → Nat} {g : Nat → va_E} {T : Nat} {p : Nat → Nat} {x : Nat → TT} {b : Nat} (hS : SuAt cy N ad g T p x) : MV l G cy (N, ad, g) yX7_touchThoseThatMet cX7_touchThoseThatMet 3 none (rmN 0) [.ref (ad 9), .int (nI b)] (nV N ad (fun g1 => SuAt cy N ad g1 T p (mapT p (tM b) x T) ∧ ∀ k, ¬ (9 ≤ k ∧ k < 60) → g1 k = g k)) := by
  refine NV.mk (by decide) (Nat.le_of_ble_eq_true rfl) ?_
  intro jp je js jm below meth jc A Q X hW ret ls hl
  have jx := X.hx
  have jb := X.hb
  have hl : lv_has ls 3 [(0, .ref (ad 9)), (1, .int (nI b))] := hl
  have X : Cx G cy jp js jm _ jc cX7_touchThoseThatMet 3 RX7 A js.heap := X
  obtain ⟨h83, hT, hp12, hinj, -, -⟩ := id hS
  refine lv_iconst (v := 0) jx jb dX7_touchThoseThatMet_0 (by decide) ?_
  refine lv_istore_n (lv' := [(2, .int 0), (0, .ref (ad 9)), (1, .int (nI b))]) jx jb dX7_touchThoseThatMet_1 rfl hl (by decide) rfl (fun ls hl => ?_)
  have loop2 : ∀ (fuel2 : Nat) (k : Nat) (gL2 : Nat → va_E) (H : Heap) (locs : List Loc) (ls : Array Slot), (k ≤ T) → (SuAt cy N ad gL2 T p (mapT p (tM b) x k)) → (∀ k, ¬ (9 ≤ k ∧ k < 60) → gL2 k = g k) → T - k < fuel2 → Wd G A js.heap (N, ad, gL2) H locs → lv_has ls 3 [(0, .ref (ad 9)), (1, .int (nI b)), (2, .int (nI k))] → W jp l je (rmN 0) js jm [.ref (ad 9), .int (nI b)].toArray below meth jc H locs 0 0 Q (F0 jm 2 ls []) := by
    intro fuel2
    induction fuel2 with
    | zero => intro k gL2 H locs ls hk hS hfr  hm2; exact absurd hm2 (Nat.not_lt_zero _)
    | succ fuel2 ih2 =>
      intro k gL2 H locs ls hk hS hfr  hm2 hW hl
      obtain ⟨-, -, -, -, ⟨ft, fm, f9, f10, f11, hft⟩, hx⟩ := id hS
      refine lv_iload_n jx jb dX7_touchThoseThatMet_2 rfl (lv_at hl 2 rfl) ?_
      refine lv_aload_n jx jb dX7_touchThoseThatMet_3 rfl (lv_at hl 0 rfl) ?_
      refine w_get X hW K7 (by omega) f9 2 (by decide) fl_X7_21 rfl dX7_touchThoseThatMet_4 ?_
      refine lv_icmp_ge (tgt := 52) jx jb dX7_touchThoseThatMet_7 (by decide) (fun c7 => ?_) (fun c7 => ?_)
      · exact ret _ _ _ _ _ dX7_touchThoseThatMet_52 hW (by have := n_le (by omega) (by omega) c7; have e : k = T := (by omega); rw [e] at hS; exact ⟨hS, hfr⟩)
      · have hlt : k < T := n_nle (by omega) (by omega) c7
        have hk12 : k < 12 := by omega
        have hpk := hp12 k hk12
        obtain ⟨fc, fr, t1, tR, tc, t96, ta⟩ := hx (p k) hpk
        refine lv_aload_n jx jb dX7_touchThoseThatMet_10 rfl (lv_at hl 0 rfl) ?_
        refine w_get X hW K7 (by omega) f9 0 (by decide) fl_X7_11 rfl dX7_touchThoseThatMet_11 ?_
        refine lv_iload_n jx jb dX7_touchThoseThatMet_14 rfl (lv_at hl 2 rfl) ?_
        refine w_ald X hW (by omega) (t := 3) rfl f10 k rfl (by omega) (by decide) dX7_touchThoseThatMet_15 ?_
        refine top_q (y := some (ad (12 + 4 * p k))) (hft k hk12) ?_
        refine lv_dup jx jb dX7_touchThoseThatMet_16 rfl ?_
        refine w_getN X hW K3 (by omega) t1 2 (by decide) fn_X7_40 rfl dX7_touchThoseThatMet_17 ?_
        refine lv_aload_n jx jb dX7_touchThoseThatMet_20 rfl (lv_at hl 0 rfl) ?_
        refine w_get X hW K7 (by omega) f9 0 (by decide) fl_X7_11 rfl dX7_touchThoseThatMet_21 ?_
        refine lv_iload_n jx jb dX7_touchThoseThatMet_24 rfl (lv_at hl 2 rfl) ?_
        refine w_ald X hW (by omega) (t := 3) rfl f10 k rfl (by omega) (by decide) dX7_touchThoseThatMet_25 ?_
        refine top_q (y := some (ad (12 + 4 * p k))) (hft k hk12) ?_
        refine w_getN X hW K3 (by omega) t1 1 (by decide) fn_X7_44 rfl dX7_touchThoseThatMet_26 ?_
        refine lv_iload_n jx jb dX7_touchThoseThatMet_29 rfl (lv_at hl 1 rfl) ?_
        refine lv_ishr jx jb dX7_touchThoseThatMet_30 ?_
        refine lv_iconst (v := 1) jx jb dX7_touchThoseThatMet_31 (by decide) ?_
        refine lv_iand jx jb dX7_touchThoseThatMet_32 ?_
        refine lv_iconst (v := 1) jx jb dX7_touchThoseThatMet_33 (by decide) ?_
        refine lv_icmp_ne (tgt := 41) jx jb dX7_touchThoseThatMet_34 (by decide) (fun c34 => ?_) (fun c34 => ?_)
        · refine lv_iconst (v := 0) jx jb dX7_touchThoseThatMet_41 (by decide) ?_
          refine lv_ior jx jb dX7_touchThoseThatMet_42 ?_
          refine top_eq (y := bI ((tM b (mapT p (tM b) x k (p k))).2.2.2.1 = true)) (by unfold tM; rw [← bor, bI_f (b := decide _ = true) (by rw [decide_eq_true_eq]; exact c34)]) ?_
          refine w_putN X hW K3 (by omega) t1 2 (by decide) fn_X7_40 rfl bI_nar bI_fit (Nat.le_of_ble_eq_true rfl) dX7_touchThoseThatMet_43 (fun H locs hW => ?_)
          obtain ⟨g_1, eg_1⟩ : ∃ zz, zz = va_up gL2 (12 + 4 * p k) (.inr (3, [.ref (ad (13 + 4 * p k)), .int ((mapT p (tM b) x k (p k)).2.2.1), .int (bI ((tM b (mapT p (tM b) x k (p k))).2.2.2.1 = true)), .int (bI ((mapT p (tM b) x k (p k)).2.2.2.2 = true))])) := ⟨_, rfl⟩
          have hW : Wd G A js.heap (N, ad, g_1) H locs := by rw [eg_1]; exact hW
          have hf2 : g_1 9 = .inr (7, [.ref (ad 10), .ref (ad 11), .int (nI T)]) := by rw [eg_1]; exact (va_up_n (by omega)).trans f9
          have hf3 : g_1 10 = .inl (cy 3, 12, .inr (.inr (.inr (.inr ft)))) := by rw [eg_1]; exact (va_up_n (by omega)).trans f10
          have hf4 : g_1 11 = .inl (cy 0, 12, .inl fm) := by rw [eg_1]; exact (va_up_n (by omega)).trans f11
          have hf5 : g_1 (12 + 4 * p k) = .inr (3, [.ref (ad (13 + 4 * p k)), .int ((mapT p (tM b) x k (p k)).2.2.1), .int (bI ((tM b (mapT p (tM b) x k (p k))).2.2.2.1 = true)), .int (bI ((mapT p (tM b) x k (p k)).2.2.2.2 = true))]) := by rw [eg_1]; exact va_up_s
          refine lv_iinc (v := nI (k + 1)) (lv' := [(2, .int (nI (k + 1))), (0, .ref (ad 9)), (1, .int (nI b))]) jx jb dX7_touchThoseThatMet_46 hl (k := 2) rfl (show nI k + 1 = nI (k + 1) from nI_1 _) (by decide) rfl (fun ls hl => ?_)
          refine lv_goto (tgt := 2) jx jb dX7_touchThoseThatMet_49 (by decide) ?_
          have hS1 : SuAt cy N ad g_1 T p (mapT p (tM b) x (k + 1)) := hS.put (fun j j1 j2 j3 j4 j5 j6 => by show g_1 j = _; rw [eg_1, va_up_n (by omega)]) ⟨fc, fr, hf5, tR.fr (by rw [eg_1, va_up_n (by omega)]) (by rw [eg_1, va_up_n (by omega)]) (by rw [eg_1, va_up_n (by omega)]), tc, t96, ta⟩
          exact ih2 (k + 1) g_1 _ _ _ (by omega) hS1 (fun k hk => by show g_1 k = _; rw [eg_1, va_up_n (by omega), hfr k (by omega)])  (by omega) hW (lv_sub hl [1, 2, 0] rfl)
        · refine lv_iconst (v := 1) jx jb dX7_touchThoseThatMet_37 (by decide) ?_
          refine lv_goto (tgt := 42) jx jb dX7_touchThoseThatMet_38 (by decide) ?_
          refine lv_ior jx jb dX7_touchThoseThatMet_42 ?_
          refine top_eq (y := bI ((tM b (mapT p (tM b) x k (p k))).2.2.2.1 = true)) (by unfold tM; rw [← bor, bI_t (b := decide _ = true) (by rw [decide_eq_true_eq]; exact c34)]) ?_
          refine w_putN X hW K3 (by omega) t1 2 (by decide) fn_X7_40 rfl bI_nar bI_fit (Nat.le_of_ble_eq_true rfl) dX7_touchThoseThatMet_43 (fun H locs hW => ?_)
          obtain ⟨g_6, eg_6⟩ : ∃ zz, zz = va_up gL2 (12 + 4 * p k) (.inr (3, [.ref (ad (13 + 4 * p k)), .int ((mapT p (tM b) x k (p k)).2.2.1), .int (bI ((tM b (mapT p (tM b) x k (p k))).2.2.2.1 = true)), .int (bI ((mapT p (tM b) x k (p k)).2.2.2.2 = true))])) := ⟨_, rfl⟩
          have hW : Wd G A js.heap (N, ad, g_6) H locs := by rw [eg_6]; exact hW
          have hf7 : g_6 9 = .inr (7, [.ref (ad 10), .ref (ad 11), .int (nI T)]) := by rw [eg_6]; exact (va_up_n (by omega)).trans f9
          have hf8 : g_6 10 = .inl (cy 3, 12, .inr (.inr (.inr (.inr ft)))) := by rw [eg_6]; exact (va_up_n (by omega)).trans f10
          have hf9 : g_6 11 = .inl (cy 0, 12, .inl fm) := by rw [eg_6]; exact (va_up_n (by omega)).trans f11
          have hf10 : g_6 (12 + 4 * p k) = .inr (3, [.ref (ad (13 + 4 * p k)), .int ((mapT p (tM b) x k (p k)).2.2.1), .int (bI ((tM b (mapT p (tM b) x k (p k))).2.2.2.1 = true)), .int (bI ((mapT p (tM b) x k (p k)).2.2.2.2 = true))]) := by rw [eg_6]; exact va_up_s
          refine lv_iinc (v := nI (k + 1)) (lv' := [(2, .int (nI (k + 1))), (0, .ref (ad 9)), (1, .int (nI b))]) jx jb dX7_touchThoseThatMet_46 hl (k := 2) rfl (show nI k + 1 = nI (k + 1) from nI_1 _) (by decide) rfl (fun ls hl => ?_)
          refine lv_goto (tgt := 2) jx jb dX7_touchThoseThatMet_49 (by decide) ?_
          have hS1 : SuAt cy N ad g_6 T p (mapT p (tM b) x (k + 1)) := hS.put (fun j j1 j2 j3 j4 j5 j6 => by show g_6 j = _; rw [eg_6, va_up_n (by omega)]) ⟨fc, fr, hf10, tR.fr (by rw [eg_6, va_up_n (by omega)]) (by rw [eg_6, va_up_n (by omega)]) (by rw [eg_6, va_up_n (by omega)]), tc, t96, ta⟩
          exact ih2 (k + 1) g_6 _ _ _ (by omega) hS1 (fun k hk => by show g_6 k = _; rw [eg_6, va_up_n (by omega), hfr k (by omega)])  (by omega) hW (lv_sub hl [1, 2, 0] rfl)
  exact loop2 _ 0 g _ _ _ (by omega) hS (fun k hk => rfl)  (Nat.lt_succ_self _) hW (lv_sub hl [1, 2, 0] rfl)

set_option maxHeartbeats 4000000 in
set_option maxRecDepth 100000 in
theorem c_touchCallersOf {l : Launch} {G : va_G} {cy : Nat → ClassId} {N : Nat} {ad : Nat → Nat} {g : Nat → va_E} {T : Nat} {p : Nat → Nat} {x : Nat → TT} {b : Nat} (hS : SuAt cy N ad g T p x) (hb6 : b < 6) : MV l G cy (N, ad, g) yX7_touchCallersOf cX7_touchCallersOf 3 none (rmN 2) [.ref (ad 9), .int (nI b)] (nV N ad (fun g1 => SuAt cy N ad g1 T p (mapT p (tK b) x T) ∧ ∀ k, ¬ (9 ≤ k ∧ k < 60) → g1 k = g k)) := by
  refine NV.mk (by decide) (Nat.le_of_ble_eq_true rfl) ?_
  intro jp je js jm below meth jc A Q X hW ret ls hl
  have jx := X.hx
  have jb := X.hb
  have hl : lv_has ls 3 [(0, .ref (ad 9)), (1, .int (nI b))] := hl
  have X : Cx G cy jp js jm _ jc cX7_touchCallersOf 3 RX7 A js.heap := X
  obtain ⟨h83, hT, hp12, hinj, -, -⟩ := id hS
  refine lv_iconst (v := 0) jx jb dX7_touchCallersOf_0 (by decide) ?_
  refine lv_istore_n (lv' := [(2, .int 0), (0, .ref (ad 9)), (1, .int (nI b))]) jx jb dX7_touchCallersOf_1 rfl hl (by decide) rfl (fun ls hl => ?_)
  have loop2 : ∀ (fuel2 : Nat) (k : Nat) (gL2 : Nat → va_E) (H : Heap) (locs : List Loc) (ls : Array Slot), (k ≤ T) → (SuAt cy N ad gL2 T p (mapT p (tK b) x k)) → (∀ k, ¬ (9 ≤ k ∧ k < 60) → gL2 k = g k) → T - k < fuel2 → Wd G A js.heap (N, ad, gL2) H locs → lv_has ls 3 [(0, .ref (ad 9)), (1, .int (nI b)), (2, .int (nI k))] → W jp l je (rmN 2) js jm [.ref (ad 9), .int (nI b)].toArray below meth jc H locs 0 0 Q (F0 jm 2 ls []) := by
    intro fuel2
    induction fuel2 with
    | zero => intro k gL2 H locs ls hk hS hfr  hm2; exact absurd hm2 (Nat.not_lt_zero _)
    | succ fuel2 ih2 =>
      intro k gL2 H locs ls hk hS hfr  hm2 hW hl
      obtain ⟨-, -, -, -, ⟨ft, fm, f9, f10, f11, hft⟩, hx⟩ := id hS
      refine lv_iload_n jx jb dX7_touchCallersOf_2 rfl (lv_at hl 2 rfl) ?_
      refine lv_aload_n jx jb dX7_touchCallersOf_3 rfl (lv_at hl 0 rfl) ?_
      refine w_get X hW K7 (by omega) f9 2 (by decide) fl_X7_21 rfl dX7_touchCallersOf_4 ?_
      refine lv_icmp_ge (tgt := 43) jx jb dX7_touchCallersOf_7 (by decide) (fun c7 => ?_) (fun c7 => ?_)
      · exact ret _ _ _ _ _ dX7_touchCallersOf_43 hW (by have := n_le (by omega) (by omega) c7; have e : k = T := (by omega); rw [e] at hS; exact ⟨hS, hfr⟩)
      · have hlt : k < T := n_nle (by omega) (by omega) c7
        have hk12 : k < 12 := by omega
        have hpk := hp12 k hk12
        obtain ⟨fc, fr, t1, tR, tc, t96, ta⟩ := hx (p k) hpk
        refine lv_aload_n jx jb dX7_touchCallersOf_10 rfl (lv_at hl 0 rfl) ?_
        refine w_get X hW K7 (by omega) f9 0 (by decide) fl_X7_11 rfl dX7_touchCallersOf_11 ?_
        refine lv_iload_n jx jb dX7_touchCallersOf_14 rfl (lv_at hl 2 rfl) ?_
        refine w_ald X hW (by omega) (t := 3) rfl f10 k rfl (by omega) (by decide) dX7_touchCallersOf_15 ?_
        refine top_q (y := some (ad (12 + 4 * p k))) (hft k hk12) ?_
        refine lv_dup jx jb dX7_touchCallersOf_16 rfl ?_
        refine w_getN X hW K3 (by omega) t1 2 (by decide) fn_X7_40 rfl dX7_touchCallersOf_17 ?_
        refine lv_aload_n jx jb dX7_touchCallersOf_20 rfl (lv_at hl 0 rfl) ?_
        refine w_get X hW K7 (by omega) f9 0 (by decide) fl_X7_11 rfl dX7_touchCallersOf_21 ?_
        refine lv_iload_n jx jb dX7_touchCallersOf_24 rfl (lv_at hl 2 rfl) ?_
        refine w_ald X hW (by omega) (t := 3) rfl f10 k rfl (by omega) (by decide) dX7_touchCallersOf_25 ?_
        refine top_q (y := some (ad (12 + 4 * p k))) (hft k hk12) ?_
        refine w_getN X hW K3 (by omega) t1 0 (by decide) fn_X7_30 rfl dX7_touchCallersOf_26 ?_
        refine lv_iload_n jx jb dX7_touchCallersOf_29 rfl (lv_at hl 1 rfl) ?_
        refine w_rV (As := [.int (nI b)]) X hW (c_hasCallOf tR (fun i hi => ⟨tc i hi, t96 _ (gl_mem hi)⟩) hb6) tR.1 tR.2.2.2.2.2.2.2.1 rfl rfl ml_X7_47 mf_X5_hasCallOf ⟨Nat.le_of_ble_eq_true rfl, Nat.le_of_ble_eq_true rfl⟩ hl.1 rfl (Nat.le_of_ble_eq_true rfl) ⟨Nat.le_of_ble_eq_true rfl, Nat.le_of_ble_eq_true rfl⟩ dX7_touchCallersOf_30 (fun H locs hW => ?_)
        refine lv_ior jx jb dX7_touchCallersOf_33 ?_
        refine top_eq (y := bI ((tK b (mapT p (tK b) x k (p k))).2.2.2.1 = true)) (by unfold tK; rw [← bor]) ?_
        refine w_putN X hW K3 (by omega) t1 2 (by decide) fn_X7_40 rfl bI_nar bI_fit (Nat.le_of_ble_eq_true rfl) dX7_touchCallersOf_34 (fun H locs hW => ?_)
        obtain ⟨g_1, eg_1⟩ : ∃ zz, zz = va_up gL2 (12 + 4 * p k) (.inr (3, [.ref (ad (13 + 4 * p k)), .int ((mapT p (tK b) x k (p k)).2.2.1), .int (bI ((tK b (mapT p (tK b) x k (p k))).2.2.2.1 = true)), .int (bI ((mapT p (tK b) x k (p k)).2.2.2.2 = true))])) := ⟨_, rfl⟩
        have hW : Wd G A js.heap (N, ad, g_1) H locs := by rw [eg_1]; exact hW
        have hf2 : g_1 9 = .inr (7, [.ref (ad 10), .ref (ad 11), .int (nI T)]) := by rw [eg_1]; exact (va_up_n (by omega)).trans f9
        have hf3 : g_1 10 = .inl (cy 3, 12, .inr (.inr (.inr (.inr ft)))) := by rw [eg_1]; exact (va_up_n (by omega)).trans f10
        have hf4 : g_1 11 = .inl (cy 0, 12, .inl fm) := by rw [eg_1]; exact (va_up_n (by omega)).trans f11
        have hf5 : g_1 (12 + 4 * p k) = .inr (3, [.ref (ad (13 + 4 * p k)), .int ((mapT p (tK b) x k (p k)).2.2.1), .int (bI ((tK b (mapT p (tK b) x k (p k))).2.2.2.1 = true)), .int (bI ((mapT p (tK b) x k (p k)).2.2.2.2 = true))]) := by rw [eg_1]; exact va_up_s
        refine lv_iinc (v := nI (k + 1)) (lv' := [(2, .int (nI (k + 1))), (0, .ref (ad 9)), (1, .int (nI b))]) jx jb dX7_touchCallersOf_37 hl (k := 2) rfl (show nI k + 1 = nI (k + 1) from nI_1 _) (by decide) rfl (fun ls hl => ?_)
        refine lv_goto (tgt := 2) jx jb dX7_touchCallersOf_40 (by decide) ?_
        have hS1 : SuAt cy N ad g_1 T p (mapT p (tK b) x (k + 1)) := hS.put (fun j j1 j2 j3 j4 j5 j6 => by show g_1 j = _; rw [eg_1, va_up_n (by omega)]) ⟨fc, fr, hf5, tR.fr (by rw [eg_1, va_up_n (by omega)]) (by rw [eg_1, va_up_n (by omega)]) (by rw [eg_1, va_up_n (by omega)]), tc, t96, ta⟩
        exact ih2 (k + 1) g_1 _ _ _ (by omega) hS1 (fun k hk => by show g_1 k = _; rw [eg_1, va_up_n (by omega), hfr k (by omega)])  (by omega) hW (lv_sub hl [1, 2, 0] rfl)
  exact loop2 _ 0 g _ _ _ (by omega) hS (fun k hk => rfl)  (Nat.lt_succ_self _) hW (lv_sub hl [1, 2, 0] rfl)

set_option maxHeartbeats 4000000 in
set_option maxRecDepth 100000 in
theorem c_touchedOnes {l : Launch} {G : va_G} {cy : Nat → ClassId} {N : Nat} {ad : Nat → Nat} {g : Nat → va_E} {T : Nat} {p : Nat → Nat} {x : Nat → TT} (hS : SuAt cy N ad g T p x) : RI l G cy (N, ad, g) yX7_touchedOnes cX7_touchedOnes 3 (some .int) (rmN 0) [.ref (ad 9)] (nI (cntB (fun i => (x (p i)).2.2.2.1) T)) := by
  refine RI.mk (by decide) (by first | rfl | exact bI_nar) (Nat.le_of_ble_eq_true rfl) ?_
  intro jp je js jm below meth jc A Q X hW ret ls hl
  have jx := X.hx
  have jb := X.hb
  have hl : lv_has ls 3 [(0, .ref (ad 9))] := hl
  have X : Cx G cy jp js jm _ jc cX7_touchedOnes 3 RX7 A js.heap := X
  obtain ⟨h83, hT, hp12, hinj, ⟨ft, fm, f9, f10, f11, hft⟩, hx⟩ := id hS
  refine lv_iconst (v := 0) jx jb dX7_touchedOnes_0 (by decide) ?_
  refine lv_istore_n (lv' := [(1, .int 0), (0, .ref (ad 9))]) jx jb dX7_touchedOnes_1 rfl hl (by decide) rfl (fun ls hl => ?_)
  refine lv_iconst (v := 0) jx jb dX7_touchedOnes_2 (by decide) ?_
  refine lv_istore_n (lv' := [(2, .int 0), (1, .int 0), (0, .ref (ad 9))]) jx jb dX7_touchedOnes_3 rfl hl (by decide) rfl (fun ls hl => ?_)
  have loop4 : ∀ (fuel4 : Nat) (k : Nat) (H : Heap) (locs : List Loc) (ls : Array Slot), (k ≤ T) → T - k < fuel4 → Wd G A js.heap (N, ad, g) H locs → lv_has ls 3 [(0, .ref (ad 9)), (1, .int (nI (cntB (fun i => (x (p i)).2.2.2.1) k))), (2, .int (nI k))] → W jp l je (rmN 0) js jm [.ref (ad 9)].toArray below meth jc H locs 0 0 Q (F0 jm 4 ls []) := by
    intro fuel4
    induction fuel4 with
    | zero => intro k H locs ls hk  hm4; exact absurd hm4 (Nat.not_lt_zero _)
    | succ fuel4 ih4 =>
      intro k H locs ls hk  hm4 hW hl
      refine lv_iload_n jx jb dX7_touchedOnes_4 rfl (lv_at hl 2 rfl) ?_
      refine lv_aload_n jx jb dX7_touchedOnes_5 rfl (lv_at hl 0 rfl) ?_
      refine w_get X hW K7 (by omega) f9 2 (by decide) fl_X7_21 rfl dX7_touchedOnes_6 ?_
      refine lv_icmp_ge (tgt := 38) jx jb dX7_touchedOnes_9 (by decide) (fun c9 => ?_) (fun c9 => ?_)
      · refine lv_iload_n jx jb dX7_touchedOnes_38 rfl (lv_at hl 1 rfl) ?_
        exact ret _ _ _ _ _ dX7_touchedOnes_39 hW (by have := n_le (by omega) (by omega) c9; rw [show k = T by omega])
      · have hlt : k < T := n_nle (by omega) (by omega) c9
        have hk12 : k < 12 := by omega
        have hpk := hp12 k hk12
        obtain ⟨fc, fr, t1, tR, tc, t96, ta⟩ := hx (p k) hpk
        refine lv_iload_n jx jb dX7_touchedOnes_12 rfl (lv_at hl 1 rfl) ?_
        refine lv_aload_n jx jb dX7_touchedOnes_13 rfl (lv_at hl 0 rfl) ?_
        refine w_get X hW K7 (by omega) f9 0 (by decide) fl_X7_11 rfl dX7_touchedOnes_14 ?_
        refine lv_iload_n jx jb dX7_touchedOnes_17 rfl (lv_at hl 2 rfl) ?_
        refine w_ald X hW (by omega) (t := 3) rfl f10 k rfl (by omega) (by decide) dX7_touchedOnes_18 ?_
        refine top_q (y := some (ad (12 + 4 * p k))) (hft k hk12) ?_
        refine w_getN X hW K3 (by omega) t1 2 (by decide) fn_X7_40 rfl dX7_touchedOnes_19 ?_
        refine lv_if_eq (tgt := 29) jx jb dX7_touchedOnes_22 (by decide) (fun c22 => ?_) (fun c22 => ?_)
        · refine lv_iconst (v := 0) jx jb dX7_touchedOnes_29 (by decide) ?_
          refine lv_iadd jx jb dX7_touchedOnes_30 ?_
          refine top_eq (y := nI (cntB (fun i => (x (p i)).2.2.2.1) (k + 1))) (by rw [show cntB (fun i => (x (p i)).2.2.2.1) (k + 1) = cntB (fun i => (x (p i)).2.2.2.1) k + (if (x (p k)).2.2.2.1 = true then 1 else 0) from rfl, if_neg (bI_0.mp c22), ← nI_add]; rfl) ?_
          refine lv_istore_n (lv' := [(1, .int (nI (cntB (fun i => (x (p i)).2.2.2.1) (k + 1)))), (0, .ref (ad 9)), (2, .int (nI k))]) jx jb dX7_touchedOnes_31 rfl hl (by decide) rfl (fun ls hl => ?_)
          refine lv_iinc (v := nI (k + 1)) (lv' := [(2, .int (nI (k + 1))), (1, .int (nI (cntB (fun i => (x (p i)).2.2.2.1) (k + 1)))), (0, .ref (ad 9))]) jx jb dX7_touchedOnes_32 hl (k := 2) rfl (show nI k + 1 = nI (k + 1) from nI_1 _) (by decide) rfl (fun ls hl => ?_)
          refine lv_goto (tgt := 4) jx jb dX7_touchedOnes_35 (by decide) ?_
          exact ih4 (k + 1)  _ _ _ (by omega)  (by omega) hW (lv_sub hl [2, 1, 0] rfl)
        · refine lv_iconst (v := 1) jx jb dX7_touchedOnes_25 (by decide) ?_
          refine lv_goto (tgt := 30) jx jb dX7_touchedOnes_26 (by decide) ?_
          refine lv_iadd jx jb dX7_touchedOnes_30 ?_
          refine top_eq (y := nI (cntB (fun i => (x (p i)).2.2.2.1) (k + 1))) (by rw [show cntB (fun i => (x (p i)).2.2.2.1) (k + 1) = cntB (fun i => (x (p i)).2.2.2.1) k + (if (x (p k)).2.2.2.1 = true then 1 else 0) from rfl, if_pos (bI_n0.mp c22), ← nI_add]; rfl) ?_
          refine lv_istore_n (lv' := [(1, .int (nI (cntB (fun i => (x (p i)).2.2.2.1) (k + 1)))), (0, .ref (ad 9)), (2, .int (nI k))]) jx jb dX7_touchedOnes_31 rfl hl (by decide) rfl (fun ls hl => ?_)
          refine lv_iinc (v := nI (k + 1)) (lv' := [(2, .int (nI (k + 1))), (1, .int (nI (cntB (fun i => (x (p i)).2.2.2.1) (k + 1)))), (0, .ref (ad 9))]) jx jb dX7_touchedOnes_32 hl (k := 2) rfl (show nI k + 1 = nI (k + 1) from nI_1 _) (by decide) rfl (fun ls hl => ?_)
          refine lv_goto (tgt := 4) jx jb dX7_touchedOnes_35 (by decide) ?_
          exact ih4 (k + 1)  _ _ _ (by omega)  (by omega) hW (lv_sub hl [2, 1, 0] rfl)
  exact loop4 _ 0  _ _ _ (by omega)  (Nat.lt_succ_self _) hW (lv_sub hl [2, 1, 0] rfl)

set_option maxHeartbeats 4000000 in
set_option maxRecDepth 100000 in
theorem c_brokenOnes {l : Launch} {G : va_G} {cy : Nat → ClassId} {N : Nat} {ad : Nat → Nat} {g : Nat → va_E} {T : Nat} {p : Nat → Nat} {x : Nat → TT} (hS : SuAt cy N ad g T p x) : RI l G cy (N, ad, g) yX7_brokenOnes cX7_brokenOnes 3 (some .int) (rmN 0) [.ref (ad 9)] (nI (cntB (fun i => (x (p i)).2.2.2.2) T)) := by
  refine RI.mk (by decide) (by first | rfl | exact bI_nar) (Nat.le_of_ble_eq_true rfl) ?_
  intro jp je js jm below meth jc A Q X hW ret ls hl
  have jx := X.hx
  have jb := X.hb
  have hl : lv_has ls 3 [(0, .ref (ad 9))] := hl
  have X : Cx G cy jp js jm _ jc cX7_brokenOnes 3 RX7 A js.heap := X
  obtain ⟨h83, hT, hp12, hinj, ⟨ft, fm, f9, f10, f11, hft⟩, hx⟩ := id hS
  refine lv_iconst (v := 0) jx jb dX7_brokenOnes_0 (by decide) ?_
  refine lv_istore_n (lv' := [(1, .int 0), (0, .ref (ad 9))]) jx jb dX7_brokenOnes_1 rfl hl (by decide) rfl (fun ls hl => ?_)
  refine lv_iconst (v := 0) jx jb dX7_brokenOnes_2 (by decide) ?_
  refine lv_istore_n (lv' := [(2, .int 0), (1, .int 0), (0, .ref (ad 9))]) jx jb dX7_brokenOnes_3 rfl hl (by decide) rfl (fun ls hl => ?_)
  have loop4 : ∀ (fuel4 : Nat) (k : Nat) (H : Heap) (locs : List Loc) (ls : Array Slot), (k ≤ T) → T - k < fuel4 → Wd G A js.heap (N, ad, g) H locs → lv_has ls 3 [(0, .ref (ad 9)), (1, .int (nI (cntB (fun i => (x (p i)).2.2.2.2) k))), (2, .int (nI k))] → W jp l je (rmN 0) js jm [.ref (ad 9)].toArray below meth jc H locs 0 0 Q (F0 jm 4 ls []) := by
    intro fuel4
    induction fuel4 with
    | zero => intro k H locs ls hk  hm4; exact absurd hm4 (Nat.not_lt_zero _)
    | succ fuel4 ih4 =>
      intro k H locs ls hk  hm4 hW hl
      refine lv_iload_n jx jb dX7_brokenOnes_4 rfl (lv_at hl 2 rfl) ?_
      refine lv_aload_n jx jb dX7_brokenOnes_5 rfl (lv_at hl 0 rfl) ?_
      refine w_get X hW K7 (by omega) f9 2 (by decide) fl_X7_21 rfl dX7_brokenOnes_6 ?_
      refine lv_icmp_ge (tgt := 38) jx jb dX7_brokenOnes_9 (by decide) (fun c9 => ?_) (fun c9 => ?_)
      · refine lv_iload_n jx jb dX7_brokenOnes_38 rfl (lv_at hl 1 rfl) ?_
        exact ret _ _ _ _ _ dX7_brokenOnes_39 hW (by have := n_le (by omega) (by omega) c9; rw [show k = T by omega])
      · have hlt : k < T := n_nle (by omega) (by omega) c9
        have hk12 : k < 12 := by omega
        have hpk := hp12 k hk12
        obtain ⟨fc, fr, t1, tR, tc, t96, ta⟩ := hx (p k) hpk
        refine lv_iload_n jx jb dX7_brokenOnes_12 rfl (lv_at hl 1 rfl) ?_
        refine lv_aload_n jx jb dX7_brokenOnes_13 rfl (lv_at hl 0 rfl) ?_
        refine w_get X hW K7 (by omega) f9 0 (by decide) fl_X7_11 rfl dX7_brokenOnes_14 ?_
        refine lv_iload_n jx jb dX7_brokenOnes_17 rfl (lv_at hl 2 rfl) ?_
        refine w_ald X hW (by omega) (t := 3) rfl f10 k rfl (by omega) (by decide) dX7_brokenOnes_18 ?_
        refine top_q (y := some (ad (12 + 4 * p k))) (hft k hk12) ?_
        refine w_getN X hW K3 (by omega) t1 3 (by decide) fn_X7_51 rfl dX7_brokenOnes_19 ?_
        refine lv_if_eq (tgt := 29) jx jb dX7_brokenOnes_22 (by decide) (fun c22 => ?_) (fun c22 => ?_)
        · refine lv_iconst (v := 0) jx jb dX7_brokenOnes_29 (by decide) ?_
          refine lv_iadd jx jb dX7_brokenOnes_30 ?_
          refine top_eq (y := nI (cntB (fun i => (x (p i)).2.2.2.2) (k + 1))) (by rw [show cntB (fun i => (x (p i)).2.2.2.2) (k + 1) = cntB (fun i => (x (p i)).2.2.2.2) k + (if (x (p k)).2.2.2.2 = true then 1 else 0) from rfl, if_neg (bI_0.mp c22), ← nI_add]; rfl) ?_
          refine lv_istore_n (lv' := [(1, .int (nI (cntB (fun i => (x (p i)).2.2.2.2) (k + 1)))), (0, .ref (ad 9)), (2, .int (nI k))]) jx jb dX7_brokenOnes_31 rfl hl (by decide) rfl (fun ls hl => ?_)
          refine lv_iinc (v := nI (k + 1)) (lv' := [(2, .int (nI (k + 1))), (1, .int (nI (cntB (fun i => (x (p i)).2.2.2.2) (k + 1)))), (0, .ref (ad 9))]) jx jb dX7_brokenOnes_32 hl (k := 2) rfl (show nI k + 1 = nI (k + 1) from nI_1 _) (by decide) rfl (fun ls hl => ?_)
          refine lv_goto (tgt := 4) jx jb dX7_brokenOnes_35 (by decide) ?_
          exact ih4 (k + 1)  _ _ _ (by omega)  (by omega) hW (lv_sub hl [2, 1, 0] rfl)
        · refine lv_iconst (v := 1) jx jb dX7_brokenOnes_25 (by decide) ?_
          refine lv_goto (tgt := 30) jx jb dX7_brokenOnes_26 (by decide) ?_
          refine lv_iadd jx jb dX7_brokenOnes_30 ?_
          refine top_eq (y := nI (cntB (fun i => (x (p i)).2.2.2.2) (k + 1))) (by rw [show cntB (fun i => (x (p i)).2.2.2.2) (k + 1) = cntB (fun i => (x (p i)).2.2.2.2) k + (if (x (p k)).2.2.2.2 = true then 1 else 0) from rfl, if_pos (bI_n0.mp c22), ← nI_add]; rfl) ?_
          refine lv_istore_n (lv' := [(1, .int (nI (cntB (fun i => (x (p i)).2.2.2.2) (k + 1)))), (0, .ref (ad 9)), (2, .int (nI k))]) jx jb dX7_brokenOnes_31 rfl hl (by decide) rfl (fun ls hl => ?_)
          refine lv_iinc (v := nI (k + 1)) (lv' := [(2, .int (nI (k + 1))), (1, .int (nI (cntB (fun i => (x (p i)).2.2.2.2) (k + 1)))), (0, .ref (ad 9))]) jx jb dX7_brokenOnes_32 hl (k := 2) rfl (show nI k + 1 = nI (k + 1) from nI_1 _) (by decide) rfl (fun ls hl => ?_)
          refine lv_goto (tgt := 4) jx jb dX7_brokenOnes_35 (by decide) ?_
          exact ih4 (k + 1)  _ _ _ (by omega)  (by omega) hW (lv_sub hl [2, 1, 0] rfl)
  exact loop4 _ 0  _ _ _ (by omega)  (Nat.lt_succ_self _) hW (lv_sub hl [2, 1, 0] rfl)

set_option maxHeartbeats 4000000 in
set_option maxRecDepth 100000 in
theorem c_metByHeap {l : Launch} {G : va_G} {cy : Nat → ClassId} {N : Nat} {ad : Nat → Nat} {g : Nat → va_E} {T : Nat} {fm : Nat → Int32} {h : Int32} (h83 : 83 ≤ N) (hT : T ≤ 12) (f9 : g 9 = .inr (7, [.ref (ad 10), .ref (ad 11), .int (nI T)])) (f11 : g 11 = .inl (cy 0, 12, .inl fm)) : RI l G cy (N, ad, g) yX7_metByHeap cX7_metByHeap 4 (some .int) (rmN 0) [.ref (ad 9), .int h] (mbh fm h T) := by
  refine RI.mk (by decide) (by first | rfl | exact bI_nar) (Nat.le_of_ble_eq_true rfl) ?_
  intro jp je js jm below meth jc A Q X hW ret ls hl
  have jx := X.hx
  have jb := X.hb
  have hl : lv_has ls 4 [(0, .ref (ad 9)), (1, .int h)] := hl
  have X : Cx G cy jp js jm _ jc cX7_metByHeap 4 RX7 A js.heap := X
  refine lv_iconst (v := 0) jx jb dX7_metByHeap_0 (by decide) ?_
  refine lv_istore_n (lv' := [(2, .int 0), (0, .ref (ad 9)), (1, .int h)]) jx jb dX7_metByHeap_1 rfl hl (by decide) rfl (fun ls hl => ?_)
  refine lv_iconst (v := 0) jx jb dX7_metByHeap_2 (by decide) ?_
  refine lv_istore_n (lv' := [(3, .int 0), (2, .int 0), (0, .ref (ad 9)), (1, .int h)]) jx jb dX7_metByHeap_3 rfl hl (by decide) rfl (fun ls hl => ?_)
  have loop4 : ∀ (fuel4 : Nat) (k : Nat) (H : Heap) (locs : List Loc) (ls : Array Slot), (k ≤ T) → T - k < fuel4 → Wd G A js.heap (N, ad, g) H locs → lv_has ls 4 [(0, .ref (ad 9)), (1, .int h), (2, .int (mbh fm h k)), (3, .int (nI k))] → W jp l je (rmN 0) js jm [.ref (ad 9), .int h].toArray below meth jc H locs 0 0 Q (F0 jm 4 ls []) := by
    intro fuel4
    induction fuel4 with
    | zero => intro k H locs ls hk  hm4; exact absurd hm4 (Nat.not_lt_zero _)
    | succ fuel4 ih4 =>
      intro k H locs ls hk  hm4 hW hl
      refine lv_iload_n jx jb dX7_metByHeap_4 rfl (lv_at hl 3 rfl) ?_
      refine lv_aload_n jx jb dX7_metByHeap_5 rfl (lv_at hl 0 rfl) ?_
      refine w_get X hW K7 (by omega) f9 2 (by decide) fl_X7_21 rfl dX7_metByHeap_6 ?_
      refine lv_icmp_ge (tgt := 40) jx jb dX7_metByHeap_9 (by decide) (fun c9 => ?_) (fun c9 => ?_)
      · refine lv_iload_n jx jb dX7_metByHeap_40 rfl (lv_at hl 2 rfl) ?_
        exact ret _ _ _ _ _ dX7_metByHeap_41 hW (by have := n_le (by omega) (by omega) c9; rw [show k = T by omega])
      · have hlt : k < T := n_nle (by omega) (by omega) c9
        refine lv_iload_n jx jb dX7_metByHeap_12 rfl (lv_at hl 2 rfl) ?_
        refine lv_iload_n jx jb dX7_metByHeap_13 rfl (lv_at hl 1 rfl) ?_
        refine lv_iload_n jx jb dX7_metByHeap_14 rfl (lv_at hl 3 rfl) ?_
        refine lv_ishr jx jb dX7_metByHeap_15 ?_
        refine lv_iconst (v := 1) jx jb dX7_metByHeap_16 (by decide) ?_
        refine lv_iand jx jb dX7_metByHeap_17 ?_
        refine lv_iconst (v := 1) jx jb dX7_metByHeap_18 (by decide) ?_
        refine lv_icmp_ne (tgt := 31) jx jb dX7_metByHeap_19 (by decide) (fun c19 => ?_) (fun c19 => ?_)
        · refine lv_iconst (v := 0) jx jb dX7_metByHeap_31 (by decide) ?_
          refine lv_ior jx jb dX7_metByHeap_32 ?_
          refine top_eq (y := mbh fm h (k + 1)) (by rw [show mbh fm h (k + 1) = mbh fm h k ||| (if (h >>> (nI k &&& 31)) &&& 1 = 1 then fm k else 0) from rfl, if_neg c19]) ?_
          refine lv_istore_n (lv' := [(2, .int (mbh fm h (k + 1))), (0, .ref (ad 9)), (1, .int h), (3, .int (nI k))]) jx jb dX7_metByHeap_33 rfl hl (by decide) rfl (fun ls hl => ?_)
          refine lv_iinc (v := nI (k + 1)) (lv' := [(3, .int (nI (k + 1))), (2, .int (mbh fm h (k + 1))), (0, .ref (ad 9)), (1, .int h)]) jx jb dX7_metByHeap_34 hl (k := 3) rfl (show nI k + 1 = nI (k + 1) from nI_1 _) (by decide) rfl (fun ls hl => ?_)
          refine lv_goto (tgt := 4) jx jb dX7_metByHeap_37 (by decide) ?_
          exact ih4 (k + 1)  _ _ _ (by omega)  (by omega) hW (lv_sub hl [2, 3, 1, 0] rfl)
        · refine lv_aload_n jx jb dX7_metByHeap_22 rfl (lv_at hl 0 rfl) ?_
          refine w_get X hW K7 (by omega) f9 1 (by decide) fl_X7_17 rfl dX7_metByHeap_23 ?_
          refine lv_iload_n jx jb dX7_metByHeap_26 rfl (lv_at hl 3 rfl) ?_
          refine w_ild X hW (by omega) f11 k rfl (by omega) (by decide) dX7_metByHeap_27 ?_
          refine lv_goto (tgt := 32) jx jb dX7_metByHeap_28 (by decide) ?_
          refine lv_ior jx jb dX7_metByHeap_32 ?_
          refine top_eq (y := mbh fm h (k + 1)) (by rw [show mbh fm h (k + 1) = mbh fm h k ||| (if (h >>> (nI k &&& 31)) &&& 1 = 1 then fm k else 0) from rfl, if_pos c19]) ?_
          refine lv_istore_n (lv' := [(2, .int (mbh fm h (k + 1))), (0, .ref (ad 9)), (1, .int h), (3, .int (nI k))]) jx jb dX7_metByHeap_33 rfl hl (by decide) rfl (fun ls hl => ?_)
          refine lv_iinc (v := nI (k + 1)) (lv' := [(3, .int (nI (k + 1))), (2, .int (mbh fm h (k + 1))), (0, .ref (ad 9)), (1, .int h)]) jx jb dX7_metByHeap_34 hl (k := 3) rfl (show nI k + 1 = nI (k + 1) from nI_1 _) (by decide) rfl (fun ls hl => ?_)
          refine lv_goto (tgt := 4) jx jb dX7_metByHeap_37 (by decide) ?_
          exact ih4 (k + 1)  _ _ _ (by omega)  (by omega) hW (lv_sub hl [2, 3, 1, 0] rfl)
  exact loop4 _ 0  _ _ _ (by omega)  (Nat.lt_succ_self _) hW (lv_sub hl [2, 3, 1, 0] rfl)
