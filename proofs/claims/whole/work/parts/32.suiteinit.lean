/-- the suite's cells as they are made -/
def TRaw (cy : Nat → ClassId) (N : Nat) (ad : Nat → Nat) (g : Nat → va_E) (q : Nat) : Prop := g (12 + 4 * q) = .inr (3, [.ref (ad (13 + 4 * q)), .int 0, .int 0, .int 0]) ∧ RowAt cy N ad g (13 + 4 * q) (14 + 4 * q) (15 + 4 * q) 0 (fun _ => 0) (fun _ => 0)
theorem TRaw.grow {cy : Nat → ClassId} {N N' : Nat} {ad ad' : Nat → Nat} {g g' : Nat → va_E} {q : Nat} (h : TRaw cy N ad g q) (hN : N ≤ N') (ha : ∀ k, k < N → ad' k = ad k) (hg : ∀ k, 12 ≤ k → k < N → g' k = g k) : TRaw cy N' ad' g' q := by
  obtain ⟨a, a1, a2, a3, a4, a5, a6, a7, a8, a9, a10⟩ := h
  exact ⟨by rw [hg _ (by omega) (by omega), a, ha _ a1], by omega, by omega, by omega, a4, a5, a6, a7, by rw [hg _ (by omega) a1, a8, ha _ a2, ha _ a3], (hg _ (by omega) a2).trans a9, (hg _ (by omega) a3).trans a10⟩
def SRaw (cy : Nat → ClassId) (N : Nat) (ad : Nat → Nat) (g : Nat → va_E) : Prop := 60 ≤ N ∧ g 9 = .inr (7, [.ref (ad 10), .ref (ad 11), .int 0]) ∧ (∃ ft : Nat → Option Nat, g 10 = .inl (cy 3, 12, .inr (.inr (.inr (.inr ft)))) ∧ ∀ i, i < 12 → ft i = some (ad (12 + 4 * i))) ∧ g 11 = .inl (cy 0, 12, .inl (fun _ => 0)) ∧ ∀ q, q < 12 → TRaw cy N ad g q
theorem SRaw.grow {cy : Nat → ClassId} {N' : Nat} {ad ad' : Nat → Nat} {g g' : Nat → va_E} (h : SRaw cy 60 ad g) (hN : 60 ≤ N') (ha : ∀ k, k < 60 → ad' k = ad k) (hg : ∀ k, 9 ≤ k → k < 60 → g' k = g k) : SRaw cy N' ad' g' := by
  obtain ⟨a, b, ⟨ft, c1, c2⟩, d, e⟩ := h
  exact ⟨hN, by rw [hg 9 (by decide) (by decide), b, ha 10 (by decide), ha 11 (by decide)], ⟨ft, (hg 10 (by decide) (by decide)).trans c1, fun i hi => by rw [c2 i hi, ha _ (by omega)]⟩, (hg 11 (by decide) (by decide)).trans d, fun q hq => (e q hq).grow hN ha (fun k k1 k2 => hg k (by omega) k2)⟩

set_option maxHeartbeats 4000000 in
set_option maxRecDepth 100000 in
theorem c_Suite_init {l : Launch} {G : va_G} {cy : Nat → ClassId} {ad : Nat → Nat} {g : Nat → va_E} (hg : g 9 = .inr (7, [.null, .null, .int 0])) : MV l G cy (10, ad, g) yX7_init cX7_init 2 none (rmA 3 50 4908) [.ref (ad 9)] (fun u => ∃ ad1 g1, u = (60, ad1, g1) ∧ (∀ k, k < 10 → ad1 k = ad k) ∧ SRaw cy 60 ad1 g1 ∧ ∀ k, k < 10 → k ≠ 9 → g1 k = g k) := by
  refine MV.mk (by decide) (Nat.le_of_ble_eq_true rfl) ?_
  intro jp je js jm below meth jc A Q hin X hW ret ls hl
  have jx := X.hx
  have jb := X.hb
  have hl : lv_has ls 2 [(0, .ref (ad 9))] := hl
  have X : Cx G cy jp js jm _ jc cX7_init 2 RX7 A js.heap := X
  generalize hlocs0 : ([] : List Loc) = locs at hW ⊢
  refine lv_aload_n jx jb dX7_init_0 rfl (lv_at hl 0 rfl) ?_
  refine W.objInit jx jb X.1.2.2.2.1 (X.ht ml_X7_3) (X.ht im_objectInit) (X.ht co_objectInit) rfl (by rw [X.1.2.2.1]; exact hl.1) rfl dX7_init_1 (Nat.le_of_ble_eq_true rfl) (Nat.le_of_ble_eq_true rfl) ?_
  refine W.eq (g2 := F0 jm 4 ls []) rfl ?_
  refine lv_aload_n jx jb dX7_init_4 rfl (lv_at hl 0 rfl) ?_
  refine lv_bipush (v := 12) jx jb dX7_init_5 (by decide) ?_
  refine w_newq X hW (k := 12) (len := 12) (t := 3) rfl cl_X7_9 X.2.2.1.2.2 (by decide) (by decide) (by decide) (Nat.le_of_ble_eq_true rfl) (Nat.le_of_ble_eq_true rfl) dX7_init_7 (fun q1 H hW => ?_)
  obtain ⟨ad1, ea1⟩ : ∃ zz, zz = va_up ad 10 q1 := ⟨_, rfl⟩
  obtain ⟨g_1, eg_1⟩ : ∃ zz, zz = va_up g 10 (.inl (cy 3, 12, .inr (.inr (.inr (.inr (fun _ => none)))))) := ⟨_, rfl⟩
  have hW : Wd G A js.heap (11, ad1, g_1) H locs := by rw [ea1, eg_1]; exact hW
  have hq1 : ad1 10 = q1 := by rw [ea1]; exact va_up_s
  have ha1 : ∀ j_, j_ < 10 → ad1 j_ = ad j_ := fun j_ hj_ => by rw [ea1]; exact va_up_n (by omega)
  refine W.eq (g2 := F0 jm 10 ls [.ref (ad1 10), .ref (ad1 9)]) (by rw [hq1, ha1 9 (by omega)]) ?_
  have hl : lv_has ls 2 [(0, .ref (ad1 9))] := by rw [ha1 9 (by omega)]; exact hl
  have hf2 : g_1 9 = .inr (7, [.null, .null, .int 0]) := by rw [eg_1, va_up_n (by omega)]; exact hg
  have hn1 : g_1 10 = .inl (cy 3, 12, .inr (.inr (.inr (.inr (fun _ => none))))) := by rw [eg_1]; exact va_up_s
  refine w_putF X hW K7 (by omega) hf2 0 (by decide) fl_X7_11 rfl hin rfl rfl rfl (Nat.le_of_ble_eq_true rfl) dX7_init_10 (fun H locs hW => ?_)
  obtain ⟨g_3, eg_3⟩ : ∃ zz, zz = va_up g_1 9 (.inr (7, [.ref (ad1 10), .null, .int 0])) := ⟨_, rfl⟩
  have hW : Wd G A js.heap (11, ad1, g_3) H locs := by rw [eg_3]; exact hW
  have hf4 : g_3 9 = .inr (7, [.ref (ad1 10), .null, .int 0]) := by rw [eg_3]; exact va_up_s
  have hf5 : g_3 10 = .inl (cy 3, 12, .inr (.inr (.inr (.inr (fun _ => none))))) := by rw [eg_3]; exact (va_up_n (by decide)).trans hn1
  refine lv_aload_n jx jb dX7_init_13 rfl (lv_at hl 0 rfl) ?_
  refine lv_bipush (v := 12) jx jb dX7_init_14 (by decide) ?_
  refine w_newi X hW (k := 12) (len := 12) (by decide) (by decide) (by decide) (Nat.le_of_ble_eq_true rfl) (Nat.le_of_ble_eq_true rfl) dX7_init_16 (fun q6 H hW => ?_)
  obtain ⟨ad6, ea6⟩ : ∃ zz, zz = va_up ad1 11 q6 := ⟨_, rfl⟩
  obtain ⟨g_6, eg_6⟩ : ∃ zz, zz = va_up g_3 11 (.inl (cy 0, 12, .inl (fun _ => 0))) := ⟨_, rfl⟩
  have hW : Wd G A js.heap (12, ad6, g_6) H locs := by rw [ea6, eg_6]; exact hW
  have hq6 : ad6 11 = q6 := by rw [ea6]; exact va_up_s
  have ha6 : ∀ j_, j_ < 11 → ad6 j_ = ad1 j_ := fun j_ hj_ => by rw [ea6]; exact va_up_n (by omega)
  refine W.eq (g2 := F0 jm 18 ls [.ref (ad6 11), .ref (ad6 9)]) (by rw [hq6, ha6 9 (by omega)]) ?_
  have hl : lv_has ls 2 [(0, .ref (ad6 9))] := by rw [ha6 9 (by omega)]; exact hl
  have hf7 : g_6 9 = .inr (7, [.ref (ad6 10), .null, .int 0]) := by rw [eg_6, va_up_n (by omega), ha6 10 (by omega)]; exact hf4
  have hf8 : g_6 10 = .inl (cy 3, 12, .inr (.inr (.inr (.inr (fun _ => none))))) := by rw [eg_6, va_up_n (by omega)]; exact hf5
  have hn6 : g_6 11 = .inl (cy 0, 12, .inl (fun _ => 0)) := by rw [eg_6]; exact va_up_s
  refine w_putF X hW K7 (by omega) hf7 1 (by decide) fl_X7_17 rfl hin rfl rfl rfl (Nat.le_of_ble_eq_true rfl) dX7_init_18 (fun H locs hW => ?_)
  obtain ⟨g_9, eg_9⟩ : ∃ zz, zz = va_up g_6 9 (.inr (7, [.ref (ad6 10), .ref (ad6 11), .int 0])) := ⟨_, rfl⟩
  have hW : Wd G A js.heap (12, ad6, g_9) H locs := by rw [eg_9]; exact hW
  have hf10 : g_9 9 = .inr (7, [.ref (ad6 10), .ref (ad6 11), .int 0]) := by rw [eg_9]; exact va_up_s
  have hf11 : g_9 10 = .inl (cy 3, 12, .inr (.inr (.inr (.inr (fun _ => none))))) := by rw [eg_9]; exact (va_up_n (by decide)).trans hf8
  have hf12 : g_9 11 = .inl (cy 0, 12, .inl (fun _ => 0)) := by rw [eg_9]; exact (va_up_n (by decide)).trans hn6
  refine lv_aload_n jx jb dX7_init_21 rfl (lv_at hl 0 rfl) ?_
  refine lv_iconst (v := 0) jx jb dX7_init_22 (by decide) ?_
  refine w_put X hW K7 (by omega) hf10 2 (by decide) fl_X7_21 rfl rfl rfl (Nat.le_of_ble_eq_true rfl) dX7_init_23 (fun H locs hW => ?_)
  obtain ⟨g_13, eg_13⟩ : ∃ zz, zz = va_up g_9 9 (.inr (7, [.ref (ad6 10), .ref (ad6 11), .int 0])) := ⟨_, rfl⟩
  have hW : Wd G A js.heap (12, ad6, g_13) H locs := by rw [eg_13]; exact hW
  have hf14 : g_13 9 = .inr (7, [.ref (ad6 10), .ref (ad6 11), .int 0]) := by rw [eg_13]; exact va_up_s
  have hf15 : g_13 10 = .inl (cy 3, 12, .inr (.inr (.inr (.inr (fun _ => none))))) := by rw [eg_13]; exact (va_up_n (by decide)).trans hf11
  have hf16 : g_13 11 = .inl (cy 0, 12, .inl (fun _ => 0)) := by rw [eg_13]; exact (va_up_n (by decide)).trans hf12
  refine lv_iconst (v := 0) jx jb dX7_init_26 (by decide) ?_
  refine lv_istore_n (lv' := [(1, .int 0), (0, .ref (ad6 9))]) jx jb dX7_init_27 rfl hl (by decide) rfl (fun ls hl => ?_)
  have loop28 : ∀ (fuel28 k : Nat) (adK : Nat → Nat) (gK : Nat → va_E) (H : Heap) (locs : List Loc) (ls : Array Slot), (k ≤ 12) → (∀ j, j < 10 → adK j = ad j) → (∀ j, j < 10 → j ≠ 9 → gK j = g j) → (gK 9 = .inr (7, [.ref (adK 10), .ref (adK 11), .int 0])) → (∃ ft : Nat → Option Nat, gK 10 = .inl (cy 3, 12, .inr (.inr (.inr (.inr ft)))) ∧ ∀ i, i < k → ft i = some (adK (12 + 4 * i))) → (gK 11 = .inl (cy 0, 12, .inl (fun _ => 0))) → (∀ q, q < k → TRaw cy (12 + 4 * k) adK gK q) → 12 - k < fuel28 → Wd G A js.heap (12 + 4 * k, adK, gK) H locs → lv_has ls 2 [(0, .ref (adK 9)), (1, .int (nI k))] → W jp l je (rmA 3 50 4908) js jm [.ref (ad 9)].toArray below meth jc H locs (2 + 4 * k) (24 + 407 * k) Q (F0 jm 28 ls []) := by
    intro fuel28
    induction fuel28 with
    | zero => intro k adK gK H locs ls _ _ _ _ _ _ _ hm28; exact absurd hm28 (Nat.not_lt_zero _)
    | succ fuel28 ih28 =>
      intro k adK gK H locs ls hk hA hG h9 hX10 h11 hT hm28 hW hl
      obtain ⟨ft, h10, hft⟩ := hX10
      refine lv_iload_n jx jb dX7_init_28 rfl (lv_at hl 1 rfl) ?_
      refine lv_bipush (v := 12) jx jb dX7_init_29 (by decide) ?_
      refine lv_icmp_ge (tgt := 53) jx jb dX7_init_31 (by decide) (fun c31 => ?_) (fun c31 => ?_)
      · have hk12 : k = 12 := by have := n_le (a := 12) (by decide) (by omega) c31; omega
        subst hk12
        refine W.widen (k := 50) (n := 4908) (by decide) (by decide) ?_
        exact ret _ _ _ _ _ dX7_init_53 hW ⟨adK, gK, rfl, hA, ⟨by decide, h9, ⟨ft, h10, hft⟩, h11, hT⟩, hG⟩
      · have hlt : k < 12 := n_nle (a := 12) (by decide) (by omega) c31
        refine lv_aload_n jx jb dX7_init_34 rfl (lv_at hl 0 rfl) ?_
        refine w_get X hW K7 (by omega) h9 0 (by decide) fl_X7_11 rfl dX7_init_35 ?_
        refine lv_iload_n jx jb dX7_init_38 rfl (lv_at hl 1 rfl) ?_
        refine w_new X hW K3 cl_X7_9 inst_X3 ini_X3 (fs := [.null, .int 0, .int 0, .int 0]) (fun j hj => by rcases (show j = 0 ∨ j = 1 ∨ j = 2 ∨ j = 3 by omega) with rfl | rfl | rfl | rfl <;> rfl) (show 2 + 4 * k + 1 ≤ 50 by omega) (show 24 + 407 * k + 4 ≤ 4908 by omega) dX7_init_39 (fun q17 H hW => ?_)
        obtain ⟨ad17, ea17⟩ : ∃ zz, zz = va_up adK (12 + 4 * k) q17 := ⟨_, rfl⟩
        obtain ⟨g_17, eg_17⟩ : ∃ zz, zz = va_up gK (12 + 4 * k) (.inr (3, [.null, .int 0, .int 0, .int 0])) := ⟨_, rfl⟩
        have hW : Wd G A js.heap (12 + 4 * k + 1, ad17, g_17) H locs := by rw [ea17, eg_17]; exact hW
        have hq17 : ad17 (12 + 4 * k) = q17 := by rw [ea17]; exact va_up_s
        have ha17 : ∀ j_, j_ < 12 + 4 * k → ad17 j_ = adK j_ := fun j_ hj_ => by rw [ea17]; exact va_up_n (by omega)
        refine W.eq (g2 := F0 jm 42 ls [.ref (ad17 (12 + 4 * k)), .int (nI k), .ref (ad17 10)]) (by rw [hq17, ha17 10 (by omega)]) ?_
        have hl : lv_has ls 2 [(0, .ref (ad17 9)), (1, .int (nI k))] := by rw [ha17 9 (by omega)]; exact hl
        have hf18 : g_17 9 = .inr (7, [.ref (ad17 10), .ref (ad17 11), .int 0]) := by rw [eg_17, va_up_n (by omega), ha17 10 (by omega), ha17 11 (by omega)]; exact h9
        have hf19 : g_17 10 = .inl (cy 3, 12, .inr (.inr (.inr (.inr ft)))) := by rw [eg_17, va_up_n (by omega)]; exact h10
        have hf20 : g_17 11 = .inl (cy 0, 12, .inl (fun _ => 0)) := by rw [eg_17, va_up_n (by omega)]; exact h11
        have hn17 : g_17 (12 + 4 * k) = .inr (3, [.null, .int 0, .int 0, .int 0]) := by rw [eg_17]; exact va_up_s
        refine lv_dup jx jb dX7_init_42 rfl ?_
        refine w_cINv (As := []) (b := ad17 (12 + 4 * k)) X hW (c_MadeTest_init (n := 12 + 4 * k) (by omega) hn17) mn_X7_25 mf_X3_init ⟨Nat.le_of_ble_eq_true rfl, Nat.le_of_ble_eq_true rfl⟩ hl.1 rfl (Nat.le_of_ble_eq_true rfl) dX7_init_43 ⟨show 2 + 4 * k + 1 + 3 ≤ 50 by omega, show 24 + 407 * k + 4 + 403 ≤ 4908 by omega⟩ (fun u H locs hp hW => ?_)
        obtain ⟨ad21, g_21, eu21, ha21, hs21, hg21⟩ := hp
        subst eu21
        refine W.eq (g2 := F0 jm 46 ls [.ref (ad21 (12 + 4 * k)), .int (nI k), .ref (ad21 10)]) (by rw [ha21 (12 + 4 * k) (by omega), ha21 10 (by omega)]) ?_
        have hl : lv_has ls 2 [(0, .ref (ad21 9)), (1, .int (nI k))] := by rw [ha21 9 (by omega)]; exact hl
        have hf22 : g_21 9 = .inr (7, [.ref (ad21 10), .ref (ad21 11), .int 0]) := by rw [hg21 9 (by omega) (by omega), ha21 10 (by omega), ha21 11 (by omega)]; exact hf18
        have hf23 : g_21 10 = .inl (cy 3, 12, .inr (.inr (.inr (.inr ft)))) := by rw [hg21 10 (by omega) (by omega)]; exact hf19
        have hf24 : g_21 11 = .inl (cy 0, 12, .inl (fun _ => 0)) := by rw [hg21 11 (by omega) (by omega)]; exact hf20
        refine w_ast X hW (by omega) (t := 3) (ci := 3) rfl hf23 (v := 12 + 4 * k) (by omega) hs21.2 rfl k rfl (by omega) (by decide) dX7_init_46 (fun H locs hW => ?_)
        obtain ⟨g_25, eg_25⟩ : ∃ zz, zz = va_up g_21 10 (.inl (cy 3, 12, .inr (.inr (.inr (.inr (va_up ft k (some (ad21 (12 + 4 * k))))))))) := ⟨_, rfl⟩
        have hW : Wd G A js.heap (12 + 4 * k + 1 + 3, ad21, g_25) H locs := by rw [eg_25]; exact hW
        have hf26 : g_25 9 = .inr (7, [.ref (ad21 10), .ref (ad21 11), .int 0]) := by rw [eg_25]; exact (va_up_n (by decide)).trans hf22
        have hf27 : g_25 10 = .inl (cy 3, 12, .inr (.inr (.inr (.inr (va_up ft k (some (ad21 (12 + 4 * k)))))))) := by rw [eg_25]; exact va_up_s
        have hf28 : g_25 11 = .inl (cy 0, 12, .inl (fun _ => 0)) := by rw [eg_25]; exact (va_up_n (by decide)).trans hf24
        have hf29 : g_25 (12 + 4 * k) = .inr (3, [.ref (ad21 (12 + 4 * k + 1)), .int 0, .int 0, .int 0]) := by rw [eg_25]; exact (va_up_n (by omega)).trans hs21.2
        refine lv_iinc (v := nI (k + 1)) (lv' := [(1, .int (nI (k + 1))), (0, .ref (ad21 9))]) jx jb dX7_init_47 hl (k := 1) rfl (show nI k + 1 = nI (k + 1) from nI_1 _) (by decide) rfl (fun ls hl => ?_)
        refine lv_goto (tgt := 28) jx jb dX7_init_50 (by decide) ?_
        refine W.widen (k := 2 + 4 * (k + 1)) (n := 24 + 407 * (k + 1)) (show 2 + 4 * k + 1 + 3 ≤ 2 + 4 * (k + 1) by omega) (show 24 + 407 * k + 4 + 403 ≤ 24 + 407 * (k + 1) by omega) ?_
        have haK : ∀ j, j < 12 + 4 * k → ad21 j = adK j := fun j hj => by rw [ha21 j (by omega), ha17 j (by omega)]
        have hgK : ∀ j, 11 ≤ j → j < 12 + 4 * k → g_25 j = gK j := fun j h1 h2 => by rw [eg_25, va_up_n (by omega), hg21 _ (by omega) (by omega), eg_17, va_up_n (by omega)]
        have hnew : TRaw cy (12 + 4 * (k + 1)) ad21 g_25 k := ⟨by rw [show 13 + 4 * k = 12 + 4 * k + 1 by omega]; exact hf29, by have hr := hs21.1; rw [show 13 + 4 * k = 12 + 4 * k + 1 by omega, show 14 + 4 * k = 12 + 4 * k + 1 + 1 by omega, show 15 + 4 * k = 12 + 4 * k + 1 + 2 by omega, show 12 + 4 * (k + 1) = 12 + 4 * k + 1 + 3 by omega]; exact hr.fr (by rw [eg_25, va_up_n (by omega)]) (by rw [eg_25, va_up_n (by omega)]) (by rw [eg_25, va_up_n (by omega)])⟩
        exact ih28 (k + 1) ad21 g_25 _ _ _ (by omega) (fun j hj => by rw [haK j (by omega)]; exact hA j hj) (fun j h1 h2 => by rw [eg_25, va_up_n (by omega), hg21 _ (by omega) (by omega), eg_17, va_up_n (by omega)]; exact hG j h1 h2) hf26 ⟨_, hf27, fun i hi => by by_cases e : i = k; (rw [e, va_up_s]); (rw [va_up_n e, hft i (by omega), haK _ (by omega)])⟩ hf28 (fun q hq => by by_cases e : q = k; (rw [e]; exact hnew); exact (hT q (by omega)).grow (by omega) haK (fun j h1 h2 => hgK j (by omega) h2)) (by omega) (by rw [show 12 + 4 * (k + 1) = 12 + 4 * k + 1 + 3 by omega]; exact hW) (lv_sub hl [1, 0] rfl)
  exact loop28 _ 0 ad6 g_13 _ _ _ (by omega) (fun k hk => by rw [ha6 k (by omega), ha1 k (by omega)]) (fun k hk hkn => by show g_13 k = _; rw [eg_13, va_up_n (by omega), eg_9, va_up_n (by omega), eg_6, va_up_n (by omega), eg_3, va_up_n (by omega), eg_1, va_up_n (by omega)]) hf14 ⟨_, hf15, fun i hi => absurd hi (by omega)⟩ hf16 (fun q hq => absurd hq (by omega)) (Nat.lt_succ_self _) hW (lv_sub hl [1, 0] rfl)
