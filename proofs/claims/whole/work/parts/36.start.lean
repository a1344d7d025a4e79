theorem low5 : ∀ k, k < 5 → nI k - 5 < 0 := by decide
theorem more5 {i L : Nat} (hL : L ≤ 2560) (hi : 5 * i ≤ L) (h : ¬ Int32.ofNat L - 5 < nI (5 * i)) : 5 * i + 5 ≤ L := by
  rcases Nat.lt_or_ge L (5 * i + 5) with z | z
  · refine absurd ?_ h
    show nI L - 5 < nI (5 * i)
    by_cases h5 : L < 5
    · have h1 := low5 L h5
      have h2 := nI_pos' (n := 5 * i) (by omega)
      rw [Int32.lt_iff_toInt_lt] at h1 ⊢
      rw [Int32.le_iff_toInt_le] at h2
      omega
    · rw [show (5 : Int32) = nI 5 from rfl, pk_sub (by omega)]
      exact nI_lt (by omega) (by omega)
  · exact z
set_option maxHeartbeats 4000000 in
set_option maxRecDepth 100000 in
theorem law_loop {p : Program} {l : Launch} {e : Env} {s : State} {m : MethodId} {below : List Frame} {meth : Method} {c : Code} {b L : Nat} {xs : Nat → Int32} {G : va_G} {cy : Nat → ClassId} (hr : meth.sig.returnType = ret) (hlocks : meth.locks = false) (C : LwC G cy p s m c b L xs) :
    ∀ (n i : Nat) (w : WT) (H : Heap) (locs : List Loc) (ls : Array Slot), 5 * i ≤ L → L < 5 * i + n → LwS G cy s b i w H locs ls → W p l e room_1 s m #[Value.ref b] below meth c H locs (100 + i) (20000 + 8 * i) (lw_Z below #[Value.ref b] s) (F0 m 18 ls []) := by
  obtain ⟨X, hX, hbl, hL⟩ := id C
  have jx := X.hx
  have jb := X.hb
  have hbA : ¬ (fun q : Nat => s.heap.size ≤ q) b := Nat.not_le.mpr hbl
  intro n
  induction n with
  | zero =>
    intro i w H locs ls h1 h2
    exact absurd h2 (by omega)
  | succ n ih =>
    intro i w H locs ls hi0 hn S
    obtain ⟨hI, hW, hl⟩ := id S
    refine lv_iload_n jx jb dL_law_18 rfl (lv_at hl 3 rfl) ?_
    refine lv_aload_n jx jb dL_law_19 rfl (lv_at hl 0 rfl) ?_
    refine va_slen jx jb hX hbl hbA hW.2.2 dL_law_20 ?_
    refine lv_iconst (v := 5) jx jb dL_law_21 (by decide) ?_
    refine lv_isub jx jb dL_law_22 ?_
    refine lv_icmp_gt (tgt := 590) jx jb dL_law_23 (by decide) (fun c23 => ?_) (fun c23 => ?_)
    · refine lv_iconst (v := 1) jx jb dL_law_590 (by decide) ?_
      refine va_forget (fun q hq => hW.2.2.2.2 q hq) ?_
      refine W.widen (k := 600000) (n := 7302250) (by omega) (by omega) ?_
      exact lw_ret jx jb hr hlocks dL_law_591
    · have hi : 5 * i + 5 ≤ L := more5 hL hi0 c23
      have kk : ∀ (w : WT) (H : Heap) (locs : List Loc) (ls : Array Slot), LwS G cy s b i w H locs ls → W p l e room_1 s m #[Value.ref b] below meth c H locs (100 + i + 1) (20000 + 8 * i + 8) (lw_Z below #[Value.ref b] s) (F0 m 584 ls []) := by
        intro w H locs ls S
        obtain ⟨hI, hW, hl⟩ := S
        refine lv_iinc (v := nI (5 * (i + 1))) (lv' := [(3, .int (nI (5 * (i + 1)))), (0, .ref b), (1, .ref (w.2.1 0)), (2, .ref (w.2.1 63))]) jx jb dL_law_584 hl (k := 3) rfl (show nI (5 * i) + nI 5 = nI (5 * i + 5) from nI_add _ _) (by decide) rfl (fun ls hl => ?_)
        refine lv_goto (tgt := 18) jx jb dL_law_587 (by decide) ?_
        refine W.widen (k := 100 + (i + 1)) (n := 20000 + 8 * (i + 1)) (by omega) (by omega) ?_
        exact ih (i + 1) w H locs ls (by omega) (by omega) ⟨hI, hW, lv_sub hl [1, 2, 3, 0] rfl⟩
      refine lv_aload_n jx jb dL_law_26 rfl (lv_at hl 0 rfl) ?_
      refine lv_iload_n jx jb dL_law_27 rfl (lv_at hl 3 rfl) ?_
      refine va_sld jx jb hX hbl hbA hW.2.2 (vp_in_nI (by omega) (by omega)) dL_law_28 ?_
      refine lv_bipush (v := 31) jx jb dL_law_29 (by decide) ?_
      refine lv_iand jx jb dL_law_31 ?_
      refine lv_topi (fun x32 ex32 => ?_)
      rcases sw_cases x32 18 (by decide) with ⟨kS, hkS, eS⟩ | eS
      · rcases (show kS = 0 ∨ kS = 1 ∨ kS = 2 ∨ kS = 3 ∨ kS = 4 ∨ kS = 5 ∨ kS = 6 ∨ kS = 7 ∨ kS = 8 ∨ kS = 9 ∨ kS = 10 ∨ kS = 11 ∨ kS = 12 ∨ kS = 13 ∨ kS = 14 ∨ kS = 15 ∨ kS = 16 ∨ kS = 17 by omega) with rfl | rfl | rfl | rfl | rfl | rfl | rfl | rfl | rfl | rfl | rfl | rfl | rfl | rfl | rfl | rfl | rfl | rfl
        · refine lv_tableIn (tgt := 120) (off := 88) jx jb dL_law_32 (by rw [eS]; decide) (by rw [eS]; decide) (by rw [eS]; rfl) (by decide) ?_
          exact law_branch C S hi (by omega) (by omega) kk
        · refine lv_tableIn (tgt := 173) (off := 141) jx jb dL_law_32 (by rw [eS]; decide) (by rw [eS]; decide) (by rw [eS]; rfl) (by decide) ?_
          exact law_change C S hi (by omega) (by omega) kk
        · refine lv_tableIn (tgt := 226) (off := 194) jx jb dL_law_32 (by rw [eS]; decide) (by rw [eS]; decide) (by rw [eS]; rfl) (by decide) ?_
          exact law_call C S hi (by omega) (by omega) kk
        · refine lv_tableIn (tgt := 259) (off := 227) jx jb dL_law_32 (by rw [eS]; decide) (by rw [eS]; decide) (by rw [eS]; rfl) (by decide) ?_
          exact law_fresh C S hi (by omega) (by omega) kk
        · refine lv_tableIn (tgt := 272) (off := 240) jx jb dL_law_32 (by rw [eS]; decide) (by rw [eS]; decide) (by rw [eS]; rfl) (by decide) ?_
          exact law_logged C S hi (by omega) (by omega) kk
        · refine lv_tableIn (tgt := 305) (off := 273) jx jb dL_law_32 (by rw [eS]; decide) (by rw [eS]; decide) (by rw [eS]; rfl) (by decide) ?_
          exact law_make C S hi (by omega) (by omega) kk
        · refine lv_tableIn (tgt := 328) (off := 296) jx jb dL_law_32 (by rw [eS]; decide) (by rw [eS]; decide) (by rw [eS]; rfl) (by decide) ?_
          exact law_drop C S hi (by omega) (by omega) kk
        · refine lv_tableIn (tgt := 351) (off := 319) jx jb dL_law_32 (by rw [eS]; decide) (by rw [eS]; decide) (by rw [eS]; rfl) (by decide) ?_
          exact law_told C S hi (by omega) (by omega) kk
        · refine lv_tableIn (tgt := 384) (off := 352) jx jb dL_law_32 (by rw [eS]; decide) (by rw [eS]; decide) (by rw [eS]; rfl) (by decide) ?_
          exact law_row C S hi (by omega) (by omega) kk
        · refine lv_tableIn (tgt := 427) (off := 395) jx jb dL_law_32 (by rw [eS]; decide) (by rw [eS]; decide) (by rw [eS]; rfl) (by decide) ?_
          exact law_differs C S hi (by omega) (by omega) kk
        · refine lv_tableIn (tgt := 450) (off := 418) jx jb dL_law_32 (by rw [eS]; decide) (by rw [eS]; decide) (by rw [eS]; rfl) (by decide) ?_
          exact law_run C S hi (by omega) (by omega) kk
        · refine lv_tableIn (tgt := 463) (off := 431) jx jb dL_law_32 (by rw [eS]; decide) (by rw [eS]; decide) (by rw [eS]; rfl) (by decide) ?_
          exact law_accept C S hi (by omega) (by omega) kk
        · refine lv_tableIn (tgt := 486) (off := 454) jx jb dL_law_32 (by rw [eS]; decide) (by rw [eS]; decide) (by rw [eS]; rfl) (by decide) ?_
          exact law_reached C S hi (by omega) (by omega) kk
        · refine lv_tableIn (tgt := 499) (off := 467) jx jb dL_law_32 (by rw [eS]; decide) (by rw [eS]; decide) (by rw [eS]; rfl) (by decide) ?_
          exact law_never C S hi (by omega) (by omega) kk
        · refine lv_tableIn (tgt := 512) (off := 480) jx jb dL_law_32 (by rw [eS]; decide) (by rw [eS]; decide) (by rw [eS]; rfl) (by decide) ?_
          exact law_fewest C S hi (by omega) (by omega) kk
        · refine lv_tableIn (tgt := 525) (off := 493) jx jb dL_law_32 (by rw [eS]; decide) (by rw [eS]; decide) (by rw [eS]; rfl) (by decide) ?_
          exact law_chosen C S hi (by omega) (by omega) kk
        · refine lv_tableIn (tgt := 538) (off := 506) jx jb dL_law_32 (by rw [eS]; decide) (by rw [eS]; decide) (by rw [eS]; rfl) (by decide) ?_
          exact law_register C S hi (by omega) (by omega) kk
        · refine lv_tableIn (tgt := 561) (off := 529) jx jb dL_law_32 (by rw [eS]; decide) (by rw [eS]; decide) (by rw [eS]; rfl) (by decide) ?_
          exact law_count C S hi (by omega) (by omega) kk
      · refine lv_tableOut (tgt := 584) jx jb dL_law_32 eS (by decide) ?_
        refine W.widen (k := 100 + i + 1) (n := 20000 + 8 * i + 8) (by omega) (by omega) ?_
        exact kk w H locs ls S
/-- the array classes, known at the start -/
theorem arr_of {s : State} {args : Array Value} {ty : FieldType} (hty : ty = .int ∨ ty = .boolean) (h : (Cond.arrayClass ty).before args s = true) : ∃ cA : ClassId, ArrOfT s cA ty ∧ va_RA s cA ty := by
  obtain ⟨cA, k, comp, h1, h2, h3⟩ := Cond.arrayClass_spec h
  refine ⟨cA, fun n z => ⟨fun q h => (by cases h), k, h2, comp, h3⟩, ?_⟩
  rcases hty with rfl | rfl <;> exact h1
theorem arr_ofO {s : State} {C : String} (h : va_AO C s) : ∃ cA : ClassId, ArrOfT s cA (.object C) ∧ va_RA s cA (.object C) := by
  obtain ⟨comp, cA, k, h1, h2, h3, h4, h5⟩ := Cond.arrayOver_spec h
  exact ⟨cA, fun n z => ⟨fun q h => (by cases h), k, h3, comp, h4⟩, k, comp, h3, h4, h1, h5⟩
set_option maxHeartbeats 4000000 in
set_option maxRecDepth 100000 in
theorem law_world {p : Program} {s : State} {m : MethodId} {meth : Method} {c : Code} {b L : Nat} {xs : Nat → Int32} (hL : L ≤ 2560) (C0 : lw_At p s m meth c b L xs) : ∃ (G : va_G) (cy : Nat → ClassId), LwC G cy p s m c b L xs := by
  obtain ⟨hx, hb, hr, hml, hown, hts, hX, hbl, hlocks, hgv⟩ := C0
  have htg : ∀ w ∈ tg, w.before #[Value.ref b] s = true := fun w h => hts w (List.mem_filter.mp h).1
  obtain ⟨c0, i0, hKn0⟩ := u_known (C := RX0) (T := TX0) (N := 8) (n := 8) htg inT0 (htg _ inst_X0)
  obtain ⟨c1, i1, hKn1⟩ := u_known (C := RX1) (T := TX1) (N := 3) (n := 3) htg inT1 (htg _ inst_X1)
  obtain ⟨c2, i2, hKn2⟩ := u_known (C := RX2) (T := TX2) (N := 2) (n := 2) htg inT2 (htg _ inst_X2)
  obtain ⟨c3, i3, hKn3⟩ := u_known (C := RX3) (T := TX3) (N := 4) (n := 4) htg inT3 (htg _ inst_X3)
  obtain ⟨c4, i4, hKn4⟩ := u_known (C := RX4) (T := TX4) (N := 5) (n := 5) htg inT4 (htg _ inst_X4)
  obtain ⟨c5, i5, hKn5⟩ := u_known (C := RX5) (T := TX5) (N := 3) (n := 3) htg inT5 (htg _ inst_X5)
  obtain ⟨c6, i6, hKn6⟩ := u_known (C := RX6) (T := TX6) (N := 3) (n := 3) htg inT6 (htg _ inst_X6)
  obtain ⟨c7, i7, hKn7⟩ := u_known (C := RX7) (T := TX7) (N := 3) (n := 3) htg inT7 (htg _ inst_X7)
  obtain ⟨c8, i8, hKn8⟩ := u_known (C := RX8) (T := TX8) (N := 5) (n := 5) htg inT8 (htg _ inst_X8)
  obtain ⟨c9, i9, hKn9⟩ := u_known (C := RX9) (T := TX9) (N := 22) (n := 22) htg inT9 (htg _ inst_X9)
  have hao0 : va_AO "TestsFromUse$Branch" s := va_AO.of (hts (.arrayOver (.object "TestsFromUse$Branch")) (by decide +kernel))
  have hao1 : va_AO "TestsFromUse$MadeTest" s := va_AO.of (hts (.arrayOver (.object "TestsFromUse$MadeTest")) (by decide +kernel))
  obtain ⟨a0, hA0⟩ := arr_of (Or.inl rfl) (htg _ ac_int)
  obtain ⟨a1, hA1⟩ := arr_of (Or.inr rfl) (htg _ ac_boolean)
  obtain ⟨a2, hA2⟩ := arr_ofO hao0
  obtain ⟨a3, hA3⟩ := arr_ofO hao1
  refine ⟨(fun k => if k = 0 then c0 else if k = 1 then c1 else if k = 2 then c2 else if k = 3 then c3 else if k = 4 then c4 else if k = 5 then c5 else if k = 6 then c6 else if k = 7 then c7 else if k = 8 then c8 else c9, fun k => if k = 0 then i0 else if k = 1 then i1 else if k = 2 then i2 else if k = 3 then i3 else if k = 4 then i4 else if k = 5 then i5 else if k = 6 then i6 else if k = 7 then i7 else if k = 8 then i8 else i9), fun k => if k = 0 then a0 else if k = 1 then a1 else if k = 2 then a2 else a3, ⟨⟨hx, hb, hml, hown, htg⟩, ⟨?_, ?_⟩, ⟨NW.of hts, hao0, hao1⟩, fun _ h => h⟩, hX, hbl, hL⟩
  · intro k q hq
    match k, hq with
    | 0, hq => cases hq; exact hKn0
    | 1, hq => cases hq; exact hKn1
    | 2, hq => cases hq; exact hKn2
    | 3, hq => cases hq; exact hKn3
    | 4, hq => cases hq; exact hKn4
    | 5, hq => cases hq; exact hKn5
    | 6, hq => cases hq; exact hKn6
    | 7, hq => cases hq; exact hKn7
    | 8, hq => cases hq; exact hKn8
    | 9, hq => cases hq; exact hKn9
    | k + 10, hq => simp [vwCl] at hq
  · intro k q hq
    match k, hq with
    | 0, hq => cases hq; exact hA0
    | 1, hq => cases hq; exact hA1
    | 2, hq => cases hq; exact hA2
    | 3, hq => cases hq; exact hA3
    | k + 4, hq => simp at hq
set_option maxHeartbeats 4000000 in
set_option maxRecDepth 100000 in
theorem whole_start {p : Program} {e : Env} {s : State} {m : MethodId} {below : List Frame} {meth : Method} {c : Code} (l : Launch) {b L : Nat} {xs : Nat → Int32} (hL : L ≤ 2560) (C0 : lw_At p s m meth c b L xs) : W p l e room_1 s m #[Value.ref b] below meth c s.heap [] 0 0 (lw_Z below #[Value.ref b] s) (entryFrame m ([Value.ref b] : List Value).toArray 4) := by
  obtain ⟨G, cy, C⟩ := law_world hL C0
  obtain ⟨-, -, hr, -, -, -, -, -, hlocks, -⟩ := id C0
  obtain ⟨X, hX, hbl, -⟩ := id C
  have jx := X.hx
  have jb := X.hb
  have hW : Wd G (fun q : Nat => s.heap.size ≤ q) s.heap (0, fun _ => 0, fun _ => .inr (0, [])) s.heap [] := ⟨fun k q h => by simp [wl] at h, ⟨fun i j p q h => by simp [wl] at h, fun k q h => by simp [wl] at h⟩, va_S.rf⟩
  have hl := lv_entry ([.ref b]) (n := 4) (Nat.le_of_ble_eq_true rfl)
  rw [lg_entry_eq]
  generalize (lg_sl ([.ref b]) ++ List.replicate (4 - (lg_sl ([.ref b])).length) Slot.unset).toArray = ls at hl ⊢
  have hl : lv_has ls 4 [(0, .ref b)] := hl
  refine w_new (fs := [.null, .null, .null, .null, .null]) X hW K8 cl_L_7 inst_X8 ini_X8 (fun j hj => by rcases (show j = 0 ∨ j = 1 ∨ j = 2 ∨ j = 3 ∨ j = 4 by omega) with rfl | rfl | rfl | rfl | rfl <;> rfl) (Nat.le_of_ble_eq_true rfl) (Nat.le_of_ble_eq_true rfl) dL_law_0 (fun q0 H hW => ?_)
  obtain ⟨ad1, ea1⟩ : ∃ zz, zz = va_up (fun _ => 0) 0 q0 := ⟨_, rfl⟩
  obtain ⟨g1, eg1⟩ : ∃ zz : Nat → va_E, zz = va_up (fun _ => .inr (0, [])) 0 (.inr (8, [.null, .null, .null, .null, .null])) := ⟨_, rfl⟩
  have hW : Wd G (fun q : Nat => s.heap.size ≤ q) s.heap (1, ad1, g1) H [] := by rw [ea1, eg1]; exact hW
  have hg1 : g1 0 = .inr (8, [.null, .null, .null, .null, .null]) := by rw [eg1]; exact va_up_s
  have hq0 : ad1 0 = q0 := by rw [ea1]; exact va_up_s
  rw [← hq0]
  refine lv_dup jx jb dL_law_3 rfl ?_
  refine w_cIv (As := []) X hW (c_Use_init hg1) ml_L_9 mf_X8_init ⟨Nat.le_of_ble_eq_true rfl, Nat.le_of_ble_eq_true rfl⟩ hl.1 rfl (Nat.le_of_ble_eq_true rfl) dL_law_4 ⟨Nat.le_of_ble_eq_true rfl, Nat.le_of_ble_eq_true rfl⟩ (fun u H locs hp hW => ?_)
  obtain ⟨ad2, g2, rfl, ha2, hU⟩ := hp
  rw [← ha2 0 (by decide)]
  refine lv_astore_n (lv' := [(1, .ref (ad2 0)), (0, .ref b)]) jx jb dL_law_7 rfl hl (by decide) rfl (fun ls hl => ?_)
  refine w_new (fs := [.null, .null, .null, .null, .int 0, .null, .null, .null, .null, .null, .int 0, .null, .null, .null, .null, .null, .null, .null, .null, .int 0, .null, .null]) X hW K9 cl_L_10 inst_X9 ini_X9 (fun j hj => by rcases (show j = 0 ∨ j = 1 ∨ j = 2 ∨ j = 3 ∨ j = 4 ∨ j = 5 ∨ j = 6 ∨ j = 7 ∨ j = 8 ∨ j = 9 ∨ j = 10 ∨ j = 11 ∨ j = 12 ∨ j = 13 ∨ j = 14 ∨ j = 15 ∨ j = 16 ∨ j = 17 ∨ j = 18 ∨ j = 19 ∨ j = 20 ∨ j = 21 by omega) with rfl | rfl | rfl | rfl | rfl | rfl | rfl | rfl | rfl | rfl | rfl | rfl | rfl | rfl | rfl | rfl | rfl | rfl | rfl | rfl | rfl | rfl <;> rfl) (Nat.le_of_ble_eq_true rfl) (Nat.le_of_ble_eq_true rfl) dL_law_8 (fun q1 H hW => ?_)
  obtain ⟨ad3, ea3⟩ : ∃ zz, zz = va_up ad2 63 q1 := ⟨_, rfl⟩
  obtain ⟨g3, eg3⟩ : ∃ zz : Nat → va_E, zz = va_up g2 63 (.inr (9, [.null, .null, .null, .null, .int 0, .null, .null, .null, .null, .null, .int 0, .null, .null, .null, .null, .null, .null, .null, .null, .int 0, .null, .null])) := ⟨_, rfl⟩
  have hW : Wd G (fun q : Nat => s.heap.size ≤ q) s.heap (64, ad3, g3) H locs := by rw [ea3, eg3]; exact hW
  have hg3 : g3 63 = .inr (9, [.null, .null, .null, .null, .int 0, .null, .null, .null, .null, .null, .int 0, .null, .null, .null, .null, .null, .null, .null, .null, .int 0, .null, .null]) := by rw [eg3]; exact va_up_s
  have hq1 : ad3 63 = q1 := by rw [ea3]; exact va_up_s
  rw [← hq1]
  refine lv_dup jx jb dL_law_11 rfl ?_
  refine w_cIv (As := []) X hW (c_mInit hg3) ml_L_12 mf_X9_init ⟨Nat.le_of_ble_eq_true rfl, Nat.le_of_ble_eq_true rfl⟩ hl.1 rfl (Nat.le_of_ble_eq_true rfl) dL_law_12 ⟨Nat.le_of_ble_eq_true rfl, Nat.le_of_ble_eq_true rfl⟩ (fun u H locs hp hW => ?_)
  obtain ⟨ad4, g4, rfl, ha4, hR, hg4⟩ := hp
  have ha : ∀ k, k < 63 → ad4 k = ad2 k := fun k hk => by rw [ha4 k (by omega), ea3]; exact va_up_n (by omega)
  have hg : ∀ k, k < 63 → g4 k = g2 k := fun k hk => by rw [hg4 k (by omega) (by omega), eg3]; exact va_up_n (by omega)
  rw [← ha4 63 (by decide)]
  rw [← ha 0 (by decide)] at hl
  refine lv_astore_n (lv' := [(2, .ref (ad4 63)), (1, .ref (ad4 0)), (0, .ref b)]) jx jb dL_law_15 rfl hl (by decide) rfl (fun ls hl => ?_)
  refine lv_iconst (v := nI 0) jx jb dL_law_16 (by decide) ?_
  refine lv_istore_n (lv' := [(3, .int (nI 0)), (2, .ref (ad4 63)), (1, .ref (ad4 0)), (0, .ref b)]) jx jb dL_law_17 rfl hl (by decide) rfl (fun ls hl => ?_)
  refine W.widen (k := 100 + 0) (n := 20000 + 8 * 0) (Nat.le_of_ble_eq_true rfl) (Nat.le_of_ble_eq_true rfl) ?_
  exact law_loop hr hlocks C (L + 1) 0 (83, ad4, g4) _ _ _ (Nat.zero_le _) (by omega) ⟨⟨M0, [], _, _, 0, 0, id, x0, hU.start ha hg, hR.start⟩, hW, lv_sub hl [3, 2, 1, 0] rfl⟩
