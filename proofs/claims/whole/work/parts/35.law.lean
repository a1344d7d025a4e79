/-! THE CLAIM OUT OF ONE WALK OF THE LAW'S BODY. Your part is whole_start (and what it stands on); all else here is the same for every law, but numbers. -/
def R_law : String := "TestsFromUseLaw"
def lw_P (b : Addr) (xs : List Int32) (args : Array Value) (s : State) : Prop := args = #[.ref b] ∧ s.IntsAt b xs ∧ xs.length ≤ 2560 ∧ (Jvm.Cond.and given_1 narrow_1).before args s = true
def lw_Q (_ : Array Value) (s : State) (o : Outcome) (t : State) : Prop := o = .returned (some (.int 1)) ∧ Framed s o t [] 600000 7302250
def lw_Z (below : List Frame) (a : Array Value) (s : State) : State → Prop := fun t => ∃ o, t.status = .running ∧ Ended t below o ∧ lw_Q a s o t
/-- the law's own end, with 1 on the stack, nothing written that was there before, its room as the claim has it -/
theorem lw_ret {p : Program} {l : Launch} {e : Env} {s : State} {m : MethodId} {below : List Frame} {meth : Method} {c : Code} {b : Nat} (hx : p.tables.exec = Jvm.exec) (hb : c.code = code) (hr : meth.sig.returnType = ret) (hlocks : meth.locks = false) {pc : Nat} {H : Heap} {ls : Array Slot} (hdg : decode code pc = .ok (.ireturn, 1)) : W p l e room_1 s m #[Value.ref b] below meth c H [] 600000 7302250 (lw_Z below #[Value.ref b] s) (F0 m pc ls [.int 1]) := by
  intro T hT X
  obtain ⟨fs, hret, hrun, hended, hW, hframe⟩ := X.leave (v := some (.int 1)) (hlocks := hlocks) (fun h => by rw [hr] at h; cases h)
  have hmeth' : T.vm.method? m = some meth := X.method'
  refine ⟨T.setFrames fs, ?_, .returned (some (.int 1)), hrun, hended, rfl, ⟨_, rfl⟩, hW, hframe⟩
  jvm_step X.here [X.here.top, hx, hb, hdg, hmeth', hr, ret, narrow_b1]
  (try refine ⟨rfl, ?_⟩); (try refine ⟨rfl, ?_⟩)
  first | (intro acts; rw [hret _ acts rfl rfl rfl]) | rw [hret _ _ rfl rfl rfl]
  exact Steps.refl _
/-- what holds at the law's entry: the machine, the code, the tables' words (any of lw_tbl by 'hts w (by decide +kernel)'), the script of L ints xs at the cell b, what the Statement gives of the start (any of its parts by flat_of_before) -/
def lw_At (p : Program) (s : State) (m : MethodId) (meth : Method) (c : Code) (b L : Nat) (xs : Nat → Int32) : Prop :=
  p.tables.exec = Jvm.exec ∧ c.code = code ∧ meth.sig.returnType = ret ∧ c.maxLocals = 4 ∧ s.vm.findClass R_law = some m.cls ∧ (∀ w ∈ lw_tbl, w.before #[Value.ref b] s = true) ∧ va_X b L xs s s.heap ∧ b < s.heap.size ∧ meth.locks = false ∧ (Jvm.Cond.and given_1 narrow_1).before #[Value.ref b] s = true
/-- what stays in the law -/
def LwC (G : va_G) (cy : Nat → ClassId) (p : Program) (s : State) (m : MethodId) (c : Code) (b L : Nat) (xs : Nat → Int32) : Prop := Cx G cy p s m #[Value.ref b] c code 4 RL (fun q : Nat => s.heap.size ≤ q) s.heap ∧ va_X b L xs s s.heap ∧ b < s.heap.size ∧ L ≤ 2560
/-- the law between two calls: i calls are done -/
def LwS (G : va_G) (cy : Nat → ClassId) (s : State) (b i : Nat) (w : WT) (H : Heap) (locs : List Loc) (ls : Array Slot) : Prop := Inv cy w ∧ Wd G (fun q : Nat => s.heap.size ≤ q) s.heap w H locs ∧ lv_has ls 4 [(0, .ref b), (1, .ref (w.2.1 0)), (2, .ref (w.2.1 63)), (3, .int (nI (5 * i)))]
theorem Inv.here {cy : Nat → ClassId} {w : WT} (h : Inv cy w) : 83 ≤ w.1 ∧ ∃ fs, w.2.2 0 = .inr (8, fs) := by
  obtain ⟨M, lg, lr, lt, st, T, p, x, hX, hM⟩ := h
  obtain ⟨q, to, hR, -⟩ := hM
  exact ⟨hR.1, _, hX.1⟩
/-- an int of the script on the stack -/
theorem w_arg {p : Program} {l : Launch} {e : Env} {s : State} {m : MethodId} {below : List Frame} {meth : Method} {c : Code} {b L : Nat} {xs : Nat → Int32} {G : va_G} {cy : Nat → ClassId} {i cn sn : Nat} {H : Heap} {locs : List Loc} {ls : Array Slot} {Q : State → Prop} {a1 a2 : Value} (C : LwC G cy p s m c b L xs) (hS : va_S (fun q : Nat => s.heap.size ≤ q) s.heap H locs) (hl : lv_has ls 4 [(0, .ref b), (1, a1), (2, a2), (3, .int (nI (5 * i)))]) (hi : 5 * i + 5 ≤ L) {k pc : Nat} {z : Int} (hk : k < 5) (hz : Int32.ofInt z = nI k) {rest : List Value}
    (d0 : decode code pc = .ok (.aload_n 0, 1)) (d1 : decode code (pc + 1) = .ok (.iload_n 3, 1)) (d2 : decode code (pc + 2) = .ok (.iconst z, 1)) (d3 : decode code (pc + 3) = .ok (.iadd, 1)) (d4 : decode code (pc + 4) = .ok (.iaload, 1))
    (kk : W p l e room_1 s m #[Value.ref b] below meth c H locs cn sn Q (F0 m (pc + 5) ls (.int (xs (5 * i + k)) :: rest))) : W p l e room_1 s m #[Value.ref b] below meth c H locs cn sn Q (F0 m pc ls rest) := by
  obtain ⟨X, hX, hbl, hL⟩ := C
  have jx := X.hx
  have jb := X.hb
  refine lv_aload_n jx jb d0 rfl (lv_at hl 0 rfl) ?_
  refine lv_iload_n jx jb d1 rfl (lv_at hl 3 rfl) ?_
  refine lv_iconst (v := nI k) jx jb d2 hz ?_
  refine lv_iadd jx jb d3 ?_
  refine top_eq (y := nI (5 * i + k)) (nI_add _ _) ?_
  refine va_sld jx jb hX hbl (Nat.not_le.mpr hbl) hS (vp_in_nI (by omega) (by omega)) d4 ?_
  rw [nI_clamp (by omega)]
  exact kk
set_option maxHeartbeats 4000000 in
set_option maxRecDepth 100000 in
theorem law_branch {p : Program} {l : Launch} {e : Env} {s : State} {m : MethodId} {below : List Frame} {meth : Method} {c : Code} {b L : Nat} {xs : Nat → Int32} {G : va_G} {cy : Nat → ClassId} {i cn sn : Nat} {w : WT} {H : Heap} {locs : List Loc} {ls : Array Slot} {Q : State → Prop} (C : LwC G cy p s m c b L xs) (S : LwS G cy s b i w H locs ls) (hi : 5 * i + 5 ≤ L) (hc : cn + 1 ≤ 600000) (hs : sn + 8 ≤ 7302250) (kk : ∀ (w : WT) (H : Heap) (locs : List Loc) (ls : Array Slot), LwS G cy s b i w H locs ls → W p l e room_1 s m #[Value.ref b] below meth c H locs (cn + 1) (sn + 8) Q (F0 m 584 ls [])) : W p l e room_1 s m #[Value.ref b] below meth c H locs cn sn Q (F0 m 120 ls []) := by
  obtain ⟨hI, hW, hl⟩ := S
  obtain ⟨X, hX, hbl, hL⟩ := id C
  have jx := X.hx
  have jb := X.hb
  obtain ⟨h83, fs, hg0⟩ := hI.here
  have go : ∀ (rm : Room), rm.frames + 1 ≤ 9 → 8 + (5 + 11) + rm.locals ≤ 340 → rm.cells ≤ 1 → rm.slots ≤ 8 → MI l G cy w yX8_branch cX8_branch 5 (some .int) rm (.ref (w.2.1 0) :: [.int (xs (5 * i + 1)), .int (xs (5 * i + 2)), .int (xs (5 * i + 3)), .int (xs (5 * i + 4))]) (Pr l G cy w yX9_branch cX9_branch 8 (some .int) 2 [.int (xs (5 * i + 1)), .int (xs (5 * i + 2)), .int (xs (5 * i + 3)), .int (xs (5 * i + 4))]) → W p l e room_1 s m #[Value.ref b] below meth c H locs cn sn Q (F0 m 120 ls []) := by
    intro rm r1 r2 r3 r4 hM
    refine lv_aload_n jx jb dL_law_120 rfl (lv_at hl 1 rfl) ?_
    refine w_arg (k := 1) C hW.2.2 hl hi (by decide) (by decide) dL_law_121 dL_law_122 dL_law_123 dL_law_124 dL_law_125 ?_
    refine w_arg (k := 2) C hW.2.2 hl hi (by decide) (by decide) dL_law_126 dL_law_127 dL_law_128 dL_law_129 dL_law_130 ?_
    refine w_arg (k := 3) C hW.2.2 hl hi (by decide) (by decide) dL_law_131 dL_law_132 dL_law_133 dL_law_134 dL_law_135 ?_
    refine w_arg (k := 4) C hW.2.2 hl hi (by decide) (by decide) dL_law_136 dL_law_137 dL_law_138 dL_law_139 dL_law_140 ?_
    refine w_cVi (As := [.int (xs (5 * i + 1)), .int (xs (5 * i + 2)), .int (xs (5 * i + 3)), .int (xs (5 * i + 4))]) (n := 0) X hW hM (by omega) hg0 rfl rfl ml_L_13 mf_X8_branch ⟨r1, r2⟩ hl.1 rfl (Nat.le_of_ble_eq_true rfl) dL_law_141 ⟨by show cn + rm.cells ≤ 600000; omega, by show sn + rm.slots ≤ 7302250; omega⟩ (fun v u H locs hp hW => ?_)
    obtain ⟨hN, ha, ⟨fs2, hg63⟩, hM2⟩ := hp
    rw [← ha 0 (by omega), ← ha 63 (by omega)] at hl
    refine lv_aload_n jx jb dL_law_144 rfl (lv_at hl 2 rfl) ?_
    refine w_arg (k := 1) C hW.2.2 hl hi (by decide) (by decide) dL_law_145 dL_law_146 dL_law_147 dL_law_148 dL_law_149 ?_
    refine w_arg (k := 2) C hW.2.2 hl hi (by decide) (by decide) dL_law_150 dL_law_151 dL_law_152 dL_law_153 dL_law_154 ?_
    refine w_arg (k := 3) C hW.2.2 hl hi (by decide) (by decide) dL_law_155 dL_law_156 dL_law_157 dL_law_158 dL_law_159 ?_
    refine w_arg (k := 4) C hW.2.2 hl hi (by decide) (by decide) dL_law_160 dL_law_161 dL_law_162 dL_law_163 dL_law_164 ?_
    refine w_cVi (As := [.int (xs (5 * i + 1)), .int (xs (5 * i + 2)), .int (xs (5 * i + 3)), .int (xs (5 * i + 4))]) (n := 63) X hW hM2 (by omega) hg63 rfl rfl ml_L_17 mf_X9_branch ⟨Nat.le_of_ble_eq_true rfl, Nat.le_of_ble_eq_true rfl⟩ hl.1 rfl (Nat.le_of_ble_eq_true rfl) dL_law_165 ⟨by show cn + rm.cells + 0 ≤ 600000; omega, by show sn + rm.slots + 0 ≤ 7302250; omega⟩ (fun v2 u2 H locs hp hW => ?_)
    obtain ⟨rfl, e1, e2, hI2⟩ := hp
    refine lv_icmp_eq (tgt := 584) jx jb dL_law_168 (by decide) (fun c168 => ?_) (fun c168 => absurd rfl c168)
    refine W.widen (k := cn + 1) (n := sn + 8) (by show cn + rm.cells + 0 ≤ _; omega) (by show sn + rm.slots + 0 ≤ _; omega) ?_
    rw [← e2] at hl
    exact kk _ _ _ _ ⟨hI2, hW, hl⟩
  rcases op_branch (l := l) (G := G) (a := xs (5 * i + 1)) (b := xs (5 * i + 2)) (c := xs (5 * i + 3)) (d := xs (5 * i + 4)) hI with hM | hM
  · exact go (rmN 3) (by decide) (by decide) (by decide) (by decide) hM
  · exact go (rmA 3 1 8) (by decide) (by decide) (by decide) (by decide) hM
set_option maxHeartbeats 4000000 in
set_option maxRecDepth 100000 in
theorem law_change {p : Program} {l : Launch} {e : Env} {s : State} {m : MethodId} {below : List Frame} {meth : Method} {c : Code} {b L : Nat} {xs : Nat → Int32} {G : va_G} {cy : Nat → ClassId} {i cn sn : Nat} {w : WT} {H : Heap} {locs : List Loc} {ls : Array Slot} {Q : State → Prop} (C : LwC G cy p s m c b L xs) (S : LwS G cy s b i w H locs ls) (hi : 5 * i + 5 ≤ L) (hc : cn + 1 ≤ 600000) (hs : sn + 8 ≤ 7302250) (kk : ∀ (w : WT) (H : Heap) (locs : List Loc) (ls : Array Slot), LwS G cy s b i w H locs ls → W p l e room_1 s m #[Value.ref b] below meth c H locs (cn + 1) (sn + 8) Q (F0 m 584 ls [])) : W p l e room_1 s m #[Value.ref b] below meth c H locs cn sn Q (F0 m 173 ls []) := by
  obtain ⟨hI, hW, hl⟩ := S
  obtain ⟨X, hX, hbl, hL⟩ := id C
  have jx := X.hx
  have jb := X.hb
  obtain ⟨h83, fs, hg0⟩ := hI.here
  have go : ∀ (rm : Room), rm.frames + 1 ≤ 9 → 8 + (5 + 11) + rm.locals ≤ 340 → rm.cells ≤ 1 → rm.slots ≤ 8 → MI l G cy w yX8_change cX8_change 5 (some .boolean) rm (.ref (w.2.1 0) :: [.int (xs (5 * i + 1)), .int (xs (5 * i + 2)), .int (xs (5 * i + 3)), .int (xs (5 * i + 4))]) (Pr l G cy w yX9_change cX9_change 6 (some .boolean) 2 [.int (xs (5 * i + 1)), .int (xs (5 * i + 2)), .int (xs (5 * i + 3)), .int (xs (5 * i + 4))]) → W p l e room_1 s m #[Value.ref b] below meth c H locs cn sn Q (F0 m 173 ls []) := by
    intro rm r1 r2 r3 r4 hM
    refine lv_aload_n jx jb dL_law_173 rfl (lv_at hl 1 rfl) ?_
    refine w_arg (k := 1) C hW.2.2 hl hi (by decide) (by decide) dL_law_174 dL_law_175 dL_law_176 dL_law_177 dL_law_178 ?_
    refine w_arg (k := 2) C hW.2.2 hl hi (by decide) (by decide) dL_law_179 dL_law_180 dL_law_181 dL_law_182 dL_law_183 ?_
    refine w_arg (k := 3) C hW.2.2 hl hi (by decide) (by decide) dL_law_184 dL_law_185 dL_law_186 dL_law_187 dL_law_188 ?_
    refine w_arg (k := 4) C hW.2.2 hl hi (by decide) (by decide) dL_law_189 dL_law_190 dL_law_191 dL_law_192 dL_law_193 ?_
    refine w_cVi (As := [.int (xs (5 * i + 1)), .int (xs (5 * i + 2)), .int (xs (5 * i + 3)), .int (xs (5 * i + 4))]) (n := 0) X hW hM (by omega) hg0 rfl rfl ml_L_18 mf_X8_change ⟨r1, r2⟩ hl.1 rfl (Nat.le_of_ble_eq_true rfl) dL_law_194 ⟨by show cn + rm.cells ≤ 600000; omega, by show sn + rm.slots ≤ 7302250; omega⟩ (fun v u H locs hp hW => ?_)
    obtain ⟨hN, ha, ⟨fs2, hg63⟩, hM2⟩ := hp
    rw [← ha 0 (by omega), ← ha 63 (by omega)] at hl
    refine lv_aload_n jx jb dL_law_197 rfl (lv_at hl 2 rfl) ?_
    refine w_arg (k := 1) C hW.2.2 hl hi (by decide) (by decide) dL_law_198 dL_law_199 dL_law_200 dL_law_201 dL_law_202 ?_
    refine w_arg (k := 2) C hW.2.2 hl hi (by decide) (by decide) dL_law_203 dL_law_204 dL_law_205 dL_law_206 dL_law_207 ?_
    refine w_arg (k := 3) C hW.2.2 hl hi (by decide) (by decide) dL_law_208 dL_law_209 dL_law_210 dL_law_211 dL_law_212 ?_
    refine w_arg (k := 4) C hW.2.2 hl hi (by decide) (by decide) dL_law_213 dL_law_214 dL_law_215 dL_law_216 dL_law_217 ?_
    refine w_cVi (As := [.int (xs (5 * i + 1)), .int (xs (5 * i + 2)), .int (xs (5 * i + 3)), .int (xs (5 * i + 4))]) (n := 63) X hW hM2 (by omega) hg63 rfl rfl ml_L_22 mf_X9_change ⟨Nat.le_of_ble_eq_true rfl, Nat.le_of_ble_eq_true rfl⟩ hl.1 rfl (Nat.le_of_ble_eq_true rfl) dL_law_218 ⟨by show cn + rm.cells + 0 ≤ 600000; omega, by show sn + rm.slots + 0 ≤ 7302250; omega⟩ (fun v2 u2 H locs hp hW => ?_)
    obtain ⟨rfl, e1, e2, hI2⟩ := hp
    refine lv_icmp_eq (tgt := 584) jx jb dL_law_221 (by decide) (fun c221 => ?_) (fun c221 => absurd rfl c221)
    refine W.widen (k := cn + 1) (n := sn + 8) (by show cn + rm.cells + 0 ≤ _; omega) (by show sn + rm.slots + 0 ≤ _; omega) ?_
    rw [← e2] at hl
    exact kk _ _ _ _ ⟨hI2, hW, hl⟩
  rcases op_change (l := l) (G := G) (a := xs (5 * i + 1)) (b := xs (5 * i + 2)) (c := xs (5 * i + 3)) (d := xs (5 * i + 4)) hI with hM | hM
  · exact go (rmN 3) (by decide) (by decide) (by decide) (by decide) hM
  · exact go (rmA 3 1 8) (by decide) (by decide) (by decide) (by decide) hM
set_option maxHeartbeats 4000000 in
set_option maxRecDepth 100000 in
theorem law_call {p : Program} {l : Launch} {e : Env} {s : State} {m : MethodId} {below : List Frame} {meth : Method} {c : Code} {b L : Nat} {xs : Nat → Int32} {G : va_G} {cy : Nat → ClassId} {i cn sn : Nat} {w : WT} {H : Heap} {locs : List Loc} {ls : Array Slot} {Q : State → Prop} (C : LwC G cy p s m c b L xs) (S : LwS G cy s b i w H locs ls) (hi : 5 * i + 5 ≤ L) (hc : cn + 1 ≤ 600000) (hs : sn + 8 ≤ 7302250) (kk : ∀ (w : WT) (H : Heap) (locs : List Loc) (ls : Array Slot), LwS G cy s b i w H locs ls → W p l e room_1 s m #[Value.ref b] below meth c H locs (cn + 1) (sn + 8) Q (F0 m 584 ls [])) : W p l e room_1 s m #[Value.ref b] below meth c H locs cn sn Q (F0 m 226 ls []) := by
  obtain ⟨hI, hW, hl⟩ := S
  obtain ⟨X, hX, hbl, hL⟩ := id C
  have jx := X.hx
  have jb := X.hb
  obtain ⟨h83, fs, hg0⟩ := hI.here
  have go : ∀ (rm : Room), rm.frames + 1 ≤ 9 → 8 + (3 + 11) + rm.locals ≤ 340 → rm.cells ≤ 1 → rm.slots ≤ 8 → MI l G cy w yX8_call cX8_call 3 (some .int) rm (.ref (w.2.1 0) :: [.int (xs (5 * i + 1)), .int (xs (5 * i + 2))]) (Pr l G cy w yX9_call cX9_call 5 (some .int) 2 [.int (xs (5 * i + 1)), .int (xs (5 * i + 2))]) → W p l e room_1 s m #[Value.ref b] below meth c H locs cn sn Q (F0 m 226 ls []) := by
    intro rm r1 r2 r3 r4 hM
    refine lv_aload_n jx jb dL_law_226 rfl (lv_at hl 1 rfl) ?_
    refine w_arg (k := 1) C hW.2.2 hl hi (by decide) (by decide) dL_law_227 dL_law_228 dL_law_229 dL_law_230 dL_law_231 ?_
    refine w_arg (k := 2) C hW.2.2 hl hi (by decide) (by decide) dL_law_232 dL_law_233 dL_law_234 dL_law_235 dL_law_236 ?_
    refine w_cVi (As := [.int (xs (5 * i + 1)), .int (xs (5 * i + 2))]) (n := 0) X hW hM (by omega) hg0 rfl rfl ml_L_23 mf_X8_call ⟨r1, r2⟩ hl.1 rfl (Nat.le_of_ble_eq_true rfl) dL_law_237 ⟨by show cn + rm.cells ≤ 600000; omega, by show sn + rm.slots ≤ 7302250; omega⟩ (fun v u H locs hp hW => ?_)
    obtain ⟨hN, ha, ⟨fs2, hg63⟩, hM2⟩ := hp
    rw [← ha 0 (by omega), ← ha 63 (by omega)] at hl
    refine lv_aload_n jx jb dL_law_240 rfl (lv_at hl 2 rfl) ?_
    refine w_arg (k := 1) C hW.2.2 hl hi (by decide) (by decide) dL_law_241 dL_law_242 dL_law_243 dL_law_244 dL_law_245 ?_
    refine w_arg (k := 2) C hW.2.2 hl hi (by decide) (by decide) dL_law_246 dL_law_247 dL_law_248 dL_law_249 dL_law_250 ?_
    refine w_cVi (As := [.int (xs (5 * i + 1)), .int (xs (5 * i + 2))]) (n := 63) X hW hM2 (by omega) hg63 rfl rfl ml_L_27 mf_X9_call ⟨Nat.le_of_ble_eq_true rfl, Nat.le_of_ble_eq_true rfl⟩ hl.1 rfl (Nat.le_of_ble_eq_true rfl) dL_law_251 ⟨by show cn + rm.cells + 0 ≤ 600000; omega, by show sn + rm.slots + 0 ≤ 7302250; omega⟩ (fun v2 u2 H locs hp hW => ?_)
    obtain ⟨rfl, e1, e2, hI2⟩ := hp
    refine lv_icmp_eq (tgt := 584) jx jb dL_law_254 (by decide) (fun c254 => ?_) (fun c254 => absurd rfl c254)
    refine W.widen (k := cn + 1) (n := sn + 8) (by show cn + rm.cells + 0 ≤ _; omega) (by show sn + rm.slots + 0 ≤ _; omega) ?_
    rw [← e2] at hl
    exact kk _ _ _ _ ⟨hI2, hW, hl⟩
  exact go (rmN 4) (by decide) (by decide) (by decide) (by decide) (op_call hI)
set_option maxHeartbeats 4000000 in
set_option maxRecDepth 100000 in
theorem law_fresh {p : Program} {l : Launch} {e : Env} {s : State} {m : MethodId} {below : List Frame} {meth : Method} {c : Code} {b L : Nat} {xs : Nat → Int32} {G : va_G} {cy : Nat → ClassId} {i cn sn : Nat} {w : WT} {H : Heap} {locs : List Loc} {ls : Array Slot} {Q : State → Prop} (C : LwC G cy p s m c b L xs) (S : LwS G cy s b i w H locs ls) (hi : 5 * i + 5 ≤ L) (hc : cn + 1 ≤ 600000) (hs : sn + 8 ≤ 7302250) (kk : ∀ (w : WT) (H : Heap) (locs : List Loc) (ls : Array Slot), LwS G cy s b i w H locs ls → W p l e room_1 s m #[Value.ref b] below meth c H locs (cn + 1) (sn + 8) Q (F0 m 584 ls [])) : W p l e room_1 s m #[Value.ref b] below meth c H locs cn sn Q (F0 m 259 ls []) := by
  obtain ⟨hI, hW, hl⟩ := S
  obtain ⟨X, hX, hbl, hL⟩ := id C
  have jx := X.hx
  have jb := X.hb
  obtain ⟨h83, fs, hg0⟩ := hI.here
  have go : ∀ (rm : Room), rm.frames + 1 ≤ 9 → 8 + (1 + 11) + rm.locals ≤ 340 → rm.cells ≤ 1 → rm.slots ≤ 8 → MI l G cy w yX8_fresh cX8_fresh 1 (some .int) rm (.ref (w.2.1 0) :: []) (Pr l G cy w yX9_fresh cX9_fresh 3 (some .int) 0 []) → W p l e room_1 s m #[Value.ref b] below meth c H locs cn sn Q (F0 m 259 ls []) := by
    intro rm r1 r2 r3 r4 hM
    refine lv_aload_n jx jb dL_law_259 rfl (lv_at hl 1 rfl) ?_
    refine w_cVi (As := []) (n := 0) X hW hM (by omega) hg0 rfl rfl ml_L_28 mf_X8_fresh ⟨r1, r2⟩ hl.1 rfl (Nat.le_of_ble_eq_true rfl) dL_law_260 ⟨by show cn + rm.cells ≤ 600000; omega, by show sn + rm.slots ≤ 7302250; omega⟩ (fun v u H locs hp hW => ?_)
    obtain ⟨hN, ha, ⟨fs2, hg63⟩, hM2⟩ := hp
    rw [← ha 0 (by omega), ← ha 63 (by omega)] at hl
    refine lv_aload_n jx jb dL_law_263 rfl (lv_at hl 2 rfl) ?_
    refine w_cVi (As := []) (n := 63) X hW hM2 (by omega) hg63 rfl rfl ml_L_32 mf_X9_fresh ⟨Nat.le_of_ble_eq_true rfl, Nat.le_of_ble_eq_true rfl⟩ hl.1 rfl (Nat.le_of_ble_eq_true rfl) dL_law_264 ⟨by show cn + rm.cells + 0 ≤ 600000; omega, by show sn + rm.slots + 0 ≤ 7302250; omega⟩ (fun v2 u2 H locs hp hW => ?_)
    obtain ⟨rfl, e1, e2, hI2⟩ := hp
    refine lv_icmp_eq (tgt := 584) jx jb dL_law_267 (by decide) (fun c267 => ?_) (fun c267 => absurd rfl c267)
    refine W.widen (k := cn + 1) (n := sn + 8) (by show cn + rm.cells + 0 ≤ _; omega) (by show sn + rm.slots + 0 ≤ _; omega) ?_
    rw [← e2] at hl
    exact kk _ _ _ _ ⟨hI2, hW, hl⟩
  exact go (rmN 3) (by decide) (by decide) (by decide) (by decide) (op_fresh hI)
set_option maxHeartbeats 4000000 in
set_option maxRecDepth 100000 in
theorem law_logged {p : Program} {l : Launch} {e : Env} {s : State} {m : MethodId} {below : List Frame} {meth : Method} {c : Code} {b L : Nat} {xs : Nat → Int32} {G : va_G} {cy : Nat → ClassId} {i cn sn : Nat} {w : WT} {H : Heap} {locs : List Loc} {ls : Array Slot} {Q : State → Prop} (C : LwC G cy p s m c b L xs) (S : LwS G cy s b i w H locs ls) (hi : 5 * i + 5 ≤ L) (hc : cn + 1 ≤ 600000) (hs : sn + 8 ≤ 7302250) (kk : ∀ (w : WT) (H : Heap) (locs : List Loc) (ls : Array Slot), LwS G cy s b i w H locs ls → W p l e room_1 s m #[Value.ref b] below meth c H locs (cn + 1) (sn + 8) Q (F0 m 584 ls [])) : W p l e room_1 s m #[Value.ref b] below meth c H locs cn sn Q (F0 m 272 ls []) := by
  obtain ⟨hI, hW, hl⟩ := S
  obtain ⟨X, hX, hbl, hL⟩ := id C
  have jx := X.hx
  have jb := X.hb
  obtain ⟨h83, fs, hg0⟩ := hI.here
  have go : ∀ (rm : Room), rm.frames + 1 ≤ 9 → 8 + (3 + 11) + rm.locals ≤ 340 → rm.cells ≤ 1 → rm.slots ≤ 8 → MI l G cy w yX8_logged cX8_logged 3 (some .int) rm (.ref (w.2.1 0) :: [.int (xs (5 * i + 1)), .int (xs (5 * i + 2))]) (Pr l G cy w yX9_logged cX9_logged 3 (some .int) 1 [.int (xs (5 * i + 1)), .int (xs (5 * i + 2))]) → W p l e room_1 s m #[Value.ref b] below meth c H locs cn sn Q (F0 m 272 ls []) := by
    intro rm r1 r2 r3 r4 hM
    refine lv_aload_n jx jb dL_law_272 rfl (lv_at hl 1 rfl) ?_
    refine w_arg (k := 1) C hW.2.2 hl hi (by decide) (by decide) dL_law_273 dL_law_274 dL_law_275 dL_law_276 dL_law_277 ?_
    refine w_arg (k := 2) C hW.2.2 hl hi (by decide) (by decide) dL_law_278 dL_law_279 dL_law_280 dL_law_281 dL_law_282 ?_
    refine w_cVi (As := [.int (xs (5 * i + 1)), .int (xs (5 * i + 2))]) (n := 0) X hW hM (by omega) hg0 rfl rfl ml_L_33 mf_X8_logged ⟨r1, r2⟩ hl.1 rfl (Nat.le_of_ble_eq_true rfl) dL_law_283 ⟨by show cn + rm.cells ≤ 600000; omega, by show sn + rm.slots ≤ 7302250; omega⟩ (fun v u H locs hp hW => ?_)
    obtain ⟨hN, ha, ⟨fs2, hg63⟩, hM2⟩ := hp
    rw [← ha 0 (by omega), ← ha 63 (by omega)] at hl
    refine lv_aload_n jx jb dL_law_286 rfl (lv_at hl 2 rfl) ?_
    refine w_arg (k := 1) C hW.2.2 hl hi (by decide) (by decide) dL_law_287 dL_law_288 dL_law_289 dL_law_290 dL_law_291 ?_
    refine w_arg (k := 2) C hW.2.2 hl hi (by decide) (by decide) dL_law_292 dL_law_293 dL_law_294 dL_law_295 dL_law_296 ?_
    refine w_cVi (As := [.int (xs (5 * i + 1)), .int (xs (5 * i + 2))]) (n := 63) X hW hM2 (by omega) hg63 rfl rfl ml_L_36 mf_X9_logged ⟨Nat.le_of_ble_eq_true rfl, Nat.le_of_ble_eq_true rfl⟩ hl.1 rfl (Nat.le_of_ble_eq_true rfl) dL_law_297 ⟨by show cn + rm.cells + 0 ≤ 600000; omega, by show sn + rm.slots + 0 ≤ 7302250; omega⟩ (fun v2 u2 H locs hp hW => ?_)
    obtain ⟨rfl, e1, e2, hI2⟩ := hp
    refine lv_icmp_eq (tgt := 584) jx jb dL_law_300 (by decide) (fun c300 => ?_) (fun c300 => absurd rfl c300)
    refine W.widen (k := cn + 1) (n := sn + 8) (by show cn + rm.cells + 0 ≤ _; omega) (by show sn + rm.slots + 0 ≤ _; omega) ?_
    rw [← e2] at hl
    exact kk _ _ _ _ ⟨hI2, hW, hl⟩
  exact go (rmN 3) (by decide) (by decide) (by decide) (by decide) (op_logged hI)
set_option maxHeartbeats 4000000 in
set_option maxRecDepth 100000 in
theorem law_make {p : Program} {l : Launch} {e : Env} {s : State} {m : MethodId} {below : List Frame} {meth : Method} {c : Code} {b L : Nat} {xs : Nat → Int32} {G : va_G} {cy : Nat → ClassId} {i cn sn : Nat} {w : WT} {H : Heap} {locs : List Loc} {ls : Array Slot} {Q : State → Prop} (C : LwC G cy p s m c b L xs) (S : LwS G cy s b i w H locs ls) (hi : 5 * i + 5 ≤ L) (hc : cn + 1 ≤ 600000) (hs : sn + 8 ≤ 7302250) (kk : ∀ (w : WT) (H : Heap) (locs : List Loc) (ls : Array Slot), LwS G cy s b i w H locs ls → W p l e room_1 s m #[Value.ref b] below meth c H locs (cn + 1) (sn + 8) Q (F0 m 584 ls [])) : W p l e room_1 s m #[Value.ref b] below meth c H locs cn sn Q (F0 m 305 ls []) := by
  obtain ⟨hI, hW, hl⟩ := S
  obtain ⟨X, hX, hbl, hL⟩ := id C
  have jx := X.hx
  have jb := X.hb
  obtain ⟨h83, fs, hg0⟩ := hI.here
  have go : ∀ (rm : Room), rm.frames + 1 ≤ 9 → 8 + (3 + 11) + rm.locals ≤ 340 → rm.cells ≤ 1 → rm.slots ≤ 8 → MI l G cy w yX8_make cX8_make 3 (some .int) rm (.ref (w.2.1 0) :: [.int (xs (5 * i + 1))]) (Pr l G cy w yX9_make cX9_make 4 (some .int) 4 [.int (xs (5 * i + 1))]) → W p l e room_1 s m #[Value.ref b] below meth c H locs cn sn Q (F0 m 305 ls []) := by
    intro rm r1 r2 r3 r4 hM
    refine lv_aload_n jx jb dL_law_305 rfl (lv_at hl 1 rfl) ?_
    refine w_arg (k := 1) C hW.2.2 hl hi (by decide) (by decide) dL_law_306 dL_law_307 dL_law_308 dL_law_309 dL_law_310 ?_
    refine w_cVi (As := [.int (xs (5 * i + 1))]) (n := 0) X hW hM (by omega) hg0 rfl rfl ml_L_37 mf_X8_make ⟨r1, r2⟩ hl.1 rfl (Nat.le_of_ble_eq_true rfl) dL_law_311 ⟨by show cn + rm.cells ≤ 600000; omega, by show sn + rm.slots ≤ 7302250; omega⟩ (fun v u H locs hp hW => ?_)
    obtain ⟨hN, ha, ⟨fs2, hg63⟩, hM2⟩ := hp
    rw [← ha 0 (by omega), ← ha 63 (by omega)] at hl
    refine lv_aload_n jx jb dL_law_314 rfl (lv_at hl 2 rfl) ?_
    refine w_arg (k := 1) C hW.2.2 hl hi (by decide) (by decide) dL_law_315 dL_law_316 dL_law_317 dL_law_318 dL_law_319 ?_
    refine w_cVi (As := [.int (xs (5 * i + 1))]) (n := 63) X hW hM2 (by omega) hg63 rfl rfl ml_L_41 mf_X9_make ⟨Nat.le_of_ble_eq_true rfl, Nat.le_of_ble_eq_true rfl⟩ hl.1 rfl (Nat.le_of_ble_eq_true rfl) dL_law_320 ⟨by show cn + rm.cells + 0 ≤ 600000; omega, by show sn + rm.slots + 0 ≤ 7302250; omega⟩ (fun v2 u2 H locs hp hW => ?_)
    obtain ⟨rfl, e1, e2, hI2⟩ := hp
    refine lv_icmp_eq (tgt := 584) jx jb dL_law_323 (by decide) (fun c323 => ?_) (fun c323 => absurd rfl c323)
    refine W.widen (k := cn + 1) (n := sn + 8) (by show cn + rm.cells + 0 ≤ _; omega) (by show sn + rm.slots + 0 ≤ _; omega) ?_
    rw [← e2] at hl
    exact kk _ _ _ _ ⟨hI2, hW, hl⟩
  exact go (rmN 6) (by decide) (by decide) (by decide) (by decide) (op_make hI)
set_option maxHeartbeats 4000000 in
set_option maxRecDepth 100000 in
theorem law_drop {p : Program} {l : Launch} {e : Env} {s : State} {m : MethodId} {below : List Frame} {meth : Method} {c : Code} {b L : Nat} {xs : Nat → Int32} {G : va_G} {cy : Nat → ClassId} {i cn sn : Nat} {w : WT} {H : Heap} {locs : List Loc} {ls : Array Slot} {Q : State → Prop} (C : LwC G cy p s m c b L xs) (S : LwS G cy s b i w H locs ls) (hi : 5 * i + 5 ≤ L) (hc : cn + 1 ≤ 600000) (hs : sn + 8 ≤ 7302250) (kk : ∀ (w : WT) (H : Heap) (locs : List Loc) (ls : Array Slot), LwS G cy s b i w H locs ls → W p l e room_1 s m #[Value.ref b] below meth c H locs (cn + 1) (sn + 8) Q (F0 m 584 ls [])) : W p l e room_1 s m #[Value.ref b] below meth c H locs cn sn Q (F0 m 328 ls []) := by
  obtain ⟨hI, hW, hl⟩ := S
  obtain ⟨X, hX, hbl, hL⟩ := id C
  have jx := X.hx
  have jb := X.hb
  obtain ⟨h83, fs, hg0⟩ := hI.here
  have go : ∀ (rm : Room), rm.frames + 1 ≤ 9 → 8 + (2 + 11) + rm.locals ≤ 340 → rm.cells ≤ 1 → rm.slots ≤ 8 → MI l G cy w yX8_drop cX8_drop 2 (some .boolean) rm (.ref (w.2.1 0) :: [.int (xs (5 * i + 1))]) (Pr l G cy w yX9_drop cX9_drop 4 (some .boolean) 2 [.int (xs (5 * i + 1))]) → W p l e room_1 s m #[Value.ref b] below meth c H locs cn sn Q (F0 m 328 ls []) := by
    intro rm r1 r2 r3 r4 hM
    refine lv_aload_n jx jb dL_law_328 rfl (lv_at hl 1 rfl) ?_
    refine w_arg (k := 1) C hW.2.2 hl hi (by decide) (by decide) dL_law_329 dL_law_330 dL_law_331 dL_law_332 dL_law_333 ?_
    refine w_cVi (As := [.int (xs (5 * i + 1))]) (n := 0) X hW hM (by omega) hg0 rfl rfl ml_L_42 mf_X8_drop ⟨r1, r2⟩ hl.1 rfl (Nat.le_of_ble_eq_true rfl) dL_law_334 ⟨by show cn + rm.cells ≤ 600000; omega, by show sn + rm.slots ≤ 7302250; omega⟩ (fun v u H locs hp hW => ?_)
    obtain ⟨hN, ha, ⟨fs2, hg63⟩, hM2⟩ := hp
    rw [← ha 0 (by omega), ← ha 63 (by omega)] at hl
    refine lv_aload_n jx jb dL_law_337 rfl (lv_at hl 2 rfl) ?_
    refine w_arg (k := 1) C hW.2.2 hl hi (by decide) (by decide) dL_law_338 dL_law_339 dL_law_340 dL_law_341 dL_law_342 ?_
    refine w_cVi (As := [.int (xs (5 * i + 1))]) (n := 63) X hW hM2 (by omega) hg63 rfl rfl ml_L_46 mf_X9_drop ⟨Nat.le_of_ble_eq_true rfl, Nat.le_of_ble_eq_true rfl⟩ hl.1 rfl (Nat.le_of_ble_eq_true rfl) dL_law_343 ⟨by show cn + rm.cells + 0 ≤ 600000; omega, by show sn + rm.slots + 0 ≤ 7302250; omega⟩ (fun v2 u2 H locs hp hW => ?_)
    obtain ⟨rfl, e1, e2, hI2⟩ := hp
    refine lv_icmp_eq (tgt := 584) jx jb dL_law_346 (by decide) (fun c346 => ?_) (fun c346 => absurd rfl c346)
    refine W.widen (k := cn + 1) (n := sn + 8) (by show cn + rm.cells + 0 ≤ _; omega) (by show sn + rm.slots + 0 ≤ _; omega) ?_
    rw [← e2] at hl
    exact kk _ _ _ _ ⟨hI2, hW, hl⟩
  exact go (rmN 2) (by decide) (by decide) (by decide) (by decide) (op_drop hI)
set_option maxHeartbeats 4000000 in
set_option maxRecDepth 100000 in
theorem law_told {p : Program} {l : Launch} {e : Env} {s : State} {m : MethodId} {below : List Frame} {meth : Method} {c : Code} {b L : Nat} {xs : Nat → Int32} {G : va_G} {cy : Nat → ClassId} {i cn sn : Nat} {w : WT} {H : Heap} {locs : List Loc} {ls : Array Slot} {Q : State → Prop} (C : LwC G cy p s m c b L xs) (S : LwS G cy s b i w H locs ls) (hi : 5 * i + 5 ≤ L) (hc : cn + 1 ≤ 600000) (hs : sn + 8 ≤ 7302250) (kk : ∀ (w : WT) (H : Heap) (locs : List Loc) (ls : Array Slot), LwS G cy s b i w H locs ls → W p l e room_1 s m #[Value.ref b] below meth c H locs (cn + 1) (sn + 8) Q (F0 m 584 ls [])) : W p l e room_1 s m #[Value.ref b] below meth c H locs cn sn Q (F0 m 351 ls []) := by
  obtain ⟨hI, hW, hl⟩ := S
  obtain ⟨X, hX, hbl, hL⟩ := id C
  have jx := X.hx
  have jb := X.hb
  obtain ⟨h83, fs, hg0⟩ := hI.here
  have go : ∀ (rm : Room), rm.frames + 1 ≤ 9 → 8 + (4 + 11) + rm.locals ≤ 340 → rm.cells ≤ 1 → rm.slots ≤ 8 → MI l G cy w yX8_told cX8_told 4 (some .int) rm (.ref (w.2.1 0) :: [.int (xs (5 * i + 1)), .int (xs (5 * i + 2))]) (Pr l G cy w yX9_told cX9_told 3 (some .int) 3 [.int (xs (5 * i + 1)), .int (xs (5 * i + 2))]) → W p l e room_1 s m #[Value.ref b] below meth c H locs cn sn Q (F0 m 351 ls []) := by
    intro rm r1 r2 r3 r4 hM
    refine lv_aload_n jx jb dL_law_351 rfl (lv_at hl 1 rfl) ?_
    refine w_arg (k := 1) C hW.2.2 hl hi (by decide) (by decide) dL_law_352 dL_law_353 dL_law_354 dL_law_355 dL_law_356 ?_
    refine w_arg (k := 2) C hW.2.2 hl hi (by decide) (by decide) dL_law_357 dL_law_358 dL_law_359 dL_law_360 dL_law_361 ?_
    refine w_cVi (As := [.int (xs (5 * i + 1)), .int (xs (5 * i + 2))]) (n := 0) X hW hM (by omega) hg0 rfl rfl ml_L_47 mf_X8_told ⟨r1, r2⟩ hl.1 rfl (Nat.le_of_ble_eq_true rfl) dL_law_362 ⟨by show cn + rm.cells ≤ 600000; omega, by show sn + rm.slots ≤ 7302250; omega⟩ (fun v u H locs hp hW => ?_)
    obtain ⟨hN, ha, ⟨fs2, hg63⟩, hM2⟩ := hp
    rw [← ha 0 (by omega), ← ha 63 (by omega)] at hl
    refine lv_aload_n jx jb dL_law_365 rfl (lv_at hl 2 rfl) ?_
    refine w_arg (k := 1) C hW.2.2 hl hi (by decide) (by decide) dL_law_366 dL_law_367 dL_law_368 dL_law_369 dL_law_370 ?_
    refine w_arg (k := 2) C hW.2.2 hl hi (by decide) (by decide) dL_law_371 dL_law_372 dL_law_373 dL_law_374 dL_law_375 ?_
    refine w_cVi (As := [.int (xs (5 * i + 1)), .int (xs (5 * i + 2))]) (n := 63) X hW hM2 (by omega) hg63 rfl rfl ml_L_50 mf_X9_told ⟨Nat.le_of_ble_eq_true rfl, Nat.le_of_ble_eq_true rfl⟩ hl.1 rfl (Nat.le_of_ble_eq_true rfl) dL_law_376 ⟨by show cn + rm.cells + 0 ≤ 600000; omega, by show sn + rm.slots + 0 ≤ 7302250; omega⟩ (fun v2 u2 H locs hp hW => ?_)
    obtain ⟨rfl, e1, e2, hI2⟩ := hp
    refine lv_icmp_eq (tgt := 584) jx jb dL_law_379 (by decide) (fun c379 => ?_) (fun c379 => absurd rfl c379)
    refine W.widen (k := cn + 1) (n := sn + 8) (by show cn + rm.cells + 0 ≤ _; omega) (by show sn + rm.slots + 0 ≤ _; omega) ?_
    rw [← e2] at hl
    exact kk _ _ _ _ ⟨hI2, hW, hl⟩
  exact go (rmN 5) (by decide) (by decide) (by decide) (by decide) (op_told hI)
set_option maxHeartbeats 4000000 in
set_option maxRecDepth 100000 in
theorem law_row {p : Program} {l : Launch} {e : Env} {s : State} {m : MethodId} {below : List Frame} {meth : Method} {c : Code} {b L : Nat} {xs : Nat → Int32} {G : va_G} {cy : Nat → ClassId} {i cn sn : Nat} {w : WT} {H : Heap} {locs : List Loc} {ls : Array Slot} {Q : State → Prop} (C : LwC G cy p s m c b L xs) (S : LwS G cy s b i w H locs ls) (hi : 5 * i + 5 ≤ L) (hc : cn + 1 ≤ 600000) (hs : sn + 8 ≤ 7302250) (kk : ∀ (w : WT) (H : Heap) (locs : List Loc) (ls : Array Slot), LwS G cy s b i w H locs ls → W p l e room_1 s m #[Value.ref b] below meth c H locs (cn + 1) (sn + 8) Q (F0 m 584 ls [])) : W p l e room_1 s m #[Value.ref b] below meth c H locs cn sn Q (F0 m 384 ls []) := by
  obtain ⟨hI, hW, hl⟩ := S
  obtain ⟨X, hX, hbl, hL⟩ := id C
  have jx := X.hx
  have jb := X.hb
  obtain ⟨h83, fs, hg0⟩ := hI.here
  have go : ∀ (rm : Room), rm.frames + 1 ≤ 9 → 8 + (5 + 11) + rm.locals ≤ 340 → rm.cells ≤ 1 → rm.slots ≤ 8 → MI l G cy w yX8_row cX8_row 5 (some .int) rm (.ref (w.2.1 0) :: [.int (xs (5 * i + 1)), .int (xs (5 * i + 2)), .int (xs (5 * i + 3))]) (Pr l G cy w yX9_row cX9_row 5 (some .int) 3 [.int (xs (5 * i + 1)), .int (xs (5 * i + 2)), .int (xs (5 * i + 3))]) → W p l e room_1 s m #[Value.ref b] below meth c H locs cn sn Q (F0 m 384 ls []) := by
    intro rm r1 r2 r3 r4 hM
    refine lv_aload_n jx jb dL_law_384 rfl (lv_at hl 1 rfl) ?_
    refine w_arg (k := 1) C hW.2.2 hl hi (by decide) (by decide) dL_law_385 dL_law_386 dL_law_387 dL_law_388 dL_law_389 ?_
    refine w_arg (k := 2) C hW.2.2 hl hi (by decide) (by decide) dL_law_390 dL_law_391 dL_law_392 dL_law_393 dL_law_394 ?_
    refine w_arg (k := 3) C hW.2.2 hl hi (by decide) (by decide) dL_law_395 dL_law_396 dL_law_397 dL_law_398 dL_law_399 ?_
    refine w_cVi (As := [.int (xs (5 * i + 1)), .int (xs (5 * i + 2)), .int (xs (5 * i + 3))]) (n := 0) X hW hM (by omega) hg0 rfl rfl ml_L_51 mf_X8_row ⟨r1, r2⟩ hl.1 rfl (Nat.le_of_ble_eq_true rfl) dL_law_400 ⟨by show cn + rm.cells ≤ 600000; omega, by show sn + rm.slots ≤ 7302250; omega⟩ (fun v u H locs hp hW => ?_)
    obtain ⟨hN, ha, ⟨fs2, hg63⟩, hM2⟩ := hp
    rw [← ha 0 (by omega), ← ha 63 (by omega)] at hl
    refine lv_aload_n jx jb dL_law_403 rfl (lv_at hl 2 rfl) ?_
    refine w_arg (k := 1) C hW.2.2 hl hi (by decide) (by decide) dL_law_404 dL_law_405 dL_law_406 dL_law_407 dL_law_408 ?_
    refine w_arg (k := 2) C hW.2.2 hl hi (by decide) (by decide) dL_law_409 dL_law_410 dL_law_411 dL_law_412 dL_law_413 ?_
    refine w_arg (k := 3) C hW.2.2 hl hi (by decide) (by decide) dL_law_414 dL_law_415 dL_law_416 dL_law_417 dL_law_418 ?_
    refine w_cVi (As := [.int (xs (5 * i + 1)), .int (xs (5 * i + 2)), .int (xs (5 * i + 3))]) (n := 63) X hW hM2 (by omega) hg63 rfl rfl ml_L_55 mf_X9_row ⟨Nat.le_of_ble_eq_true rfl, Nat.le_of_ble_eq_true rfl⟩ hl.1 rfl (Nat.le_of_ble_eq_true rfl) dL_law_419 ⟨by show cn + rm.cells + 0 ≤ 600000; omega, by show sn + rm.slots + 0 ≤ 7302250; omega⟩ (fun v2 u2 H locs hp hW => ?_)
    obtain ⟨rfl, e1, e2, hI2⟩ := hp
    refine lv_icmp_eq (tgt := 584) jx jb dL_law_422 (by decide) (fun c422 => ?_) (fun c422 => absurd rfl c422)
    refine W.widen (k := cn + 1) (n := sn + 8) (by show cn + rm.cells + 0 ≤ _; omega) (by show sn + rm.slots + 0 ≤ _; omega) ?_
    rw [← e2] at hl
    exact kk _ _ _ _ ⟨hI2, hW, hl⟩
  exact go (rmN 5) (by decide) (by decide) (by decide) (by decide) (op_row hI)
set_option maxHeartbeats 4000000 in
set_option maxRecDepth 100000 in
theorem law_differs {p : Program} {l : Launch} {e : Env} {s : State} {m : MethodId} {below : List Frame} {meth : Method} {c : Code} {b L : Nat} {xs : Nat → Int32} {G : va_G} {cy : Nat → ClassId} {i cn sn : Nat} {w : WT} {H : Heap} {locs : List Loc} {ls : Array Slot} {Q : State → Prop} (C : LwC G cy p s m c b L xs) (S : LwS G cy s b i w H locs ls) (hi : 5 * i + 5 ≤ L) (hc : cn + 1 ≤ 600000) (hs : sn + 8 ≤ 7302250) (kk : ∀ (w : WT) (H : Heap) (locs : List Loc) (ls : Array Slot), LwS G cy s b i w H locs ls → W p l e room_1 s m #[Value.ref b] below meth c H locs (cn + 1) (sn + 8) Q (F0 m 584 ls [])) : W p l e room_1 s m #[Value.ref b] below meth c H locs cn sn Q (F0 m 427 ls []) := by
  obtain ⟨hI, hW, hl⟩ := S
  obtain ⟨X, hX, hbl, hL⟩ := id C
  have jx := X.hx
  have jb := X.hb
  obtain ⟨h83, fs, hg0⟩ := hI.here
  have go : ∀ (rm : Room), rm.frames + 1 ≤ 9 → 8 + (3 + 11) + rm.locals ≤ 340 → rm.cells ≤ 1 → rm.slots ≤ 8 → MI l G cy w yX8_differs cX8_differs 3 (some .int) rm (.ref (w.2.1 0) :: [.int (xs (5 * i + 1))]) (Pr l G cy w yX9_differs cX9_differs 4 (some .int) 2 [.int (xs (5 * i + 1))]) → W p l e room_1 s m #[Value.ref b] below meth c H locs cn sn Q (F0 m 427 ls []) := by
    intro rm r1 r2 r3 r4 hM
    refine lv_aload_n jx jb dL_law_427 rfl (lv_at hl 1 rfl) ?_
    refine w_arg (k := 1) C hW.2.2 hl hi (by decide) (by decide) dL_law_428 dL_law_429 dL_law_430 dL_law_431 dL_law_432 ?_
    refine w_cVi (As := [.int (xs (5 * i + 1))]) (n := 0) X hW hM (by omega) hg0 rfl rfl ml_L_56 mf_X8_differs ⟨r1, r2⟩ hl.1 rfl (Nat.le_of_ble_eq_true rfl) dL_law_433 ⟨by show cn + rm.cells ≤ 600000; omega, by show sn + rm.slots ≤ 7302250; omega⟩ (fun v u H locs hp hW => ?_)
    obtain ⟨hN, ha, ⟨fs2, hg63⟩, hM2⟩ := hp
    rw [← ha 0 (by omega), ← ha 63 (by omega)] at hl
    refine lv_aload_n jx jb dL_law_436 rfl (lv_at hl 2 rfl) ?_
    refine w_arg (k := 1) C hW.2.2 hl hi (by decide) (by decide) dL_law_437 dL_law_438 dL_law_439 dL_law_440 dL_law_441 ?_
    refine w_cVi (As := [.int (xs (5 * i + 1))]) (n := 63) X hW hM2 (by omega) hg63 rfl rfl ml_L_59 mf_X9_differs ⟨Nat.le_of_ble_eq_true rfl, Nat.le_of_ble_eq_true rfl⟩ hl.1 rfl (Nat.le_of_ble_eq_true rfl) dL_law_442 ⟨by show cn + rm.cells + 0 ≤ 600000; omega, by show sn + rm.slots + 0 ≤ 7302250; omega⟩ (fun v2 u2 H locs hp hW => ?_)
    obtain ⟨rfl, e1, e2, hI2⟩ := hp
    refine lv_icmp_eq (tgt := 584) jx jb dL_law_445 (by decide) (fun c445 => ?_) (fun c445 => absurd rfl c445)
    refine W.widen (k := cn + 1) (n := sn + 8) (by show cn + rm.cells + 0 ≤ _; omega) (by show sn + rm.slots + 0 ≤ _; omega) ?_
    rw [← e2] at hl
    exact kk _ _ _ _ ⟨hI2, hW, hl⟩
  exact go (rmN 5) (by decide) (by decide) (by decide) (by decide) (op_differs hI)
set_option maxHeartbeats 4000000 in
set_option maxRecDepth 100000 in
theorem law_run {p : Program} {l : Launch} {e : Env} {s : State} {m : MethodId} {below : List Frame} {meth : Method} {c : Code} {b L : Nat} {xs : Nat → Int32} {G : va_G} {cy : Nat → ClassId} {i cn sn : Nat} {w : WT} {H : Heap} {locs : List Loc} {ls : Array Slot} {Q : State → Prop} (C : LwC G cy p s m c b L xs) (S : LwS G cy s b i w H locs ls) (hi : 5 * i + 5 ≤ L) (hc : cn + 1 ≤ 600000) (hs : sn + 8 ≤ 7302250) (kk : ∀ (w : WT) (H : Heap) (locs : List Loc) (ls : Array Slot), LwS G cy s b i w H locs ls → W p l e room_1 s m #[Value.ref b] below meth c H locs (cn + 1) (sn + 8) Q (F0 m 584 ls [])) : W p l e room_1 s m #[Value.ref b] below meth c H locs cn sn Q (F0 m 450 ls []) := by
  obtain ⟨hI, hW, hl⟩ := S
  obtain ⟨X, hX, hbl, hL⟩ := id C
  have jx := X.hx
  have jb := X.hb
  obtain ⟨h83, fs, hg0⟩ := hI.here
  have go : ∀ (rm : Room), rm.frames + 1 ≤ 9 → 8 + (4 + 11) + rm.locals ≤ 340 → rm.cells ≤ 1 → rm.slots ≤ 8 → MI l G cy w yX8_run cX8_run 4 (some .int) rm (.ref (w.2.1 0) :: []) (Pr l G cy w yX9_run cX9_run 3 (some .int) 3 []) → W p l e room_1 s m #[Value.ref b] below meth c H locs cn sn Q (F0 m 450 ls []) := by
    intro rm r1 r2 r3 r4 hM
    refine lv_aload_n jx jb dL_law_450 rfl (lv_at hl 1 rfl) ?_
    refine w_cVi (As := []) (n := 0) X hW hM (by omega) hg0 rfl rfl ml_L_60 mf_X8_run ⟨r1, r2⟩ hl.1 rfl (Nat.le_of_ble_eq_true rfl) dL_law_451 ⟨by show cn + rm.cells ≤ 600000; omega, by show sn + rm.slots ≤ 7302250; omega⟩ (fun v u H locs hp hW => ?_)
    obtain ⟨hN, ha, ⟨fs2, hg63⟩, hM2⟩ := hp
    rw [← ha 0 (by omega), ← ha 63 (by omega)] at hl
    refine lv_aload_n jx jb dL_law_454 rfl (lv_at hl 2 rfl) ?_
    refine w_cVi (As := []) (n := 63) X hW hM2 (by omega) hg63 rfl rfl ml_L_63 mf_X9_run ⟨Nat.le_of_ble_eq_true rfl, Nat.le_of_ble_eq_true rfl⟩ hl.1 rfl (Nat.le_of_ble_eq_true rfl) dL_law_455 ⟨by show cn + rm.cells + 0 ≤ 600000; omega, by show sn + rm.slots + 0 ≤ 7302250; omega⟩ (fun v2 u2 H locs hp hW => ?_)
    obtain ⟨rfl, e1, e2, hI2⟩ := hp
    refine lv_icmp_eq (tgt := 584) jx jb dL_law_458 (by decide) (fun c458 => ?_) (fun c458 => absurd rfl c458)
    refine W.widen (k := cn + 1) (n := sn + 8) (by show cn + rm.cells + 0 ≤ _; omega) (by show sn + rm.slots + 0 ≤ _; omega) ?_
    rw [← e2] at hl
    exact kk _ _ _ _ ⟨hI2, hW, hl⟩
  exact go (rmN 5) (by decide) (by decide) (by decide) (by decide) (op_run hI)
set_option maxHeartbeats 4000000 in
set_option maxRecDepth 100000 in
theorem law_accept {p : Program} {l : Launch} {e : Env} {s : State} {m : MethodId} {below : List Frame} {meth : Method} {c : Code} {b L : Nat} {xs : Nat → Int32} {G : va_G} {cy : Nat → ClassId} {i cn sn : Nat} {w : WT} {H : Heap} {locs : List Loc} {ls : Array Slot} {Q : State → Prop} (C : LwC G cy p s m c b L xs) (S : LwS G cy s b i w H locs ls) (hi : 5 * i + 5 ≤ L) (hc : cn + 1 ≤ 600000) (hs : sn + 8 ≤ 7302250) (kk : ∀ (w : WT) (H : Heap) (locs : List Loc) (ls : Array Slot), LwS G cy s b i w H locs ls → W p l e room_1 s m #[Value.ref b] below meth c H locs (cn + 1) (sn + 8) Q (F0 m 584 ls [])) : W p l e room_1 s m #[Value.ref b] below meth c H locs cn sn Q (F0 m 463 ls []) := by
  obtain ⟨hI, hW, hl⟩ := S
  obtain ⟨X, hX, hbl, hL⟩ := id C
  have jx := X.hx
  have jb := X.hb
  obtain ⟨h83, fs, hg0⟩ := hI.here
  have go : ∀ (rm : Room), rm.frames + 1 ≤ 9 → 8 + (3 + 11) + rm.locals ≤ 340 → rm.cells ≤ 1 → rm.slots ≤ 8 → MI l G cy w yX8_accept cX8_accept 3 (some .boolean) rm (.ref (w.2.1 0) :: [.int (xs (5 * i + 1))]) (Pr l G cy w yX9_accept cX9_accept 3 (some .boolean) 2 [.int (xs (5 * i + 1))]) → W p l e room_1 s m #[Value.ref b] below meth c H locs cn sn Q (F0 m 463 ls []) := by
    intro rm r1 r2 r3 r4 hM
    refine lv_aload_n jx jb dL_law_463 rfl (lv_at hl 1 rfl) ?_
    refine w_arg (k := 1) C hW.2.2 hl hi (by decide) (by decide) dL_law_464 dL_law_465 dL_law_466 dL_law_467 dL_law_468 ?_
    refine w_cVi (As := [.int (xs (5 * i + 1))]) (n := 0) X hW hM (by omega) hg0 rfl rfl ml_L_64 mf_X8_accept ⟨r1, r2⟩ hl.1 rfl (Nat.le_of_ble_eq_true rfl) dL_law_469 ⟨by show cn + rm.cells ≤ 600000; omega, by show sn + rm.slots ≤ 7302250; omega⟩ (fun v u H locs hp hW => ?_)
    obtain ⟨hN, ha, ⟨fs2, hg63⟩, hM2⟩ := hp
    rw [← ha 0 (by omega), ← ha 63 (by omega)] at hl
    refine lv_aload_n jx jb dL_law_472 rfl (lv_at hl 2 rfl) ?_
    refine w_arg (k := 1) C hW.2.2 hl hi (by decide) (by decide) dL_law_473 dL_law_474 dL_law_475 dL_law_476 dL_law_477 ?_
    refine w_cVi (As := [.int (xs (5 * i + 1))]) (n := 63) X hW hM2 (by omega) hg63 rfl rfl ml_L_67 mf_X9_accept ⟨Nat.le_of_ble_eq_true rfl, Nat.le_of_ble_eq_true rfl⟩ hl.1 rfl (Nat.le_of_ble_eq_true rfl) dL_law_478 ⟨by show cn + rm.cells + 0 ≤ 600000; omega, by show sn + rm.slots + 0 ≤ 7302250; omega⟩ (fun v2 u2 H locs hp hW => ?_)
    obtain ⟨rfl, e1, e2, hI2⟩ := hp
    refine lv_icmp_eq (tgt := 584) jx jb dL_law_481 (by decide) (fun c481 => ?_) (fun c481 => absurd rfl c481)
    refine W.widen (k := cn + 1) (n := sn + 8) (by show cn + rm.cells + 0 ≤ _; omega) (by show sn + rm.slots + 0 ≤ _; omega) ?_
    rw [← e2] at hl
    exact kk _ _ _ _ ⟨hI2, hW, hl⟩
  exact go (rmN 4) (by decide) (by decide) (by decide) (by decide) (op_accept hI)
set_option maxHeartbeats 4000000 in
set_option maxRecDepth 100000 in
theorem law_reached {p : Program} {l : Launch} {e : Env} {s : State} {m : MethodId} {below : List Frame} {meth : Method} {c : Code} {b L : Nat} {xs : Nat → Int32} {G : va_G} {cy : Nat → ClassId} {i cn sn : Nat} {w : WT} {H : Heap} {locs : List Loc} {ls : Array Slot} {Q : State → Prop} (C : LwC G cy p s m c b L xs) (S : LwS G cy s b i w H locs ls) (hi : 5 * i + 5 ≤ L) (hc : cn + 1 ≤ 600000) (hs : sn + 8 ≤ 7302250) (kk : ∀ (w : WT) (H : Heap) (locs : List Loc) (ls : Array Slot), LwS G cy s b i w H locs ls → W p l e room_1 s m #[Value.ref b] below meth c H locs (cn + 1) (sn + 8) Q (F0 m 584 ls [])) : W p l e room_1 s m #[Value.ref b] below meth c H locs cn sn Q (F0 m 486 ls []) := by
  obtain ⟨hI, hW, hl⟩ := S
  obtain ⟨X, hX, hbl, hL⟩ := id C
  have jx := X.hx
  have jb := X.hb
  obtain ⟨h83, fs, hg0⟩ := hI.here
  have go : ∀ (rm : Room), rm.frames + 1 ≤ 9 → 8 + (1 + 11) + rm.locals ≤ 340 → rm.cells ≤ 1 → rm.slots ≤ 8 → MI l G cy w yX8_reached cX8_reached 1 (some .int) rm (.ref (w.2.1 0) :: []) (Pr l G cy w yX9_reached cX9_reached 3 (some .int) 2 []) → W p l e room_1 s m #[Value.ref b] below meth c H locs cn sn Q (F0 m 486 ls []) := by
    intro rm r1 r2 r3 r4 hM
    refine lv_aload_n jx jb dL_law_486 rfl (lv_at hl 1 rfl) ?_
    refine w_cVi (As := []) (n := 0) X hW hM (by omega) hg0 rfl rfl ml_L_68 mf_X8_reached ⟨r1, r2⟩ hl.1 rfl (Nat.le_of_ble_eq_true rfl) dL_law_487 ⟨by show cn + rm.cells ≤ 600000; omega, by show sn + rm.slots ≤ 7302250; omega⟩ (fun v u H locs hp hW => ?_)
    obtain ⟨hN, ha, ⟨fs2, hg63⟩, hM2⟩ := hp
    rw [← ha 0 (by omega), ← ha 63 (by omega)] at hl
    refine lv_aload_n jx jb dL_law_490 rfl (lv_at hl 2 rfl) ?_
    refine w_cVi (As := []) (n := 63) X hW hM2 (by omega) hg63 rfl rfl ml_L_71 mf_X9_reached ⟨Nat.le_of_ble_eq_true rfl, Nat.le_of_ble_eq_true rfl⟩ hl.1 rfl (Nat.le_of_ble_eq_true rfl) dL_law_491 ⟨by show cn + rm.cells + 0 ≤ 600000; omega, by show sn + rm.slots + 0 ≤ 7302250; omega⟩ (fun v2 u2 H locs hp hW => ?_)
    obtain ⟨rfl, e1, e2, hI2⟩ := hp
    refine lv_icmp_eq (tgt := 584) jx jb dL_law_494 (by decide) (fun c494 => ?_) (fun c494 => absurd rfl c494)
    refine W.widen (k := cn + 1) (n := sn + 8) (by show cn + rm.cells + 0 ≤ _; omega) (by show sn + rm.slots + 0 ≤ _; omega) ?_
    rw [← e2] at hl
    exact kk _ _ _ _ ⟨hI2, hW, hl⟩
  exact go (rmN 5) (by decide) (by decide) (by decide) (by decide) (op_reached hI)
set_option maxHeartbeats 4000000 in
set_option maxRecDepth 100000 in
theorem law_never {p : Program} {l : Launch} {e : Env} {s : State} {m : MethodId} {below : List Frame} {meth : Method} {c : Code} {b L : Nat} {xs : Nat → Int32} {G : va_G} {cy : Nat → ClassId} {i cn sn : Nat} {w : WT} {H : Heap} {locs : List Loc} {ls : Array Slot} {Q : State → Prop} (C : LwC G cy p s m c b L xs) (S : LwS G cy s b i w H locs ls) (hi : 5 * i + 5 ≤ L) (hc : cn + 1 ≤ 600000) (hs : sn + 8 ≤ 7302250) (kk : ∀ (w : WT) (H : Heap) (locs : List Loc) (ls : Array Slot), LwS G cy s b i w H locs ls → W p l e room_1 s m #[Value.ref b] below meth c H locs (cn + 1) (sn + 8) Q (F0 m 584 ls [])) : W p l e room_1 s m #[Value.ref b] below meth c H locs cn sn Q (F0 m 499 ls []) := by
  obtain ⟨hI, hW, hl⟩ := S
  obtain ⟨X, hX, hbl, hL⟩ := id C
  have jx := X.hx
  have jb := X.hb
  obtain ⟨h83, fs, hg0⟩ := hI.here
  have go : ∀ (rm : Room), rm.frames + 1 ≤ 9 → 8 + (1 + 11) + rm.locals ≤ 340 → rm.cells ≤ 1 → rm.slots ≤ 8 → MI l G cy w yX8_never cX8_never 1 (some .int) rm (.ref (w.2.1 0) :: []) (Pr l G cy w yX9_never cX9_never 3 (some .int) 3 []) → W p l e room_1 s m #[Value.ref b] below meth c H locs cn sn Q (F0 m 499 ls []) := by
    intro rm r1 r2 r3 r4 hM
    refine lv_aload_n jx jb dL_law_499 rfl (lv_at hl 1 rfl) ?_
    refine w_cVi (As := []) (n := 0) X hW hM (by omega) hg0 rfl rfl ml_L_72 mf_X8_never ⟨r1, r2⟩ hl.1 rfl (Nat.le_of_ble_eq_true rfl) dL_law_500 ⟨by show cn + rm.cells ≤ 600000; omega, by show sn + rm.slots ≤ 7302250; omega⟩ (fun v u H locs hp hW => ?_)
    obtain ⟨hN, ha, ⟨fs2, hg63⟩, hM2⟩ := hp
    rw [← ha 0 (by omega), ← ha 63 (by omega)] at hl
    refine lv_aload_n jx jb dL_law_503 rfl (lv_at hl 2 rfl) ?_
    refine w_cVi (As := []) (n := 63) X hW hM2 (by omega) hg63 rfl rfl ml_L_75 mf_X9_never ⟨Nat.le_of_ble_eq_true rfl, Nat.le_of_ble_eq_true rfl⟩ hl.1 rfl (Nat.le_of_ble_eq_true rfl) dL_law_504 ⟨by show cn + rm.cells + 0 ≤ 600000; omega, by show sn + rm.slots + 0 ≤ 7302250; omega⟩ (fun v2 u2 H locs hp hW => ?_)
    obtain ⟨rfl, e1, e2, hI2⟩ := hp
    refine lv_icmp_eq (tgt := 584) jx jb dL_law_507 (by decide) (fun c507 => ?_) (fun c507 => absurd rfl c507)
    refine W.widen (k := cn + 1) (n := sn + 8) (by show cn + rm.cells + 0 ≤ _; omega) (by show sn + rm.slots + 0 ≤ _; omega) ?_
    rw [← e2] at hl
    exact kk _ _ _ _ ⟨hI2, hW, hl⟩
  exact go (rmN 5) (by decide) (by decide) (by decide) (by decide) (op_never hI)
set_option maxHeartbeats 4000000 in
set_option maxRecDepth 100000 in
theorem law_fewest {p : Program} {l : Launch} {e : Env} {s : State} {m : MethodId} {below : List Frame} {meth : Method} {c : Code} {b L : Nat} {xs : Nat → Int32} {G : va_G} {cy : Nat → ClassId} {i cn sn : Nat} {w : WT} {H : Heap} {locs : List Loc} {ls : Array Slot} {Q : State → Prop} (C : LwC G cy p s m c b L xs) (S : LwS G cy s b i w H locs ls) (hi : 5 * i + 5 ≤ L) (hc : cn + 1 ≤ 600000) (hs : sn + 8 ≤ 7302250) (kk : ∀ (w : WT) (H : Heap) (locs : List Loc) (ls : Array Slot), LwS G cy s b i w H locs ls → W p l e room_1 s m #[Value.ref b] below meth c H locs (cn + 1) (sn + 8) Q (F0 m 584 ls [])) : W p l e room_1 s m #[Value.ref b] below meth c H locs cn sn Q (F0 m 512 ls []) := by
  obtain ⟨hI, hW, hl⟩ := S
  obtain ⟨X, hX, hbl, hL⟩ := id C
  have jx := X.hx
  have jb := X.hb
  obtain ⟨h83, fs, hg0⟩ := hI.here
  have go : ∀ (rm : Room), rm.frames + 1 ≤ 9 → 8 + (1 + 11) + rm.locals ≤ 340 → rm.cells ≤ 1 → rm.slots ≤ 8 → MI l G cy w yX8_fewest cX8_fewest 1 (some .int) rm (.ref (w.2.1 0) :: []) (Pr l G cy w yX9_fewest cX9_fewest 1 (some .int) 4 []) → W p l e room_1 s m #[Value.ref b] below meth c H locs cn sn Q (F0 m 512 ls []) := by
    intro rm r1 r2 r3 r4 hM
    refine lv_aload_n jx jb dL_law_512 rfl (lv_at hl 1 rfl) ?_
    refine w_cVi (As := []) (n := 0) X hW hM (by omega) hg0 rfl rfl ml_L_76 mf_X8_fewest ⟨r1, r2⟩ hl.1 rfl (Nat.le_of_ble_eq_true rfl) dL_law_513 ⟨by show cn + rm.cells ≤ 600000; omega, by show sn + rm.slots ≤ 7302250; omega⟩ (fun v u H locs hp hW => ?_)
    obtain ⟨hN, ha, ⟨fs2, hg63⟩, hM2⟩ := hp
    rw [← ha 0 (by omega), ← ha 63 (by omega)] at hl
    refine lv_aload_n jx jb dL_law_516 rfl (lv_at hl 2 rfl) ?_
    refine w_cVi (As := []) (n := 63) X hW hM2 (by omega) hg63 rfl rfl ml_L_79 mf_X9_fewest ⟨Nat.le_of_ble_eq_true rfl, Nat.le_of_ble_eq_true rfl⟩ hl.1 rfl (Nat.le_of_ble_eq_true rfl) dL_law_517 ⟨by show cn + rm.cells + 0 ≤ 600000; omega, by show sn + rm.slots + 0 ≤ 7302250; omega⟩ (fun v2 u2 H locs hp hW => ?_)
    obtain ⟨rfl, e1, e2, hI2⟩ := hp
    refine lv_icmp_eq (tgt := 584) jx jb dL_law_520 (by decide) (fun c520 => ?_) (fun c520 => absurd rfl c520)
    refine W.widen (k := cn + 1) (n := sn + 8) (by show cn + rm.cells + 0 ≤ _; omega) (by show sn + rm.slots + 0 ≤ _; omega) ?_
    rw [← e2] at hl
    exact kk _ _ _ _ ⟨hI2, hW, hl⟩
  exact go (rmN 6) (by decide) (by decide) (by decide) (by decide) (op_fewest hI)
set_option maxHeartbeats 4000000 in
set_option maxRecDepth 100000 in
theorem law_chosen {p : Program} {l : Launch} {e : Env} {s : State} {m : MethodId} {below : List Frame} {meth : Method} {c : Code} {b L : Nat} {xs : Nat → Int32} {G : va_G} {cy : Nat → ClassId} {i cn sn : Nat} {w : WT} {H : Heap} {locs : List Loc} {ls : Array Slot} {Q : State → Prop} (C : LwC G cy p s m c b L xs) (S : LwS G cy s b i w H locs ls) (hi : 5 * i + 5 ≤ L) (hc : cn + 1 ≤ 600000) (hs : sn + 8 ≤ 7302250) (kk : ∀ (w : WT) (H : Heap) (locs : List Loc) (ls : Array Slot), LwS G cy s b i w H locs ls → W p l e room_1 s m #[Value.ref b] below meth c H locs (cn + 1) (sn + 8) Q (F0 m 584 ls [])) : W p l e room_1 s m #[Value.ref b] below meth c H locs cn sn Q (F0 m 525 ls []) := by
  obtain ⟨hI, hW, hl⟩ := S
  obtain ⟨X, hX, hbl, hL⟩ := id C
  have jx := X.hx
  have jb := X.hb
  obtain ⟨h83, fs, hg0⟩ := hI.here
  have go : ∀ (rm : Room), rm.frames + 1 ≤ 9 → 8 + (1 + 11) + rm.locals ≤ 340 → rm.cells ≤ 1 → rm.slots ≤ 8 → MI l G cy w yX8_chosen cX8_chosen 1 (some .int) rm (.ref (w.2.1 0) :: []) (Pr l G cy w yX9_chosen cX9_chosen 6 (some .int) 3 []) → W p l e room_1 s m #[Value.ref b] below meth c H locs cn sn Q (F0 m 525 ls []) := by
    intro rm r1 r2 r3 r4 hM
    refine lv_aload_n jx jb dL_law_525 rfl (lv_at hl 1 rfl) ?_
    refine w_cVi (As := []) (n := 0) X hW hM (by omega) hg0 rfl rfl ml_L_80 mf_X8_chosen ⟨r1, r2⟩ hl.1 rfl (Nat.le_of_ble_eq_true rfl) dL_law_526 ⟨by show cn + rm.cells ≤ 600000; omega, by show sn + rm.slots ≤ 7302250; omega⟩ (fun v u H locs hp hW => ?_)
    obtain ⟨hN, ha, ⟨fs2, hg63⟩, hM2⟩ := hp
    rw [← ha 0 (by omega), ← ha 63 (by omega)] at hl
    refine lv_aload_n jx jb dL_law_529 rfl (lv_at hl 2 rfl) ?_
    refine w_cVi (As := []) (n := 63) X hW hM2 (by omega) hg63 rfl rfl ml_L_83 mf_X9_chosen ⟨Nat.le_of_ble_eq_true rfl, Nat.le_of_ble_eq_true rfl⟩ hl.1 rfl (Nat.le_of_ble_eq_true rfl) dL_law_530 ⟨by show cn + rm.cells + 0 ≤ 600000; omega, by show sn + rm.slots + 0 ≤ 7302250; omega⟩ (fun v2 u2 H locs hp hW => ?_)
    obtain ⟨rfl, e1, e2, hI2⟩ := hp
    refine lv_icmp_eq (tgt := 584) jx jb dL_law_533 (by decide) (fun c533 => ?_) (fun c533 => absurd rfl c533)
    refine W.widen (k := cn + 1) (n := sn + 8) (by show cn + rm.cells + 0 ≤ _; omega) (by show sn + rm.slots + 0 ≤ _; omega) ?_
    rw [← e2] at hl
    exact kk _ _ _ _ ⟨hI2, hW, hl⟩
  exact go (rmN 6) (by decide) (by decide) (by decide) (by decide) (op_chosen hI)
set_option maxHeartbeats 4000000 in
set_option maxRecDepth 100000 in
theorem law_register {p : Program} {l : Launch} {e : Env} {s : State} {m : MethodId} {below : List Frame} {meth : Method} {c : Code} {b L : Nat} {xs : Nat → Int32} {G : va_G} {cy : Nat → ClassId} {i cn sn : Nat} {w : WT} {H : Heap} {locs : List Loc} {ls : Array Slot} {Q : State → Prop} (C : LwC G cy p s m c b L xs) (S : LwS G cy s b i w H locs ls) (hi : 5 * i + 5 ≤ L) (hc : cn + 1 ≤ 600000) (hs : sn + 8 ≤ 7302250) (kk : ∀ (w : WT) (H : Heap) (locs : List Loc) (ls : Array Slot), LwS G cy s b i w H locs ls → W p l e room_1 s m #[Value.ref b] below meth c H locs (cn + 1) (sn + 8) Q (F0 m 584 ls [])) : W p l e room_1 s m #[Value.ref b] below meth c H locs cn sn Q (F0 m 538 ls []) := by
  obtain ⟨hI, hW, hl⟩ := S
  obtain ⟨X, hX, hbl, hL⟩ := id C
  have jx := X.hx
  have jb := X.hb
  obtain ⟨h83, fs, hg0⟩ := hI.here
  have go : ∀ (rm : Room), rm.frames + 1 ≤ 9 → 8 + (2 + 11) + rm.locals ≤ 340 → rm.cells ≤ 1 → rm.slots ≤ 8 → MI l G cy w yX8_register cX8_register 2 (some .int) rm (.ref (w.2.1 0) :: [.int (xs (5 * i + 1))]) (Pr l G cy w yX9_register cX9_register 2 (some .int) 1 [.int (xs (5 * i + 1))]) → W p l e room_1 s m #[Value.ref b] below meth c H locs cn sn Q (F0 m 538 ls []) := by
    intro rm r1 r2 r3 r4 hM
    refine lv_aload_n jx jb dL_law_538 rfl (lv_at hl 1 rfl) ?_
    refine w_arg (k := 1) C hW.2.2 hl hi (by decide) (by decide) dL_law_539 dL_law_540 dL_law_541 dL_law_542 dL_law_543 ?_
    refine w_cVi (As := [.int (xs (5 * i + 1))]) (n := 0) X hW hM (by omega) hg0 rfl rfl ml_L_84 mf_X8_register ⟨r1, r2⟩ hl.1 rfl (Nat.le_of_ble_eq_true rfl) dL_law_544 ⟨by show cn + rm.cells ≤ 600000; omega, by show sn + rm.slots ≤ 7302250; omega⟩ (fun v u H locs hp hW => ?_)
    obtain ⟨hN, ha, ⟨fs2, hg63⟩, hM2⟩ := hp
    rw [← ha 0 (by omega), ← ha 63 (by omega)] at hl
    refine lv_aload_n jx jb dL_law_547 rfl (lv_at hl 2 rfl) ?_
    refine w_arg (k := 1) C hW.2.2 hl hi (by decide) (by decide) dL_law_548 dL_law_549 dL_law_550 dL_law_551 dL_law_552 ?_
    refine w_cVi (As := [.int (xs (5 * i + 1))]) (n := 63) X hW hM2 (by omega) hg63 rfl rfl ml_L_87 mf_X9_register ⟨Nat.le_of_ble_eq_true rfl, Nat.le_of_ble_eq_true rfl⟩ hl.1 rfl (Nat.le_of_ble_eq_true rfl) dL_law_553 ⟨by show cn + rm.cells + 0 ≤ 600000; omega, by show sn + rm.slots + 0 ≤ 7302250; omega⟩ (fun v2 u2 H locs hp hW => ?_)
    obtain ⟨rfl, e1, e2, hI2⟩ := hp
    refine lv_icmp_eq (tgt := 584) jx jb dL_law_556 (by decide) (fun c556 => ?_) (fun c556 => absurd rfl c556)
    refine W.widen (k := cn + 1) (n := sn + 8) (by show cn + rm.cells + 0 ≤ _; omega) (by show sn + rm.slots + 0 ≤ _; omega) ?_
    rw [← e2] at hl
    exact kk _ _ _ _ ⟨hI2, hW, hl⟩
  exact go (rmN 1) (by decide) (by decide) (by decide) (by decide) (op_register hI)
set_option maxHeartbeats 4000000 in
set_option maxRecDepth 100000 in
theorem law_count {p : Program} {l : Launch} {e : Env} {s : State} {m : MethodId} {below : List Frame} {meth : Method} {c : Code} {b L : Nat} {xs : Nat → Int32} {G : va_G} {cy : Nat → ClassId} {i cn sn : Nat} {w : WT} {H : Heap} {locs : List Loc} {ls : Array Slot} {Q : State → Prop} (C : LwC G cy p s m c b L xs) (S : LwS G cy s b i w H locs ls) (hi : 5 * i + 5 ≤ L) (hc : cn + 1 ≤ 600000) (hs : sn + 8 ≤ 7302250) (kk : ∀ (w : WT) (H : Heap) (locs : List Loc) (ls : Array Slot), LwS G cy s b i w H locs ls → W p l e room_1 s m #[Value.ref b] below meth c H locs (cn + 1) (sn + 8) Q (F0 m 584 ls [])) : W p l e room_1 s m #[Value.ref b] below meth c H locs cn sn Q (F0 m 561 ls []) := by
  obtain ⟨hI, hW, hl⟩ := S
  obtain ⟨X, hX, hbl, hL⟩ := id C
  have jx := X.hx
  have jb := X.hb
  obtain ⟨h83, fs, hg0⟩ := hI.here
  have go : ∀ (rm : Room), rm.frames + 1 ≤ 9 → 8 + (2 + 11) + rm.locals ≤ 340 → rm.cells ≤ 1 → rm.slots ≤ 8 → MI l G cy w yX8_count cX8_count 2 (some .int) rm (.ref (w.2.1 0) :: [.int (xs (5 * i + 1))]) (Pr l G cy w yX9_count cX9_count 4 (some .int) 2 [.int (xs (5 * i + 1))]) → W p l e room_1 s m #[Value.ref b] below meth c H locs cn sn Q (F0 m 561 ls []) := by
    intro rm r1 r2 r3 r4 hM
    refine lv_aload_n jx jb dL_law_561 rfl (lv_at hl 1 rfl) ?_
    refine w_arg (k := 1) C hW.2.2 hl hi (by decide) (by decide) dL_law_562 dL_law_563 dL_law_564 dL_law_565 dL_law_566 ?_
    refine w_cVi (As := [.int (xs (5 * i + 1))]) (n := 0) X hW hM (by omega) hg0 rfl rfl ml_L_88 mf_X8_count ⟨r1, r2⟩ hl.1 rfl (Nat.le_of_ble_eq_true rfl) dL_law_567 ⟨by show cn + rm.cells ≤ 600000; omega, by show sn + rm.slots ≤ 7302250; omega⟩ (fun v u H locs hp hW => ?_)
    obtain ⟨hN, ha, ⟨fs2, hg63⟩, hM2⟩ := hp
    rw [← ha 0 (by omega), ← ha 63 (by omega)] at hl
    refine lv_aload_n jx jb dL_law_570 rfl (lv_at hl 2 rfl) ?_
    refine w_arg (k := 1) C hW.2.2 hl hi (by decide) (by decide) dL_law_571 dL_law_572 dL_law_573 dL_law_574 dL_law_575 ?_
    refine w_cVi (As := [.int (xs (5 * i + 1))]) (n := 63) X hW hM2 (by omega) hg63 rfl rfl ml_L_91 mf_X9_count ⟨Nat.le_of_ble_eq_true rfl, Nat.le_of_ble_eq_true rfl⟩ hl.1 rfl (Nat.le_of_ble_eq_true rfl) dL_law_576 ⟨by show cn + rm.cells + 0 ≤ 600000; omega, by show sn + rm.slots + 0 ≤ 7302250; omega⟩ (fun v2 u2 H locs hp hW => ?_)
    obtain ⟨rfl, e1, e2, hI2⟩ := hp
    refine lv_icmp_eq (tgt := 584) jx jb dL_law_579 (by decide) (fun c579 => ?_) (fun c579 => absurd rfl c579)
    refine W.widen (k := cn + 1) (n := sn + 8) (by show cn + rm.cells + 0 ≤ _; omega) (by show sn + rm.slots + 0 ≤ _; omega) ?_
    rw [← e2] at hl
    exact kk _ _ _ _ ⟨hI2, hW, hl⟩
  exact go (rmN 5) (by decide) (by decide) (by decide) (by decide) (op_count hI)
