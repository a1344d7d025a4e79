/-! the world as a row of cells numbered as they were made: cell n lies at address ad n and holds g n -/
abbrev WT : Type := Nat × (Nat → Nat) × (Nat → va_E)
def wl (w : WT) : va_W := (List.range w.1).map (fun n => (w.2.1 n, w.2.2 n))
theorem wl_at {w : WT} {n : Nat} (h : n < w.1) : (wl w)[n]? = some (w.2.1 n, w.2.2 n) := by
  simp [wl, h]
theorem wl_at' {w : WT} {n : Nat} (h : n < w.1) {e : va_E} (hg : w.2.2 n = e) : (wl w)[n]? = some (w.2.1 n, e) := by
  rw [wl_at h, hg]
theorem va_up_s {α : Type} {f : Nat → α} {k : Nat} {v : α} : va_up f k v k = v := by simp [va_up]
theorem va_up_n {α : Type} {f : Nat → α} {k j : Nat} {v : α} (h : j ≠ k) : va_up f k v j = f j := by simp [va_up, h]
theorem wl_set {N : Nat} {ad : Nat → Nat} {g : Nat → va_E} {n : Nat} {e : va_E} (h : n < N) : (wl (N, ad, g)).set n (ad n, e) = wl (N, ad, va_up g n e) := by
  apply List.ext_getElem?
  intro i
  by_cases hi : i = n
  · subst hi
    rw [List.getElem?_set_self (by simp [wl, h]), wl_at (w := (N, ad, va_up g i e)) h]
    simp [va_up]
  · rw [List.getElem?_set_ne (fun q => hi q.symm)]
    by_cases hN : i < N
    · rw [wl_at (w := (N, ad, g)) hN, wl_at (w := (N, ad, va_up g n e)) hN]
      simp [va_up, hi]
    · have h1 : ∀ g' : Nat → va_E, (wl (N, ad, g'))[i]? = none := fun g' => by simp [wl]; omega
      rw [h1, h1]
theorem wl_push {N : Nat} {ad : Nat → Nat} {g : Nat → va_E} {a : Nat} {e : va_E} : wl (N, ad, g) ++ [(a, e)] = wl (N + 1, va_up ad N a, va_up g N e) := by
  apply List.ext_getElem?
  intro i
  by_cases hN : i < N
  · rw [List.getElem?_append_left (by simp [wl, hN]), wl_at (w := (N, ad, g)) hN, wl_at (w := (N + 1, va_up ad N a, va_up g N e)) (show i < N + 1 by omega)]
    simp [va_up, Nat.ne_of_lt hN]
  · rw [List.getElem?_append_right (by simp [wl]; omega)]
    by_cases hE : i = N
    · subst hE
      rw [wl_at (w := (i + 1, va_up ad i a, va_up g i e)) (show i < i + 1 by omega)]
      simp [wl, va_up]
    · have h1 : (wl (N + 1, va_up ad N a, va_up g N e))[i]? = none := by simp [wl]; omega
      rw [h1]
      simp [wl]
      omega
abbrev tyl (cy : Nat → ClassId) : List (ClassId × FieldType) := [(cy 0, .int), (cy 1, .boolean), (cy 2, .object "TestsFromUse$Branch"), (cy 3, .object "TestsFromUse$MadeTest")]
/-- the words that do not go with the good ones -/
def NX (U : State) : Prop := NW U ∧ va_AO "TestsFromUse$Branch" U ∧ va_AO "TestsFromUse$MadeTest" U
theorem NX.warm {s U : State} (hW : s.WarmedH U.vm) (h : NX s) : NX U := ⟨h.1.warm hW, h.2.1.moved hW.alike, h.2.2.moved hW.alike⟩
/-- a method's context -/
def Cx (G : va_G) (cy : Nat → ClassId) (p : Program) (s : State) (m : MethodId) (args : Array Value) (c : Code) (cc : ByteArray) (nL : Nat) (own : String) (A : Nat → Prop) (H0 : Heap) : Prop :=
  CallFix p m c cc nL s args tg own ∧ va_K G vwCl (tyl cy) s ∧ NX s ∧ ∀ q, H0.size ≤ q → A q
/-- the world in a walk -/
def Wd (G : va_G) (A : Nat → Prop) (H0 : Heap) (w : WT) (H : Heap) (locs : List Loc) : Prop := va_P G vwCl (wl w) H ∧ va_D A (wl w) ∧ va_S A H0 H locs
/-- a class of the worlds, and what the tables say of it -/
def CO (ci : Nat) (C : String) (T : u_T) (NN : Nat) (ty0 : Nat → FieldType) : Prop := vwCl[ci]? = some (C, T, NN) ∧ (∀ w ∈ u_ws C T NN, w ∈ tg) ∧ (∀ k, k < NN → parseFieldDescriptor (T k).2.2.1 = some (ty0 k)) ∧ ∀ a, a < NN → ∀ b, b < NN → a ≠ b → (T a).2.1 ≠ (T b).2.1
theorem K0 : CO 0 RX0 TX0 8 tyX0 := ⟨rfl, inT0, tyX0_ok, nmX0⟩
theorem K1 : CO 1 RX1 TX1 3 tyX1 := ⟨rfl, inT1, tyX1_ok, nmX1⟩
theorem K2 : CO 2 RX2 TX2 2 tyX2 := ⟨rfl, inT2, tyX2_ok, nmX2⟩
theorem K3 : CO 3 RX3 TX3 4 tyX3 := ⟨rfl, inT3, tyX3_ok, nmX3⟩
theorem K4 : CO 4 RX4 TX4 5 tyX4 := ⟨rfl, inT4, tyX4_ok, nmX4⟩
theorem K5 : CO 5 RX5 TX5 3 tyX5 := ⟨rfl, inT5, tyX5_ok, nmX5⟩
theorem K6 : CO 6 RX6 TX6 3 tyX6 := ⟨rfl, inT6, tyX6_ok, nmX6⟩
theorem K7 : CO 7 RX7 TX7 3 tyX7 := ⟨rfl, inT7, tyX7_ok, nmX7⟩
theorem K8 : CO 8 RX8 TX8 5 tyX8 := ⟨rfl, inT8, tyX8_ok, nmX8⟩
theorem K9 : CO 9 RX9 TX9 22 tyX9 := ⟨rfl, inT9, tyX9_ok, nmX9⟩
section WR
variable {p : Program} {l : Launch} {e : Env} {R : Room} {s : State} {m : MethodId} {args : Array Value} {below : List Frame} {meth : Method} {c : Code} {H : Heap} {locs : List Loc} {cells slots : Nat} {Q : State → Prop}
variable {cc : ByteArray} {pc : Nat} {ls : Array Slot} {rest : List Value} {G : va_G} {cy : Nat → ClassId} {A : Nat → Prop} {H0 : Heap} {nL : Nat} {own : String} {N : Nat} {ad : Nat → Nat} {g : Nat → va_E} {n : Nat}
theorem Cx.hx (X : Cx G cy p s m args c cc nL own A H0) : p.tables.exec = Jvm.exec := X.1.1
theorem Cx.hb (X : Cx G cy p s m args c cc nL own A H0) : c.code = cc := X.1.2.1
theorem Cx.ht (X : Cx G cy p s m args c cc nL own A H0) {w : Cond} (h : w ∈ tg) : w.before args s = true := X.1.2.2.2.2 w h
/-- getfield -/
theorem w_get (X : Cx G cy p s m args c cc nL own A H0) (hW : Wd G A H0 (N, ad, g) H locs) {ci : Nat} {C : String} {T : u_T} {NN : Nat} {ty0 : Nat → FieldType} (KC : CO ci C T NN ty0) (hn : n < N) {fs : List Value} (hg : g n = .inr (ci, fs)) (k : Nat) (hk : k < NN) {index : Nat} (hlink : Cond.fieldLink own index (T k).1 (T k).2.1 (T k).2.2.1 ∈ tg) {v : Value} (hv : fs[k]? = some v) (hdg : decode cc pc = .ok (.getfield index, 3))
    (kk : W p l e R s m args below meth c H locs cells slots Q (F0 m (pc + 3) ls (v :: rest))) : W p l e R s m args below meth c H locs cells slots Q (F0 m pc ls (.ref (ad n) :: rest)) :=
  va_get X.hx X.hb X.1.2.2.2.2 KC.2.1 X.1.2.2.2.1 X.2.1 hW.1 n (wl_at' (w := (N, ad, g)) hn hg) KC.1 k hk (X.ht hlink) (fun _ h9 => h9) hv hdg kk
theorem w_getN (X : Cx G cy p s m args c cc nL own A H0) (hW : Wd G A H0 (N, ad, g) H locs) {ci : Nat} {C : String} {T : u_T} {NN : Nat} {ty0 : Nat → FieldType} (KC : CO ci C T NN ty0) (hn : n < N) {fs : List Value} (hg : g n = .inr (ci, fs)) (k : Nat) (hk : k < NN) {index : Nat} {host : String} (hlink : ((own, index, (T k).1, (T k).2.1, (T k).2.2.1, host) : nfT) ∈ nfl) {v : Value} (hv : fs[k]? = some v) (hdg : decode cc pc = .ok (.getfield index, 3))
    (kk : W p l e R s m args below meth c H locs cells slots Q (F0 m (pc + 3) ls (v :: rest))) : W p l e R s m args below meth c H locs cells slots Q (F0 m pc ls (.ref (ad n) :: rest)) :=
  va_getN (host := host) X.hx X.hb X.1.2.2.2.2 KC.2.1 X.1.2.2.2.1 X.2.1 hW.1 n (wl_at' (w := (N, ad, g)) hn hg) KC.1 k hk (va_Nw.use rfl (X.2.2.1.1.2 _ hlink)) (fun _ h9 => h9) hv hdg kk
theorem Wd.set (hn : n < N) {e : va_E} {locs1 : List Loc} {H1 : Heap} (h1 : va_P G vwCl ((wl (N, ad, g)).set n (ad n, e)) H1) (h2 : va_D A ((wl (N, ad, g)).set n (ad n, e))) (h3 : va_S A H0 H1 locs1) : Wd G A H0 (N, ad, va_up g n e) H1 locs1 := by
  rw [wl_set hn] at h1 h2
  exact ⟨h1, h2, h3⟩
/-- putfield -/
theorem w_put (X : Cx G cy p s m args c cc nL own A H0) (hW : Wd G A H0 (N, ad, g) H locs) {ci : Nat} {C : String} {T : u_T} {NN : Nat} {ty0 : Nat → FieldType} (KC : CO ci C T NN ty0) (hn : n < N) {fs : List Value} (hg : g n = .inr (ci, fs)) (k : Nat) (hk : k < NN) {index : Nat} (hlink : Cond.fieldLink own index (T k).1 (T k).2.1 (T k).2.2.1 ∈ tg) (hfin : (T k).2.2.2 = false) {v : Value} (hnr : narrow (ty0 k) v = v) (hfit : fits (ty0 k) v = true) (hl : k < fs.length) (hdg : decode cc pc = .ok (.putfield index, 3))
    (kk : ∀ (H1 : Heap) (locs1 : List Loc), Wd G A H0 (N, ad, va_up g n (.inr (ci, fs.set k v))) H1 locs1 → W p l e R s m args below meth c H1 locs1 cells slots Q (F0 m (pc + 3) ls rest)) : W p l e R s m args below meth c H locs cells slots Q (F0 m pc ls (v :: .ref (ad n) :: rest)) :=
  va_put X.hx X.hb X.1.2.2.2.2 KC.2.1 ty0 KC.2.2.1 KC.2.2.2 X.1.2.2.2.1 X.2.1 hW.1 hW.2.1 hW.2.2 n (wl_at' (w := (N, ad, g)) hn hg) KC.1 k hk (X.ht hlink) (fun _ h9 => h9) hfin (KC.2.2.1 k hk) hnr hfit hl hdg (fun H1 locs1 h1 h2 h3 => kk H1 locs1 (Wd.set hn h1 h2 h3))
theorem w_putN (X : Cx G cy p s m args c cc nL own A H0) (hW : Wd G A H0 (N, ad, g) H locs) {ci : Nat} {C : String} {T : u_T} {NN : Nat} {ty0 : Nat → FieldType} (KC : CO ci C T NN ty0) (hn : n < N) {fs : List Value} (hg : g n = .inr (ci, fs)) (k : Nat) (hk : k < NN) {index : Nat} {host : String} (hlink : ((own, index, (T k).1, (T k).2.1, (T k).2.2.1, host) : nfT) ∈ nfl) (hfin : (T k).2.2.2 = false) {v : Value} (hnr : narrow (ty0 k) v = v) (hfit : fits (ty0 k) v = true) (hl : k < fs.length) (hdg : decode cc pc = .ok (.putfield index, 3))
    (kk : ∀ (H1 : Heap) (locs1 : List Loc), Wd G A H0 (N, ad, va_up g n (.inr (ci, fs.set k v))) H1 locs1 → W p l e R s m args below meth c H1 locs1 cells slots Q (F0 m (pc + 3) ls rest)) : W p l e R s m args below meth c H locs cells slots Q (F0 m pc ls (v :: .ref (ad n) :: rest)) :=
  va_putN (host := host) X.hx X.hb X.1.2.2.2.2 KC.2.1 ty0 KC.2.2.1 KC.2.2.2 X.1.2.2.2.1 X.2.1 hW.1 hW.2.1 hW.2.2 n (wl_at' (w := (N, ad, g)) hn hg) KC.1 k hk (va_Nw.use rfl (X.2.2.1.1.2 _ hlink)) (fun _ h9 => h9) hfin (KC.2.2.1 k hk) hnr hfit hl hdg (fun H1 locs1 h1 h2 h3 => kk H1 locs1 (Wd.set hn h1 h2 h3))
theorem w_putF (X : Cx G cy p s m args c cc nL own A H0) (hW : Wd G A H0 (N, ad, g) H locs) {ci : Nat} {C : String} {T : u_T} {NN : Nat} {ty0 : Nat → FieldType} (KC : CO ci C T NN ty0) (hn : n < N) {fs : List Value} (hg : g n = .inr (ci, fs)) (k : Nat) (hk : k < NN) {index : Nat} (hlink : Cond.fieldLink own index (T k).1 (T k).2.1 (T k).2.2.1 ∈ tg) (hfin : (T k).2.2.2 = true) (hin2 : meth.name = "<init>") (hdecl : (T k).1 = own) {v : Value} (hnr : narrow (ty0 k) v = v) (hfit : fits (ty0 k) v = true) (hl : k < fs.length) (hdg : decode cc pc = .ok (.putfield index, 3))
    (kk : ∀ (H1 : Heap) (locs1 : List Loc), Wd G A H0 (N, ad, va_up g n (.inr (ci, fs.set k v))) H1 locs1 → W p l e R s m args below meth c H1 locs1 cells slots Q (F0 m (pc + 3) ls rest)) : W p l e R s m args below meth c H locs cells slots Q (F0 m pc ls (v :: .ref (ad n) :: rest)) :=
  va_putF X.hx X.hb X.1.2.2.2.2 KC.2.1 ty0 KC.2.2.1 KC.2.2.2 X.1.2.2.2.1 X.2.1 hW.1 hW.2.1 hW.2.2 n (wl_at' (w := (N, ad, g)) hn hg) KC.1 k hk (X.ht hlink) (fun _ h9 => h9) hfin hin2 hdecl (KC.2.2.1 k hk) hnr hfit hl hdg (fun H1 locs1 h1 h2 h3 => kk H1 locs1 (Wd.set hn h1 h2 h3))
theorem vin {i : Int32} {j len : Nat} (hi : i = nI j) (hj : j < len) (hL : len ≤ 4096) : vp_in i len ∧ i.toNatClampNeg = j := by
  subst hi
  exact ⟨vp_in_nI hj (by omega), nI_clamp (by omega)⟩
/-- iaload at place j -/
theorem w_ild (X : Cx G cy p s m args c cc nL own A H0) (hW : Wd G A H0 (N, ad, g) H locs) (hn : n < N) {len : Nat} {f : Nat → Int32} (hg : g n = .inl (cy 0, len, .inl f)) (j : Nat) {i : Int32} (hi : i = nI j) (hj : j < len) (hL : len ≤ 4096) (hdg : decode cc pc = .ok (.iaload, 1))
    (kk : W p l e R s m args below meth c H locs cells slots Q (F0 m (pc + 1) ls (.int (f j) :: rest))) : W p l e R s m args below meth c H locs cells slots Q (F0 m pc ls (.int i :: .ref (ad n) :: rest)) := by
  obtain ⟨h1, h2⟩ := vin hi hj hL
  refine va_iald X.hx X.hb X.2.1 hW.1 n 0 (wl_at' (w := (N, ad, g)) hn hg) rfl h1 hdg ?_
  rw [h2]
  exact kk
theorem w_zld (X : Cx G cy p s m args c cc nL own A H0) (hW : Wd G A H0 (N, ad, g) H locs) (hn : n < N) {len : Nat} {f : Nat → Int32} (hg : g n = .inl (cy 1, len, .inl f)) (j : Nat) {i : Int32} (hi : i = nI j) (hj : j < len) (hL : len ≤ 4096) (hdg : decode cc pc = .ok (.baload, 1))
    (kk : W p l e R s m args below meth c H locs cells slots Q (F0 m (pc + 1) ls (.int (f j) :: rest))) : W p l e R s m args below meth c H locs cells slots Q (F0 m pc ls (.int i :: .ref (ad n) :: rest)) := by
  obtain ⟨h1, h2⟩ := vin hi hj hL
  refine va_zald X.hx X.hb X.2.1 hW.1 n 1 (wl_at' (w := (N, ad, g)) hn hg) rfl h1 hdg ?_
  rw [h2]
  exact kk
theorem w_ald (X : Cx G cy p s m args c cc nL own A H0) (hW : Wd G A H0 (N, ad, g) H locs) (hn : n < N) {len t : Nat} {f : Nat → Option Nat} {C : String} (ht : (tyl cy)[t]? = some (cy t, .object C)) (hg : g n = .inl (cy t, len, .inr (.inr (.inr (.inr f))))) (j : Nat) {i : Int32} (hi : i = nI j) (hj : j < len) (hL : len ≤ 4096) (hdg : decode cc pc = .ok (.aaload, 1))
    (kk : W p l e R s m args below meth c H locs cells slots Q (F0 m (pc + 1) ls (va_rf (f j) :: rest))) : W p l e R s m args below meth c H locs cells slots Q (F0 m pc ls (.int i :: .ref (ad n) :: rest)) := by
  obtain ⟨h1, h2⟩ := vin hi hj hL
  refine va_aldq X.hx X.hb X.2.1 hW.1 n t (wl_at' (w := (N, ad, g)) hn hg) ht h1 hdg ?_
  rw [h2]
  exact kk
theorem w_ist (X : Cx G cy p s m args c cc nL own A H0) (hW : Wd G A H0 (N, ad, g) H locs) (hn : n < N) {len : Nat} {f : Nat → Int32} (hg : g n = .inl (cy 0, len, .inl f)) (j : Nat) {i x : Int32} (hi : i = nI j) (hj : j < len) (hL : len ≤ 4096) (hdg : decode cc pc = .ok (.iastore, 1))
    (kk : ∀ (H1 : Heap) (locs1 : List Loc), Wd G A H0 (N, ad, va_up g n (.inl (cy 0, len, .inl (upd f j x)))) H1 locs1 → W p l e R s m args below meth c H1 locs1 cells slots Q (F0 m (pc + 1) ls rest)) : W p l e R s m args below meth c H locs cells slots Q (F0 m pc ls (.int x :: .int i :: .ref (ad n) :: rest)) := by
  obtain ⟨h1, h2⟩ := vin hi hj hL
  refine va_iast X.hx X.hb X.2.1 hW.1 hW.2.1 hW.2.2 n 0 (wl_at' (w := (N, ad, g)) hn hg) rfl h1 hdg (fun H1 locs1 q1 q2 q3 => ?_)
  rw [h2] at q1 q2
  exact kk H1 locs1 (Wd.set hn q1 q2 q3)
theorem w_zst (X : Cx G cy p s m args c cc nL own A H0) (hW : Wd G A H0 (N, ad, g) H locs) (hn : n < N) {len : Nat} {f : Nat → Int32} (hg : g n = .inl (cy 1, len, .inl f)) (j : Nat) {i x : Int32} (hi : i = nI j) (hj : j < len) (hL : len ≤ 4096) (hx01 : x = 0 ∨ x = 1) (hdg : decode cc pc = .ok (.bastore, 1))
    (kk : ∀ (H1 : Heap) (locs1 : List Loc), Wd G A H0 (N, ad, va_up g n (.inl (cy 1, len, .inl (upd f j x)))) H1 locs1 → W p l e R s m args below meth c H1 locs1 cells slots Q (F0 m (pc + 1) ls rest)) : W p l e R s m args below meth c H locs cells slots Q (F0 m pc ls (.int x :: .int i :: .ref (ad n) :: rest)) := by
  obtain ⟨h1, h2⟩ := vin hi hj hL
  have h3 : vp_nar .boolean x = x := by rcases hx01 with rfl | rfl <;> decide
  refine va_zast X.hx X.hb X.2.1 hW.1 hW.2.1 hW.2.2 n 1 (wl_at' (w := (N, ad, g)) hn hg) rfl h1 hdg (fun H1 locs1 q1 q2 q3 => ?_)
  rw [h2, h3] at q1 q2
  exact kk H1 locs1 (Wd.set hn q1 q2 q3)
theorem w_ast (X : Cx G cy p s m args c cc nL own A H0) (hW : Wd G A H0 (N, ad, g) H locs) (hn : n < N) {len t ci v : Nat} {f : Nat → Option Nat} {q : vw_C} {vs : List Value} (ht : (tyl cy)[t]? = some (cy t, .object q.1)) (hg : g n = .inl (cy t, len, .inr (.inr (.inr (.inr f))))) (hvn : v < N) (hv : g v = .inr (ci, vs)) (hc : vwCl[ci]? = some q) (j : Nat) {i : Int32} (hi : i = nI j) (hj : j < len) (hL : len ≤ 4096) (hdg : decode cc pc = .ok (.aastore, 1))
    (kk : ∀ (H1 : Heap) (locs1 : List Loc), Wd G A H0 (N, ad, va_up g n (.inl (cy t, len, .inr (.inr (.inr (.inr (va_up f j (some (ad v))))))))) H1 locs1 → W p l e R s m args below meth c H1 locs1 cells slots Q (F0 m (pc + 1) ls rest)) : W p l e R s m args below meth c H locs cells slots Q (F0 m pc ls (.ref (ad v) :: .int i :: .ref (ad n) :: rest)) := by
  obtain ⟨h1, h2⟩ := vin hi hj hL
  refine va_astq X.hx X.hb X.2.1 hW.1 hW.2.1 hW.2.2 n t v ci (wl_at' (w := (N, ad, g)) hn hg) ht (wl_at' (w := (N, ad, g)) hvn hv) hc h1 hdg (fun H1 locs1 q1 q2 q3 => ?_)
  rw [h2] at q1 q2
  exact kk H1 locs1 (Wd.set hn q1 q2 q3)
/-- new -/
theorem w_new (X : Cx G cy p s m args c cc nL own A H0) (hW : Wd G A H0 (N, ad, g) H locs) {ci : Nat} {C : String} {T : u_T} {NN : Nat} {ty0 : Nat → FieldType} (KC : CO ci C T NN ty0) {index : Nat} (hcl : Cond.classLink own index C ∈ tg) (hinst : Cond.instantiable C NN ∈ tg) (hini : Cond.initialized C ∈ tg) {fs : List Value} (hfs : ∀ j, j < NN → defaultValue (ty0 j) = vp_V fs j) (hcells : cells + 1 ≤ R.cells) (hslots : slots + NN ≤ R.slots) (hdg : decode cc pc = .ok (.new index, 3))
    (kk : ∀ (q : Nat) (H1 : Heap), Wd G A H0 (N + 1, va_up ad N q, va_up g N (.inr (ci, fs))) H1 locs → W p l e R s m args below meth c H1 locs (cells + 1) (slots + NN) Q (F0 m (pc + 3) ls (.ref q :: rest))) : W p l e R s m args below meth c H locs cells slots Q (F0 m pc ls rest) :=
  va_new X.hx X.hb X.1.2.2.2.2 KC.2.1 ty0 KC.2.2.1 X.1.2.2.2.1 (X.ht hcl) (X.ht hinst) (X.ht hini) X.2.1 hW.1 hW.2.1 hW.2.2 X.2.2.2 KC.1 hfs hcells hslots hdg (fun q H1 h1 h2 h3 => kk q H1 ⟨by rw [← wl_push]; exact h1, by rw [← wl_push]; exact h2, h3⟩)
theorem cy_eq {ty : FieldType} {cA cB : ClassId} {tys : List (ClassId × FieldType)} (hK : va_K G vwCl tys s) {i j : Nat} (hi : tys[i]? = some (cA, ty)) (hj : tys[j]? = some (cB, ty)) : cA = cB := by
  have h1 := (hK.2 i _ hi).2
  have h2 := (hK.2 j _ hj).2
  cases ty <;> first | exact Option.some.inj (h1.symm.trans h2) | (obtain ⟨_, _, _, _, _, a⟩ := h1; obtain ⟨_, _, _, _, _, b⟩ := h2; exact Option.some.inj (a.symm.trans b))
theorem w_newi (X : Cx G cy p s m args c cc nL own A H0) (hW : Wd G A H0 (N, ad, g) H locs) {k : Int32} {len : Nat} (hn : ¬ k < 0) (hN : k.toNatClampNeg = len) (hL : len ≤ 4096) (hcells : cells + 1 ≤ R.cells) (hslots : slots + len ≤ R.slots) (hdg : decode cc pc = .ok (.newarray .int, 2))
    (kk : ∀ (q : Nat) (H1 : Heap), Wd G A H0 (N + 1, va_up ad N q, va_up g N (.inl (cy 0, len, .inl (fun _ => 0)))) H1 locs → W p l e R s m args below meth c H1 locs (cells + 1) (slots + len) Q (F0 m (pc + 2) ls (.ref q :: rest))) : W p l e R s m args below meth c H locs cells slots Q (F0 m pc ls (.int k :: rest)) := by
  refine va_newa (atype := .int) (ty := .int) (a0 := (len, .inl (fun _ => 0))) X.hx X.hb (X.ht ac_int) rfl X.2.1 hW.1 hW.2.1 hW.2.2 X.2.2.2 (fun cA => rfl) hn hN (by show len * 4 ≤ _; omega) hcells hslots hdg (fun q cA H1 hK h1 h2 h3 => ?_)
  have hcA : cA = cy 0 := cy_eq hK (i := 4) (j := 0) rfl rfl
  subst hcA
  exact kk q H1 ⟨by rw [← wl_push]; exact h1, by rw [← wl_push]; exact h2, h3⟩
theorem w_newz (X : Cx G cy p s m args c cc nL own A H0) (hW : Wd G A H0 (N, ad, g) H locs) {k : Int32} {len : Nat} (hn : ¬ k < 0) (hN : k.toNatClampNeg = len) (hL : len ≤ 4096) (hcells : cells + 1 ≤ R.cells) (hslots : slots + len ≤ R.slots) (hdg : decode cc pc = .ok (.newarray .boolean, 2))
    (kk : ∀ (q : Nat) (H1 : Heap), Wd G A H0 (N + 1, va_up ad N q, va_up g N (.inl (cy 1, len, .inl (fun _ => 0)))) H1 locs → W p l e R s m args below meth c H1 locs (cells + 1) (slots + len) Q (F0 m (pc + 2) ls (.ref q :: rest))) : W p l e R s m args below meth c H locs cells slots Q (F0 m pc ls (.int k :: rest)) := by
  refine va_newa (atype := .boolean) (ty := .boolean) (a0 := (len, .inl (fun _ => 0))) X.hx X.hb (X.ht ac_boolean) rfl X.2.1 hW.1 hW.2.1 hW.2.2 X.2.2.2 (fun cA => rfl) hn hN (by show len * 1 ≤ _; omega) hcells hslots hdg (fun q cA H1 hK h1 h2 h3 => ?_)
  have hcA : cA = cy 1 := cy_eq hK (i := 4) (j := 1) rfl rfl
  subst hcA
  exact kk q H1 ⟨by rw [← wl_push]; exact h1, by rw [← wl_push]; exact h2, h3⟩
theorem w_newq (X : Cx G cy p s m args c cc nL own A H0) (hW : Wd G A H0 (N, ad, g) H locs) {k : Int32} {len t index : Nat} {C : String} (ht : (tyl cy)[t]? = some (cy t, .object C)) (hcl : Cond.classLink own index C ∈ tg) (hao : va_AO C s) (hn : ¬ k < 0) (hN : k.toNatClampNeg = len) (hL : len ≤ 4096) (hcells : cells + 1 ≤ R.cells) (hslots : slots + len ≤ R.slots) (hdg : decode cc pc = .ok (.anewarray index, 3))
    (kk : ∀ (q : Nat) (H1 : Heap), Wd G A H0 (N + 1, va_up ad N q, va_up g N (.inl (cy t, len, .inr (.inr (.inr (.inr (fun _ => none))))))) H1 locs → W p l e R s m args below meth c H1 locs (cells + 1) (slots + len) Q (F0 m (pc + 3) ls (.ref q :: rest))) : W p l e R s m args below meth c H locs cells slots Q (F0 m pc ls (.int k :: rest)) := by
  refine va_newq X.hx X.hb X.1.2.2.2.1 (X.ht hcl) hao X.2.1 hW.1 hW.2.1 hW.2.2 X.2.2.2 hn hN (by omega) hcells hslots hdg (fun q cA H1 hK h1 h2 h3 => ?_)
  have hlt : t < 4 := (List.getElem?_eq_some_iff.mp ht).1
  have hcA : cA = cy t := cy_eq hK (i := 4) (j := t) rfl (by rw [List.getElem?_append_left hlt]; exact ht)
  subst hcA
  exact kk q H1 ⟨by rw [← wl_push]; exact h1, by rw [← wl_push]; exact h2, h3⟩
end WR
/-! contracts -/
def Pre0 (G : va_G) (cy : Nat → ClassId) (w : WT) (sz : Nat) (U : State) : Prop := U.heap.size = sz ∧ va_P G vwCl (wl w) U.heap ∧ va_K G vwCl (tyl cy) U ∧ va_D (fun _ => True) (wl w) ∧ NX U
def Pst (G : va_G) (cy : Nat → ClassId) (w : WT) (sz : Nat) (u : WT) (t : State) : Prop := va_P G vwCl (wl u) t.heap ∧ va_K G vwCl (tyl cy) t ∧ va_D (va_A (wl w) sz) (wl u)
def MI (l : Launch) (G : va_G) (cy : Nat → ClassId) (w : WT) (y : MethodName) (cc : ByteArray) (nL : Nat) (ret : Option FieldType) (rm : Room) (As : List Value) (post : Int32 → WT → Prop) : Prop :=
  ∀ sz : Nat, Met l y (.code y cc nL ret :: tg) rm (va_Pc As (Pre0 G cy w sz)) (va_Qi post (Pst G cy w sz) (va_A (wl w) sz)) rm.cells rm.slots (va_A (wl w) sz)
def MV (l : Launch) (G : va_G) (cy : Nat → ClassId) (w : WT) (y : MethodName) (cc : ByteArray) (nL : Nat) (ret : Option FieldType) (rm : Room) (As : List Value) (post : WT → Prop) : Prop :=
  ∀ sz : Nat, Met l y (.code y cc nL ret :: tg) rm (va_Pc As (Pre0 G cy w sz)) (va_Qv post (Pst G cy w sz) (va_A (wl w) sz)) rm.cells rm.slots (va_A (wl w) sz)
def MR (l : Launch) (G : va_G) (cy : Nat → ClassId) (w : WT) (y : MethodName) (cc : ByteArray) (nL : Nat) (ret : Option FieldType) (rm : Room) (As : List Value) (post : Option Nat → WT → Prop) : Prop :=
  ∀ sz : Nat, Met l y (.code y cc nL ret :: tg) rm (va_Pc As (Pre0 G cy w sz)) (va_Qq post (Pst G cy w sz) (va_A (wl w) sz)) rm.cells rm.slots (va_A (wl w) sz)
/-- a post that speaks of a world with the same cells -/
def nA {α : Type} (N : Nat) (ad : Nat → Nat) (P : α → (Nat → va_E) → Prop) : α → WT → Prop := fun r u => u.1 = N ∧ u.2.1 = ad ∧ P r u.2.2
def nV (N : Nat) (ad : Nat → Nat) (P : (Nat → va_E) → Prop) : WT → Prop := fun u => u.1 = N ∧ u.2.1 = ad ∧ P u.2.2
abbrev rmN (d : Nat) : Room := { frames := d, cells := 0, slots := 0, locals := 30 * d }
abbrev rmA (d k n : Nat) : Room := { frames := d, cells := k, slots := n, locals := 30 * d }
theorem blind {G : va_G} {cy : Nat → ClassId} {w : WT} {sz : Nat} {As : List Value} : FrameBlind (va_Pc As (Pre0 G cy w sz)) := fun a U g mk q => by
  obtain ⟨q0, q1, qP, qK, qD, qN⟩ := q
  exact ⟨q0, q1, qP, va_K.moved (u := U) (U := U.calling g mk a) (Vm.Alike.refl U.vm) qK, qD, ⟨qN.1.same (U := U.calling g mk a) rfl, qN.2.1.moved (U := U.calling g mk a) (Vm.Alike.refl U.vm), qN.2.2.moved (U := U.calling g mk a) (Vm.Alike.refl U.vm)⟩⟩
section WC
variable {p : Program} {l : Launch} {e : Env} {R : Room} {s : State} {m : MethodId} {args : Array Value} {below : List Frame} {meth : Method} {c : Code} {H : Heap} {locs : List Loc} {cells slots : Nat} {Q : State → Prop}
variable {cc : ByteArray} {pc : Nat} {ls : Array Slot} {rest st0 : List Value} {G : va_G} {cy : Nat → ClassId} {A : Nat → Prop} {H0 : Heap} {nL : Nat} {own : String} {w : WT} {n : Nat}
variable {y : MethodName} {cc' : ByteArray} {nL' idx : Nat} {ret : Option FieldType} {rm : Room} {As : List Value}
theorem pre_of (X : Cx G cy p s m args c cc nL own A H0) (hW : Wd G A H0 w H locs) {U : State} (hU : U.heap = H) (hwm : s.WarmedH U.vm) : Pre0 G cy w H.size U :=
  ⟨by rw [hU], by rw [hU]; exact hW.1, X.2.1.moved hwm.alike, hW.2.1.weaken (fun _ _ _ _ => trivial), X.2.2.1.warm hwm⟩
theorem free_of (X : Cx G cy p s m args c cc nL own A H0) (hW : Wd G A H0 w H locs) : ∀ q, va_A (wl w) H.size q → A q := by
  intro q h
  rcases h with ⟨k, e, hk⟩ | h
  · exact hW.2.1.2 k _ hk
  · exact X.2.2.2 q (Nat.le_trans hW.2.2.1 h)
theorem wd_of (X : Cx G cy p s m args c cc nL own A H0) (hW : Wd G A H0 w H locs) {u : WT} {t : State} {H1 : Heap} {locs1 : List Loc} (ht : t.heap = H1) (hB : Pst G cy w H.size u t) (hS : va_S A H0 H1 locs1) : Wd G A H0 u H1 locs1 := by
  obtain ⟨h1, -, h3⟩ := hB
  rw [ht] at h1
  exact ⟨h1, h3.weaken (fun k q _ h => free_of X hW q.1 h), hS⟩
/-- what the tables say of a method that is called on an object -/
def MthV (y : MethodName) (cc : ByteArray) (nL : Nat) (ret : Option FieldType) (k : Nat) : Prop := Cond.instanceMethod y ∈ tg ∧ Cond.selects y.cls y y ∈ tg ∧ Cond.initialized y.cls ∈ tg ∧ Cond.code y cc nL ret ∈ tg ∧ y.cls ≠ "java/lang/invoke/MethodHandle" ∧ y.cls ≠ "java/lang/invoke/VarHandle" ∧ (parseMethodDescriptor y.desc).map (fun d => d.parameters.length) = some k
def MthS (y : MethodName) (cc : ByteArray) (nL : Nat) (ret : Option FieldType) (k : Nat) : Prop := Cond.static y ∈ tg ∧ Cond.initialized y.cls ∈ tg ∧ Cond.code y cc nL ret ∈ tg ∧ y.cls ≠ "java/lang/invoke/MethodHandle" ∧ y.cls ≠ "java/lang/invoke/VarHandle" ∧ (parseMethodDescriptor y.desc).map (fun d => d.parameters.length) = some k
def MthI (y : MethodName) (cc : ByteArray) (nL : Nat) (k : Nat) : Prop := Cond.instanceMethod y ∈ tg ∧ Cond.initialized y.cls ∈ tg ∧ Cond.code y cc nL none ∈ tg ∧ y.cls ≠ "java/lang/invoke/MethodHandle" ∧ y.cls ≠ "java/lang/invoke/VarHandle" ∧ y.name = "<init>" ∧ (parseMethodDescriptor y.desc).map (fun d => d.parameters.length) = some k
theorem gw (h : Cond.code y cc' nL' ret ∈ tg) : GoodIn tg (.code y cc' nL' ret :: tg) := fun w hw => by
  rcases List.mem_cons.mp hw with rfl | hw
  · exact tg_good _ h
  · exact tg_good _ hw
theorem runV (X : Cx G cy p s m args c cc nL own A H0) (hW : Wd G A H0 w H locs) {Qc : Array Value → State → Outcome → State → Prop} {free : Addr → Prop} (hM : Met l y (.code y cc' nL' ret :: tg) rm (va_Pc (.ref (w.2.1 n) :: As) (Pre0 G cy w H.size)) Qc rm.cells rm.slots free) (hn : n < w.1) {ci : Nat} {fs : List Value} (hg : w.2.2 n = .inr (ci, fs)) {q : vw_C} (hc : vwCl[ci]? = some q) (hq : q.1 = y.cls) (hl : Cond.methodLink own idx y ∈ tg) (hm : MthV y cc' nL' ret As.length)
    (hR : rm.frames + 1 ≤ R.frames ∧ 8 + (nL' + 11) + rm.locals ≤ R.locals) (hls : ls.size = nL) (hst : st0 = As.reverse ++ .ref (w.2.1 n) :: rest) (hcat : (rest.map fun v => v.category).sum ≤ 8) (hdg : decode cc pc = .ok (.invokevirtual idx, 3)) (hf : cells + rm.cells ≤ R.cells ∧ slots + rm.slots ≤ R.slots) :
    va_Run p l e R s m args below meth c H locs cells slots rm.cells rm.slots (F0 m pc ls st0) rest (Qc (Value.ref (w.2.1 n) :: As).toArray) free := by
  obtain ⟨m1, m2, m3, m4, m5, m6, m7⟩ := hm
  refine va_runV (C := y.cls) (n := As.length) (bytes := cc') (maxL := nL') (ret := ret) (index := idx) X.1 hM ⟨callB_of As.length X.1.2.2.2.2 (gw m4) rfl rfl rfl (X.ht m3) (X.ht hl) ⟨m5, m6, m7⟩ hR, X.ht m1, X.ht m2⟩ ⟨blind, ?_, fun U hU hwm => ⟨rfl, pre_of X hW hU hwm⟩⟩ rfl rfl hls hst (lv_room hcat) hdg hf
  obtain ⟨cell, c1, c2, c3⟩ := va_recv X.2.1 hW.1 hc (wl_at' hn hg)
  exact ⟨cell, c1, c2, by rw [← hq]; exact c3⟩
theorem w_cVi (X : Cx G cy p s m args c cc nL own A H0) (hW : Wd G A H0 w H locs) {post : Int32 → WT → Prop} (hM : MI l G cy w y cc' nL' ret rm (.ref (w.2.1 n) :: As) post) (hn : n < w.1) {ci : Nat} {fs : List Value} (hg : w.2.2 n = .inr (ci, fs)) {q : vw_C} (hc : vwCl[ci]? = some q) (hq : q.1 = y.cls) (hl : Cond.methodLink own idx y ∈ tg) (hm : MthV y cc' nL' ret As.length)
    (hR : rm.frames + 1 ≤ R.frames ∧ 8 + (nL' + 11) + rm.locals ≤ R.locals) (hls : ls.size = nL) (hst : st0 = As.reverse ++ .ref (w.2.1 n) :: rest) (hcat : (rest.map fun v => v.category).sum ≤ 8) (hdg : decode cc pc = .ok (.invokevirtual idx, 3)) (hf : cells + rm.cells ≤ R.cells ∧ slots + rm.slots ≤ R.slots)
    (kk : ∀ (r : Int32) (u : WT) (H1 : Heap) (locs1 : List Loc), post r u → Wd G A H0 u H1 locs1 → W p l e R s m args below meth c H1 locs1 (cells + rm.cells) (slots + rm.slots) Q (F0 m (pc + 3) ls (.int r :: rest))) : W p l e R s m args below meth c H locs cells slots Q (F0 m pc ls st0) :=
  va_calli (runV X hW (hM H.size) hn hg hc hq hl hm hR hls hst hcat hdg hf) hW.2.2 (fun q _ h => free_of X hW q h) (free_of X hW) (fun r u t H1 locs1 ht hvm hw hB hz1 hk1 hS => kk r u H1 locs1 hw (wd_of X hW ht hB hS))
theorem w_cVv (X : Cx G cy p s m args c cc nL own A H0) (hW : Wd G A H0 w H locs) {post : WT → Prop} (hM : MV l G cy w y cc' nL' ret rm (.ref (w.2.1 n) :: As) post) (hn : n < w.1) {ci : Nat} {fs : List Value} (hg : w.2.2 n = .inr (ci, fs)) {q : vw_C} (hc : vwCl[ci]? = some q) (hq : q.1 = y.cls) (hl : Cond.methodLink own idx y ∈ tg) (hm : MthV y cc' nL' ret As.length)
    (hR : rm.frames + 1 ≤ R.frames ∧ 8 + (nL' + 11) + rm.locals ≤ R.locals) (hls : ls.size = nL) (hst : st0 = As.reverse ++ .ref (w.2.1 n) :: rest) (hcat : (rest.map fun v => v.category).sum ≤ 8) (hdg : decode cc pc = .ok (.invokevirtual idx, 3)) (hf : cells + rm.cells ≤ R.cells ∧ slots + rm.slots ≤ R.slots)
    (kk : ∀ (u : WT) (H1 : Heap) (locs1 : List Loc), post u → Wd G A H0 u H1 locs1 → W p l e R s m args below meth c H1 locs1 (cells + rm.cells) (slots + rm.slots) Q (F0 m (pc + 3) ls rest)) : W p l e R s m args below meth c H locs cells slots Q (F0 m pc ls st0) :=
  va_callv (runV X hW (hM H.size) hn hg hc hq hl hm hR hls hst hcat hdg hf) hW.2.2 (fun q _ h => free_of X hW q h) (free_of X hW) (fun u t H1 locs1 ht hvm hw hB hz1 hk1 hS => kk u H1 locs1 hw (wd_of X hW ht hB hS))
theorem w_cVr (X : Cx G cy p s m args c cc nL own A H0) (hW : Wd G A H0 w H locs) {post : Option Nat → WT → Prop} (hM : MR l G cy w y cc' nL' ret rm (.ref (w.2.1 n) :: As) post) (hn : n < w.1) {ci : Nat} {fs : List Value} (hg : w.2.2 n = .inr (ci, fs)) {q : vw_C} (hc : vwCl[ci]? = some q) (hq : q.1 = y.cls) (hl : Cond.methodLink own idx y ∈ tg) (hm : MthV y cc' nL' ret As.length)
    (hR : rm.frames + 1 ≤ R.frames ∧ 8 + (nL' + 11) + rm.locals ≤ R.locals) (hls : ls.size = nL) (hst : st0 = As.reverse ++ .ref (w.2.1 n) :: rest) (hcat : (rest.map fun v => v.category).sum ≤ 8) (hdg : decode cc pc = .ok (.invokevirtual idx, 3)) (hf : cells + rm.cells ≤ R.cells ∧ slots + rm.slots ≤ R.slots)
    (kk : ∀ (r : Option Nat) (u : WT) (H1 : Heap) (locs1 : List Loc), post r u → Wd G A H0 u H1 locs1 → W p l e R s m args below meth c H1 locs1 (cells + rm.cells) (slots + rm.slots) Q (F0 m (pc + 3) ls (va_rf r :: rest))) : W p l e R s m args below meth c H locs cells slots Q (F0 m pc ls st0) :=
  va_callq (runV X hW (hM H.size) hn hg hc hq hl hm hR hls hst hcat hdg hf) hW.2.2 (fun q _ h => free_of X hW q h) (free_of X hW) (fun r u t H1 locs1 ht hvm hw hB hz1 hk1 hS => kk r u H1 locs1 hw (wd_of X hW ht hB hS))
/-- a static method of the class itself, or a public one of another -/
theorem w_cSi (X : Cx G cy p s m args c cc nL own A H0) (hW : Wd G A H0 w H locs) {post : Int32 → WT → Prop} (hM : MI l G cy w y cc' nL' ret rm As post) (hl : Cond.methodLink own idx y ∈ tg) (hm : MthS y cc' nL' ret As.length)
    (hR : rm.frames + 1 ≤ R.frames ∧ 8 + (nL' + 11) + rm.locals ≤ R.locals) (hls : ls.size = nL) (hst : st0 = As.reverse ++ rest) (hcat : (rest.map fun v => v.category).sum ≤ 8) (hdg : decode cc pc = .ok (.invokestatic idx, 3)) (hf : cells + rm.cells ≤ R.cells ∧ slots + rm.slots ≤ R.slots)
    (kk : ∀ (r : Int32) (u : WT) (H1 : Heap) (locs1 : List Loc), post r u → Wd G A H0 u H1 locs1 → W p l e R s m args below meth c H1 locs1 (cells + rm.cells) (slots + rm.slots) Q (F0 m (pc + 3) ls (.int r :: rest))) : W p l e R s m args below meth c H locs cells slots Q (F0 m pc ls st0) := by
  obtain ⟨m1, m3, m4, m5, m6, m7⟩ := hm
  exact va_calli (va_runS (n := As.length) (bytes := cc') (maxL := nL') (ret := ret) (index := idx) X.1 (hM H.size) ⟨callB_of As.length X.1.2.2.2.2 (gw m4) rfl rfl rfl (X.ht m3) (X.ht hl) ⟨m5, m6, m7⟩ hR, X.ht m1⟩ ⟨blind, fun U hU hwm => ⟨rfl, pre_of X hW hU hwm⟩⟩ rfl rfl hls hst (lv_room hcat) hdg hf) hW.2.2 (fun q _ h => free_of X hW q h) (free_of X hW) (fun r u t H1 locs1 ht hvm hw hB hz1 hk1 hS => kk r u H1 locs1 hw (wd_of X hW ht hB hS))
/-- a private static method of a nest mate -/
theorem w_cNi (X : Cx G cy p s m args c cc nL own A H0) (hW : Wd G A H0 w H locs) {post : Int32 → WT → Prop} (hM : MI l G cy w y cc' nL' ret rm As post) {host : String} (hl : ((own, idx, y, host) : nmT) ∈ nml) (hm : MthS y cc' nL' ret As.length)
    (hR : rm.frames + 1 ≤ R.frames ∧ 8 + (nL' + 11) + rm.locals ≤ R.locals) (hls : ls.size = nL) (hst : st0 = As.reverse ++ rest) (hcat : (rest.map fun v => v.category).sum ≤ 8) (hdg : decode cc pc = .ok (.invokestatic idx, 3)) (hf : cells + rm.cells ≤ R.cells ∧ slots + rm.slots ≤ R.slots)
    (kk : ∀ (r : Int32) (u : WT) (H1 : Heap) (locs1 : List Loc), post r u → Wd G A H0 u H1 locs1 → W p l e R s m args below meth c H1 locs1 (cells + rm.cells) (slots + rm.slots) Q (F0 m (pc + 3) ls (.int r :: rest))) : W p l e R s m args below meth c H locs cells slots Q (F0 m pc ls st0) := by
  obtain ⟨m1, m3, m4, m5, m6, m7⟩ := hm
  exact va_calli (va_runSN (host := host) (n := As.length) (bytes := cc') (maxL := nL') (ret := ret) (index := idx) X.1 (hM H.size) ⟨va_cnB As.length X.1.2.2.2.2 (gw m4) rfl rfl rfl (X.2.2.1.1.1 _ hl) (X.ht m3) ⟨m5, m6, m7⟩ hR, X.ht m1, trivial⟩ ⟨blind, fun U hU hwm => ⟨rfl, pre_of X hW hU hwm⟩⟩ rfl rfl hls hst (lv_room hcat) hdg hf) hW.2.2 (fun q _ h => free_of X hW q h) (free_of X hW) (fun r u t H1 locs1 ht hvm hw hB hz1 hk1 hS => kk r u H1 locs1 hw (wd_of X hW ht hB hS))
/-- a constructor -/
theorem w_cIv (X : Cx G cy p s m args c cc nL own A H0) (hW : Wd G A H0 w H locs) {post : WT → Prop} {b : Nat} (hM : MV l G cy w y cc' nL' none rm (.ref b :: As) post) (hl : Cond.methodLink own idx y ∈ tg) (hm : MthI y cc' nL' As.length)
    (hR : rm.frames + 1 ≤ R.frames ∧ 8 + (nL' + 11) + rm.locals ≤ R.locals) (hls : ls.size = nL) (hst : st0 = As.reverse ++ .ref b :: rest) (hcat : (rest.map fun v => v.category).sum ≤ 8) (hdg : decode cc pc = .ok (.invokespecial idx, 3)) (hf : cells + rm.cells ≤ R.cells ∧ slots + rm.slots ≤ R.slots)
    (kk : ∀ (u : WT) (H1 : Heap) (locs1 : List Loc), post u → Wd G A H0 u H1 locs1 → W p l e R s m args below meth c H1 locs1 (cells + rm.cells) (slots + rm.slots) Q (F0 m (pc + 3) ls rest)) : W p l e R s m args below meth c H locs cells slots Q (F0 m pc ls st0) := by
  obtain ⟨m1, m3, m4, m5, m6, m8, m7⟩ := hm
  exact va_callv (va_runI (n := As.length) (bytes := cc') (maxL := nL') (index := idx) X.1 (hM H.size) ⟨callB_of As.length X.1.2.2.2.2 (gw m4) rfl rfl rfl (X.ht m3) (X.ht hl) ⟨m5, m6, m7⟩ hR, m8, X.ht m1⟩ ⟨blind, fun U hU hwm => ⟨rfl, pre_of X hW hU hwm⟩⟩ rfl rfl hls hst (lv_room hcat) hdg hf) hW.2.2 (fun q _ h => free_of X hW q h) (free_of X hW) (fun u t H1 locs1 ht hvm hw hB hz1 hk1 hS => kk u H1 locs1 hw (wd_of X hW ht hB hS))
/-- a private constructor of a nest mate -/
theorem w_cINv (X : Cx G cy p s m args c cc nL own A H0) (hW : Wd G A H0 w H locs) {post : WT → Prop} {b : Nat} (hM : MV l G cy w y cc' nL' none rm (.ref b :: As) post) {host : String} (hl : ((own, idx, y, host) : nmT) ∈ nml) (hm : MthI y cc' nL' As.length)
    (hR : rm.frames + 1 ≤ R.frames ∧ 8 + (nL' + 11) + rm.locals ≤ R.locals) (hls : ls.size = nL) (hst : st0 = As.reverse ++ .ref b :: rest) (hcat : (rest.map fun v => v.category).sum ≤ 8) (hdg : decode cc pc = .ok (.invokespecial idx, 3)) (hf : cells + rm.cells ≤ R.cells ∧ slots + rm.slots ≤ R.slots)
    (kk : ∀ (u : WT) (H1 : Heap) (locs1 : List Loc), post u → Wd G A H0 u H1 locs1 → W p l e R s m args below meth c H1 locs1 (cells + rm.cells) (slots + rm.slots) Q (F0 m (pc + 3) ls rest)) : W p l e R s m args below meth c H locs cells slots Q (F0 m pc ls st0) := by
  obtain ⟨m1, m3, m4, m5, m6, m8, m7⟩ := hm
  exact va_callv (va_runIN (host := host) (n := As.length) (bytes := cc') (maxL := nL') (index := idx) X.1 (hM H.size) ⟨va_cnB As.length X.1.2.2.2.2 (gw m4) rfl rfl rfl (X.2.2.1.1.1 _ hl) (X.ht m3) ⟨m5, m6, m7⟩ hR, m8, X.ht m1⟩ ⟨blind, fun U hU hwm => ⟨rfl, pre_of X hW hU hwm⟩⟩ rfl rfl hls hst (lv_room hcat) hdg hf) hW.2.2 (fun q _ h => free_of X hW q h) (free_of X hW) (fun u t H1 locs1 ht hvm hw hB hz1 hk1 hS => kk u H1 locs1 hw (wd_of X hW ht hB hS))
end WC
/-! a contract out of a walk: the return is a hypothesis of the walk -/
theorem MI.mk {l : Launch} {G : va_G} {cy : Nat → ClassId} {w : WT} {y : MethodName} {cc : ByteArray} {nL : Nat} {ty : FieldType} {rm : Room} {As : List Value} {post : Int32 → WT → Prop} (hy : plainName y.cls = true) (hty : ∀ r u, post r u → narrow ty (.int r) = .int r) (hlen : (lg_sl As).length ≤ nL)
    (body : ∀ (p : Program) (e : Env) (s : State) (m : MethodId) (below : List Frame) (meth : Method) (c : Code) (A : Nat → Prop) (Q : State → Prop), Cx G cy p s m As.toArray c cc nL y.cls A s.heap → Wd G A s.heap w s.heap [] →
      (∀ (v : Int32) (u : WT) (H : Heap) (locs : List Loc) (pc : Nat) (ls : Array Slot), decode cc pc = .ok (.ireturn, 1) → Wd G A s.heap u H locs → post v u → W p l e rm s m As.toArray below meth c H locs rm.cells rm.slots Q (F0 m pc ls [.int v])) →
      ∀ (ls : Array Slot), lv_has ls nL (lv_args 0 As) → W p l e rm s m As.toArray below meth c s.heap [] 0 0 Q (F0 m 0 ls [])) : MI l G cy w y cc nL (some ty) rm As post := by
  intro sz
  refine Met.ofW (cc := cc) (maxL := nL) (ret := some ty) hy rfl ?_
  intro p e s m args below meth c s₁ B hml hv
  obtain ⟨rfl, hsz, hP, hK, hD0, hN⟩ := hv
  have hr := B.returns
  have hts := atoms_spec B.pre
  have hown : s.vm.findClass y.cls = some m.cls := findClass_of_methodNamed B.named
  have hlocks := B.notSynchronized
  subst hsz
  have hD := hD0.self (sz := s.heap.size)
  have X : Cx G cy p s m As.toArray c cc nL y.cls (va_A (wl w) s.heap.size) s.heap := ⟨⟨B.exec, B.bytes, hml, hown, fun w h => hts w (List.mem_cons_of_mem _ h)⟩, hK, hN, fun q h => Or.inr h⟩
  rw [lg_entry_eq]
  refine body p e s m below meth c _ _ X ⟨hP, hD, va_S.rf⟩ ?_ _ (lv_entry As hlen)
  intro v u H locs pc ls hdg hW hp
  exact W.zret B.exec B.bytes hr (hty v u hp) (fun t ht hwm => ⟨⟨v, u, rfl, hp, by rw [ht]; exact hW.1, hK.moved hwm.alike, hW.2.1⟩, hW.2.2.F ht⟩) hW.2.2.2.2 hdg hlocks
theorem MV.mk {l : Launch} {G : va_G} {cy : Nat → ClassId} {w : WT} {y : MethodName} {cc : ByteArray} {nL : Nat} {rm : Room} {As : List Value} {post : WT → Prop} (hy : plainName y.cls = true) (hlen : (lg_sl As).length ≤ nL)
    (body : ∀ (p : Program) (e : Env) (s : State) (m : MethodId) (below : List Frame) (meth : Method) (c : Code) (A : Nat → Prop) (Q : State → Prop), meth.name = y.name → Cx G cy p s m As.toArray c cc nL y.cls A s.heap → Wd G A s.heap w s.heap [] →
      (∀ (u : WT) (H : Heap) (locs : List Loc) (pc : Nat) (ls : Array Slot), decode cc pc = .ok (.return_, 1) → Wd G A s.heap u H locs → post u → W p l e rm s m As.toArray below meth c H locs rm.cells rm.slots Q (F0 m pc ls [])) →
      ∀ (ls : Array Slot), lv_has ls nL (lv_args 0 As) → W p l e rm s m As.toArray below meth c s.heap [] 0 0 Q (F0 m 0 ls [])) : MV l G cy w y cc nL none rm As post := by
  intro sz
  refine Met.ofW (cc := cc) (maxL := nL) (ret := none) hy rfl ?_
  intro p e s m args below meth c s₁ B hml hv
  obtain ⟨rfl, hsz, hP, hK, hD0, hN⟩ := hv
  have hr := B.returns
  have hts := atoms_spec B.pre
  have hown : s.vm.findClass y.cls = some m.cls := findClass_of_methodNamed B.named
  have hlocks := B.notSynchronized
  have hin : meth.name = y.name := (name_of_methodNamed B.named B.method).1
  subst hsz
  have hD := hD0.self (sz := s.heap.size)
  have X : Cx G cy p s m As.toArray c cc nL y.cls (va_A (wl w) s.heap.size) s.heap := ⟨⟨B.exec, B.bytes, hml, hown, fun w h => hts w (List.mem_cons_of_mem _ h)⟩, hK, hN, fun q h => Or.inr h⟩
  rw [lg_entry_eq]
  refine body p e s m below meth c _ _ hin X ⟨hP, hD, va_S.rf⟩ ?_ _ (lv_entry As hlen)
  intro u H locs pc ls hdg hW hp
  exact W.vret B.exec B.bytes hr (fun t ht hwm => ⟨⟨u, rfl, hp, by rw [ht]; exact hW.1, hK.moved hwm.alike, hW.2.1⟩, hW.2.2.F ht⟩) hW.2.2.2.2 hdg hlocks
theorem MR.mk {l : Launch} {G : va_G} {cy : Nat → ClassId} {w : WT} {y : MethodName} {cc : ByteArray} {nL : Nat} {C : String} {rm : Room} {As : List Value} {post : Option Nat → WT → Prop} (hy : plainName y.cls = true) (hlen : (lg_sl As).length ≤ nL)
    (body : ∀ (p : Program) (e : Env) (s : State) (m : MethodId) (below : List Frame) (meth : Method) (c : Code) (A : Nat → Prop) (Q : State → Prop), Cx G cy p s m As.toArray c cc nL y.cls A s.heap → Wd G A s.heap w s.heap [] →
      (∀ (v : Option Nat) (u : WT) (H : Heap) (locs : List Loc) (pc : Nat) (ls : Array Slot), decode cc pc = .ok (.areturn, 1) → Wd G A s.heap u H locs → post v u → W p l e rm s m As.toArray below meth c H locs rm.cells rm.slots Q (F0 m pc ls [va_rf v])) →
      ∀ (ls : Array Slot), lv_has ls nL (lv_args 0 As) → W p l e rm s m As.toArray below meth c s.heap [] 0 0 Q (F0 m 0 ls [])) : MR l G cy w y cc nL (some (.object C)) rm As post := by
  intro sz
  refine Met.ofW (cc := cc) (maxL := nL) (ret := some (.object C)) hy rfl ?_
  intro p e s m args below meth c s₁ B hml hv
  obtain ⟨rfl, hsz, hP, hK, hD0, hN⟩ := hv
  have hr := B.returns
  have hts := atoms_spec B.pre
  have hown : s.vm.findClass y.cls = some m.cls := findClass_of_methodNamed B.named
  have hlocks := B.notSynchronized
  subst hsz
  have hD := hD0.self (sz := s.heap.size)
  have X : Cx G cy p s m As.toArray c cc nL y.cls (va_A (wl w) s.heap.size) s.heap := ⟨⟨B.exec, B.bytes, hml, hown, fun w h => hts w (List.mem_cons_of_mem _ h)⟩, hK, hN, fun q h => Or.inr h⟩
  rw [lg_entry_eq]
  refine body p e s m below meth c _ _ X ⟨hP, hD, va_S.rf⟩ ?_ _ (lv_entry As hlen)
  intro v u H locs pc ls hdg hW hp
  exact W.aret B.exec B.bytes hr (Or.inl ⟨_, rfl⟩) (by cases v with | none => exact Or.inl rfl | some a => exact Or.inr ⟨a, rfl⟩) (fun t ht hwm => ⟨⟨v, u, rfl, hp, by rw [ht]; exact hW.1, hK.moved hwm.alike, hW.2.1⟩, hW.2.2.F ht⟩) hW.2.2.2.2 hdg hlocks
