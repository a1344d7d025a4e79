/-! the mathematics that both sides are tied to: a machine (how many branches a kind has; when, then, from of a branch), its state as one number of four nibbles, rows of calls (kind * 16 + number) -/
abbrev M4 : Type := (Nat → Nat) × (Nat → Nat) × (Nat → Nat) × (Nat → Nat)
def nib (st j : Nat) : Nat := st / 16 ^ j % 16
def hold (wb st : Nat) : Bool := if wb / 100 % 10 = 0 then decide (nib st (wb / 1000) < wb % 100) else if wb / 100 % 10 = 1 then decide (nib st (wb / 1000) = wb % 100) else decide (wb % 100 < nib st (wb / 1000))
def fb (P : Nat → Bool) (k : Nat) : Nat → Nat → Option Nat
  | _, 0 => none
  | b, d + 1 => if P (4 * k + b) = true then some (4 * k + b) else fb P k (b + 1) d
def tk (M : M4) (k st : Nat) : Option Nat := fb (fun b => hold (M.2.1 b) st) k 0 (M.1 k)
def setn (st j v : Nat) : Nat := (st &&& (65535 ^^^ (15 * 16 ^ j))) ||| (v * 16 ^ j)
def efn (T st num : Nat) : Nat := T / 1000 % 10 * nib st (T / 10000) + T / 100 % 10 * num + T % 100
def nx (M : M4) (t : Option Nat) (st num : Nat) : Nat := match t with
  | none => st
  | some b => setn st (M.2.2.1 b / 10000) (efn (M.2.2.1 b) st num % 16)
def rs (M : M4) (t : Option Nat) (st : Nat) : Int32 := match t with
  | none => -1
  | some b => nI (nib st (M.2.2.2 b))
def tI (t : Option Nat) : Int32 := match t with
  | none => -1
  | some b => nI b
def stp (M : M4) (call st : Nat) : Nat := nx M (tk M (call / 16) st) st (call % 16)
def stq (M : M4) (c : Nat → Nat) (s0 : Nat) : Nat → Nat
  | 0 => s0
  | k + 1 => stp M (c k) (stq M c s0 k)
def tkq (M : M4) (c : Nat → Nat) (s0 k : Nat) : Option Nat := tk M (c k / 16) (stq M c s0 k)
def rsq (M : M4) (c : Nat → Nat) (s0 k : Nat) : Int32 := rs M (tkq M c s0 k) (stq M c s0 (k + 1))
def btq (t : Option Nat) : Int32 := match t with
  | none => 0
  | some b => (1 : Int32) <<< (nI b &&& 31)
def mtq (M : M4) (c : Nat → Nat) : Nat → Int32
  | 0 => 0
  | k + 1 => mtq M c k ||| btq (tkq M c 0 k)
/-- a machine as the document lets it be -/
abbrev okW (w : Nat) : Prop := w < 4000 ∧ w / 100 % 10 < 3 ∧ w % 100 < 16
abbrev okT (t : Nat) : Prop := t < 40000 ∧ t % 100 < 16
def okM (M : M4) : Prop := (∀ k, k < 6 → M.1 k ≤ 4) ∧ ∀ b, b < 24 → b % 4 < M.1 (b / 4) → okW (M.2.1 b) ∧ okT (M.2.2.1 b) ∧ M.2.2.2 b < 4
theorem fb_some {P : Nat → Bool} {k : Nat} : ∀ {d b x : Nat}, fb P k b d = some x → ∃ i, b ≤ i ∧ i < b + d ∧ x = 4 * k + i ∧ P x = true
  | 0, b, x, h => by simp [fb] at h
  | d + 1, b, x, h => by
    unfold fb at h
    by_cases hp : P (4 * k + b) = true
    · rw [if_pos hp] at h
      cases h
      exact ⟨b, Nat.le_refl _, by omega, rfl, hp⟩
    · rw [if_neg hp] at h
      obtain ⟨i, h1, h2, h3, h4⟩ := fb_some h
      exact ⟨i, by omega, by omega, h3, h4⟩
theorem tk_some {M : M4} (hM : okM M) {k st b : Nat} (hk : k < 6) (h : tk M k st = some b) : b < 24 ∧ b / 4 = k ∧ b % 4 < M.1 (b / 4) := by
  obtain ⟨i, h1, h2, h3, -⟩ := fb_some h
  have h4 := hM.1 k hk
  have h5 : b / 4 = k := by omega
  refine ⟨by omega, h5, ?_⟩
  rw [h5]
  omega
theorem nib_lt (st j : Nat) : nib st j < 16 := Nat.mod_lt _ (by decide)
theorem setn_lt {st j v : Nat} (hj : j < 4) (hv : v < 16) (hs : st < 65536) : setn st j v < 65536 := by
  have h1 : st &&& (65535 ^^^ (15 * 16 ^ j)) < 2 ^ 16 := Nat.lt_of_le_of_lt Nat.and_le_left hs
  have h2 : v * 16 ^ j < 2 ^ 16 := by
    rcases (show j = 0 ∨ j = 1 ∨ j = 2 ∨ j = 3 by omega) with rfl | rfl | rfl | rfl <;> omega
  exact Nat.or_lt_two_pow h1 h2
theorem nib_bit {st j i : Nat} : (nib st j).testBit i = (decide (i < 4) && st.testBit (4 * j + i)) := by
  unfold nib
  rw [show (16 : Nat) = 2 ^ 4 from rfl, ← Nat.pow_mul, Nat.testBit_mod_two_pow, Nat.testBit_div_two_pow, Nat.add_comm]
theorem mask_bit : ∀ j, j < 4 → ∀ i, i < 16 → (65535 ^^^ (15 * 16 ^ j)).testBit i = !(decide (4 * j ≤ i) && decide (i < 4 * j + 4)) := by decide
theorem mul_bit {v j i : Nat} : (v * 16 ^ j).testBit i = (decide (4 * j ≤ i) && v.testBit (i - 4 * j)) := by
  rw [show (16 : Nat) = 2 ^ 4 from rfl, ← Nat.pow_mul, Nat.testBit_mul_two_pow]
theorem nib_set {st j v k : Nat} (hj : j < 4) (hv : v < 16) (hk : k < 4) : nib (setn st j v) k = if k = j then v else nib st k := by
  apply Nat.eq_of_testBit_eq
  intro i
  rw [nib_bit]
  unfold setn
  rw [Nat.testBit_or, Nat.testBit_and, mul_bit]
  by_cases hi : i < 4
  · rw [mask_bit j hj (4 * k + i) (by omega)]
    by_cases hkj : k = j
    · subst hkj
      simp [hi]
    · have h1 : ¬ (4 * j ≤ 4 * k + i ∧ 4 * k + i < 4 * j + 4) := by omega
      have h3 : (decide (4 * j ≤ 4 * k + i) && v.testBit (4 * k + i - 4 * j)) = false := by
        by_cases h4 : 4 * j ≤ 4 * k + i
        · have h5 : v.testBit (4 * k + i - 4 * j) = false := Nat.testBit_lt_two_pow (Nat.lt_of_lt_of_le hv (by
            have : 4 ≤ 4 * k + i - 4 * j := by omega
            exact Nat.pow_le_pow_right (n := 2) (by decide) this))
          simp [h5]
        · simp [h4]
      rw [h3, if_neg hkj, nib_bit]
      have h2 : (decide (4 * j ≤ 4 * k + i) && decide (4 * k + i < 4 * j + 4)) = false := by
        simp only [Bool.and_eq_false_iff, decide_eq_false_iff_not]
        omega
      rw [h2]
      simp
  · have h6 : ∀ x : Nat, x < 16 → x.testBit i = false := fun x hx => Nat.testBit_lt_two_pow (Nat.lt_of_lt_of_le hx (by
      have : 4 ≤ i := by omega
      exact Nat.pow_le_pow_right (n := 2) (by decide) this))
    by_cases hkj : k = j
    · rw [if_pos hkj, h6 v hv]
      simp [hi]
    · rw [if_neg hkj, h6 _ (nib_lt st k)]
      simp [hi]
theorem nx_lt {M : M4} (hM : okM M) {k st num : Nat} (hk : k < 6) (hs : st < 65536) : nx M (tk M k st) st num < 65536 := by
  cases h : tk M k st with
  | none => exact hs
  | some b =>
    obtain ⟨h1, h2, h3⟩ := tk_some hM hk h
    obtain ⟨-, h4, -⟩ := hM.2 b h1 h3
    have h5 : M.2.2.1 b / 10000 < 4 := by have := h4.1; omega
    exact setn_lt h5 (Nat.mod_lt _ (by decide)) hs
/-- a row of calls of kinds and numbers that there are -/
def okC (c : Nat → Nat) (n : Nat) : Prop := ∀ k, k < n → c k < 96
theorem stq_lt {M : M4} (hM : okM M) {c : Nat → Nat} {s0 : Nat} (h0 : s0 < 65536) : ∀ {k : Nat}, okC c k → stq M c s0 k < 65536
  | 0, _ => h0
  | k + 1, hc => nx_lt hM (by have := hc k (by omega); omega) (stq_lt hM h0 (fun i hi => hc i (by omega)))
section TE
variable {p : Program} {l : Launch} {e : Env} {R : Room} {s : State} {m : MethodId} {args : Array Value} {below : List Frame} {meth : Method} {c : Code} {H : Heap} {locs : List Loc} {cells slots : Nat} {Q : State → Prop} {pc : Nat} {ls : Array Slot} {rest : List Value}
theorem top_eq {x y : Int32} (h : x = y) (k : W p l e R s m args below meth c H locs cells slots Q (F0 m pc ls (.int y :: rest))) : W p l e R s m args below meth c H locs cells slots Q (F0 m pc ls (.int x :: rest)) := h ▸ k
theorem top_q {x y : Option Nat} (h : x = y) (k : W p l e R s m args below meth c H locs cells slots Q (F0 m pc ls (va_rf y :: rest))) : W p l e R s m args below meth c H locs cells slots Q (F0 m pc ls (va_rf x :: rest)) := h ▸ k
end TE
theorem sh4 : ∀ j, j < 4 → ((nI j * 4 &&& 31).toBitVec.smod 32).toNat = 4 * j := by decide
theorem val_eq {st j : Nat} (hs : st < 65536) (hj : j < 4) : (nI st >>> ((nI j * 4) &&& 31)) &&& 15 = nI (nib st j) := by
  rw [pk_shrN (by omega) _ (4 * j) (sh4 j hj), pk_andN (by have := Nat.div_le_self st (2 ^ (4 * j)); omega) 4 (by decide)]
  unfold nib
  rw [show (16 : Nat) = 2 ^ 4 from rfl, ← Nat.pow_mul]
theorem nI_and (a b : Nat) : nI a &&& nI b = nI (a &&& b) := by
  apply Int32.toBitVec_inj.mp
  apply BitVec.eq_of_toNat_eq
  simp [nI, Int32.toBitVec_and]
theorem nI_or (a b : Nat) : nI a ||| nI b = nI (a ||| b) := by
  apply Int32.toBitVec_inj.mp
  apply BitVec.eq_of_toNat_eq
  simp [nI, Int32.toBitVec_or]
theorem msk4 : ∀ j, j < 4 → ((15 : Int32) <<< (nI j * 4 &&& 31)) ^^^ (-1) = nI (4294967295 ^^^ (15 * 16 ^ j)) := by decide
theorem and_msk {st j : Nat} (hs : st < 65536) (hj : j < 4) : st &&& (4294967295 ^^^ (15 * 16 ^ j)) = st &&& (65535 ^^^ (15 * 16 ^ j)) := by
  have h : ∀ j, j < 4 → (4294967295 ^^^ (15 * 16 ^ j)) &&& 65535 = (65535 ^^^ (15 * 16 ^ j)) := by decide
  have h2 : st &&& 65535 = st := by
    rw [show (65535 : Nat) = 2 ^ 16 - 1 from rfl, Nat.and_two_pow_sub_one_eq_mod]
    exact Nat.mod_eq_of_lt hs
  rw [← h j hj, Nat.and_comm (4294967295 ^^^ (15 * 16 ^ j)) 65535, ← Nat.and_assoc, h2]
theorem wit_eq {st j v : Nat} (hs : st < 65536) (hj : j < 4) (hv : v < 65536) : (nI st &&& (((15 : Int32) <<< (nI j * 4 &&& 31)) ^^^ (-1))) ||| ((nI v &&& 15) <<< (nI j * 4 &&& 31)) = nI (setn st j (v % 16)) := by
  rw [msk4 j hj, nI_and, and_msk hs hj, pk_andN (by omega) 4 (by decide), pk_shlN _ (4 * j) (sh4 j hj) (by
    have : v % 2 ^ 4 < 16 := Nat.mod_lt _ (by decide)
    rcases (show j = 0 ∨ j = 1 ∨ j = 2 ∨ j = 3 by omega) with rfl | rfl | rfl | rfl <;> omega), nI_or]
  unfold setn
  rw [Nat.pow_mul]
