/-! pure rows: how many branches there are; what a test met is of kinds that its row calls; the least heap, found in two ways -/
def sumK (m : Nat → Nat) : Nat → Nat
  | 0 => 0
  | k + 1 => sumK m k + m k
def abm (m : Nat → Nat) : Nat → Int32
  | 0 => 0
  | b + 1 => if b % 4 < m (b / 4) then abm m b ||| ((1 : Int32) <<< (nI b &&& 31)) else abm m b
theorem abq_m (M : M4) : ∀ n, abq M n = abm M.1 n
  | 0 => rfl
  | n + 1 => by
    show (if n % 4 < M.1 (n / 4) then abq M n ||| ((1 : Int32) <<< (nI n &&& 31)) else abq M n) = (if n % 4 < M.1 (n / 4) then abm M.1 n ||| ((1 : Int32) <<< (nI n &&& 31)) else abm M.1 n)
    rw [abq_m M n]
theorem abm_congr {m m' : Nat → Nat} : ∀ {n : Nat}, n ≤ 24 → (∀ k, k < 6 → m k = m' k) → abm m n = abm m' n
  | 0, _, _ => rfl
  | n + 1, hn, h => by
    unfold abm
    rw [h (n / 4) (by omega), abm_congr (by omega) h]
theorem bt_nI : ∀ b, b < 24 → (1 : Int32) <<< (nI b &&& 31) = nI (2 ^ b) := by decide
def abN (m : Nat → Nat) : Nat → Nat
  | 0 => 0
  | b + 1 => if b % 4 < m (b / 4) then abN m b ||| 2 ^ b else abN m b
theorem abm_N {m : Nat → Nat} : ∀ {n : Nat}, n ≤ 24 → abm m n = nI (abN m n)
  | 0, _ => rfl
  | n + 1, h => by
    unfold abm abN
    rw [abm_N (n := n) (by omega), bt_nI n (by omega), nI_or]
    split <;> rfl
theorem or_pw {A : Nat} (i : Nat) (hA : A < 2 ^ i) : (A ||| 2 ^ i = A + 2 ^ i * 1) ∧ (A ||| 2 ^ i ||| 2 ^ (i + 1) = A + 2 ^ i * 3) ∧ (A ||| 2 ^ i ||| 2 ^ (i + 1) ||| 2 ^ (i + 2) = A + 2 ^ i * 7) ∧ (A ||| 2 ^ i ||| 2 ^ (i + 1) ||| 2 ^ (i + 2) ||| 2 ^ (i + 3) = A + 2 ^ i * 15) := by
  have h0 : ∀ x, A ||| 2 ^ i * x = A + 2 ^ i * x := fun x => by
    rw [Nat.or_comm, ← Nat.two_pow_add_eq_or_of_lt hA]
    omega
  have hm : ∀ x y : Nat, 2 ^ i * x ||| 2 ^ i * y = 2 ^ i * (x ||| y) := fun x y => by
    apply Nat.eq_of_testBit_eq
    intro k
    rw [Nat.testBit_or, Nat.testBit_two_pow_mul, Nat.testBit_two_pow_mul, Nat.testBit_two_pow_mul, Nat.testBit_or]
    by_cases h : i ≤ k <;> simp [h]
  have e0 : 2 ^ i = 2 ^ i * 1 := by omega
  have e1 : 2 ^ (i + 1) = 2 ^ i * 2 := Nat.pow_succ ..
  have e2 : 2 ^ (i + 2) = 2 ^ i * 4 := by rw [Nat.pow_add]
  have e3 : 2 ^ (i + 3) = 2 ^ i * 8 := by rw [Nat.pow_add]
  refine ⟨?_, ?_, ?_, ?_⟩
  · conv => lhs; rw [e0]
    exact h0 1
  · conv => lhs; rw [e1, Nat.or_assoc]
    conv => lhs; rhs; lhs; rw [e0]
    rw [hm]
    exact h0 3
  · conv => lhs; rw [e1, e2, Nat.or_assoc, Nat.or_assoc]
    conv => lhs; rhs; lhs; rw [e0]
    rw [hm, hm]
    exact h0 7
  · conv => lhs; rw [e1, e2, e3, Nat.or_assoc, Nat.or_assoc, Nat.or_assoc]
    conv => lhs; rhs; lhs; rw [e0]
    rw [hm, hm, hm]
    exact h0 15
theorem abN_grp {m : Nat → Nat} {k : Nat} (hm : m k ≤ 4) (hA : abN m (4 * k) < 2 ^ (4 * k)) : abN m (4 * k + 4) = abN m (4 * k) + 2 ^ (4 * k) * pw (m k) := by
  have s : ∀ j, j < 4 → abN m (4 * k + (j + 1)) = if j < m k then abN m (4 * k + j) ||| 2 ^ (4 * k + j) else abN m (4 * k + j) := fun j hj => by
    show (if (4 * k + j) % 4 < m ((4 * k + j) / 4) then abN m (4 * k + j) ||| 2 ^ (4 * k + j) else abN m (4 * k + j)) = _
    rw [show (4 * k + j) % 4 = j by omega, show (4 * k + j) / 4 = k by omega]
  obtain ⟨o1, o2, o3, o4⟩ := or_pw (4 * k) hA
  have s0 := s 0 (by omega)
  have s1 := s 1 (by omega)
  have s2 := s 2 (by omega)
  have s3 := s 3 (by omega)
  rw [show 4 * k + 0 = 4 * k by omega] at s0
  rw [show 4 * k + 4 = 4 * k + (3 + 1) by omega, s3, s2, s1, s0]
  rcases (show m k = 0 ∨ m k = 1 ∨ m k = 2 ∨ m k = 3 ∨ m k = 4 by omega) with h | h | h | h | h <;> rw [h] <;> simp [pw]
  · simpa using o1
  · simpa using o2
  · simpa using o3
  · simpa using o4
theorem pw_lt {v : Nat} (h : v ≤ 4) : pw v < 16 := by
  rcases (show v = 0 ∨ v = 1 ∨ v = 2 ∨ v = 3 ∨ v = 4 by omega) with rfl | rfl | rfl | rfl | rfl <;> decide
theorem abN_lt {m : Nat → Nat} (h : ∀ k, k < 6 → m k ≤ 4) : ∀ {k : Nat}, k ≤ 6 → abN m (4 * k) < 2 ^ (4 * k)
  | 0, _ => show (0 : Nat) < 1 by decide
  | k + 1, hk => by
    have h1 := abN_lt h (k := k) (by omega)
    have h2 := pw_lt (h k (by omega))
    rw [show 4 * (k + 1) = 4 * k + 4 by omega, abN_grp (h k (by omega)) h1, Nat.pow_add]
    have h3 : 2 ^ (4 * k) * pw (m k) ≤ 2 ^ (4 * k) * 15 := Nat.mul_le_mul_left _ (by omega)
    omega
theorem bc_all {M : M4} (hok : okM M) : bcI (abq M 24) = nI (sumK M.1 6) := by
  have h := hok.1
  have g : ∀ k, k < 6 → abN M.1 (4 * k + 4) = abN M.1 (4 * k) + 2 ^ (4 * k) * pw (M.1 k) := fun k hk => abN_grp (h k hk) (abN_lt h (by omega))
  have e : abN M.1 24 = n6 (M.1 0) (M.1 1) (M.1 2) (M.1 3) (M.1 4) (M.1 5) := by
    have g0 : abN M.1 4 = abN M.1 0 + 1 * pw (M.1 0) := g 0 (by omega)
    have g1 : abN M.1 8 = abN M.1 4 + 16 * pw (M.1 1) := g 1 (by omega)
    have g2 : abN M.1 12 = abN M.1 8 + 256 * pw (M.1 2) := g 2 (by omega)
    have g3 : abN M.1 16 = abN M.1 12 + 4096 * pw (M.1 3) := g 3 (by omega)
    have g4 : abN M.1 20 = abN M.1 16 + 65536 * pw (M.1 4) := g 4 (by omega)
    have g5 : abN M.1 24 = abN M.1 20 + 1048576 * pw (M.1 5) := g 5 (by omega)
    have z : abN M.1 0 = 0 := rfl
    unfold n6
    omega
  rw [abq_m, abm_N (Nat.le_refl _), e, bc_n6 (by have := h 0 (by omega); omega) (by have := h 1 (by omega); omega) (by have := h 2 (by omega); omega) (by have := h 3 (by omega); omega) (by have := h 4 (by omega); omega) (by have := h 5 (by omega); omega)]
  simp [sumK]
def mtN (M : M4) (c : Nat → Nat) : Nat → Nat
  | 0 => 0
  | k + 1 => mtN M c k ||| (match tkq M c 0 k with
    | none => 0
    | some b => 2 ^ b)
theorem mtq_N {M : M4} (hok : okM M) {c : Nat → Nat} : ∀ {n : Nat}, okC c n → mtq M c n = nI (mtN M c n) ∧ mtN M c n < 2 ^ 24
  | 0, _ => ⟨rfl, Nat.pos_of_ne_zero (by decide)⟩
  | n + 1, hc => by
    obtain ⟨h1, h2⟩ := mtq_N hok (n := n) (fun i hi => hc i (by omega))
    have h3 := tkq_b hok (s0 := 0) (hc n (by omega))
    show mtq M c n ||| btq (tkq M c 0 n) = nI (mtN M c n ||| _) ∧ (mtN M c n ||| _) < 2 ^ 24
    cases ht : tkq M c 0 n with
    | none =>
      refine ⟨?_, Nat.or_lt_two_pow h2 (by decide)⟩
      rw [h1, ← nI_or]
      rfl
    | some b =>
      have h4 := h3 b ht
      refine ⟨?_, Nat.or_lt_two_pow h2 (Nat.pow_lt_pow_right (by decide) h4)⟩
      rw [h1, ← nI_or, ← bt_nI b h4]
      rfl
theorem or_div0 {a b s : Nat} (ha : a / 2 ^ s % 16 = 0) (hb : b / 2 ^ s % 16 = 0) : (a ||| b) / 2 ^ s % 16 = 0 := by
  have e : ∀ x : Nat, x / 2 ^ s % 16 = (x >>> s) &&& 15 := fun x => by
    rw [Nat.shiftRight_eq_div_pow, show (15 : Nat) = 2 ^ 4 - 1 from rfl, Nat.and_two_pow_sub_one_eq_mod]
  rw [e] at ha hb ⊢
  rw [Nat.shiftRight_or_distrib, Nat.and_or_distrib_right, ha, hb]
  rfl
theorem pow_div0 : ∀ b, b < 24 → ∀ k, k < 6 → b / 4 ≠ k → 2 ^ b / 2 ^ (4 * k) % 16 = 0 := by decide
theorem mtN_kind {M : M4} (hok : okM M) {c : Nat → Nat} {k : Nat} (hk : k < 6) : ∀ {n : Nat}, okC c n → anyK c k n = false → mtN M c n / 2 ^ (4 * k) % 16 = 0
  | 0, _, _ => by
    show 0 / 2 ^ (4 * k) % 16 = 0
    simp
  | n + 1, hc, ha => by
    unfold anyK at ha
    rw [Bool.or_eq_false_iff] at ha
    have h1 : ¬ c n / 16 = k := by have := ha.2; rwa [decide_eq_false_iff_not] at this
    refine or_div0 (mtN_kind hok hk (fun i hi => hc i (by omega)) ha.1) ?_
    cases ht : tkq M c 0 n with
    | none => show 0 / 2 ^ (4 * k) % 16 = 0; simp
    | some b =>
      obtain ⟨b1, b2, -⟩ := tk_some hok (by have := hc n (by omega); omega) ht
      exact pow_div0 b b1 k hk (by rw [b2]; exact h1)
theorem sh4k : ∀ k, k < 6 → (((4 * nI k) &&& 31).toBitVec.smod 32).toNat = 4 * k := by decide
theorem mOK_mt {M : M4} (hok : okM M) {row : List Nat} (h96 : ∀ x, x ∈ row → x < 96) {a : Nat → Int32} {t b : Bool} : mOK (row, a, mtq M (gl row) row.length, t, b) := by
  intro k hk ha
  have hc : okC (gl row) row.length := fun i hi => h96 _ (gl_mem hi)
  obtain ⟨h1, h2⟩ := mtq_N hok hc
  show (mtq M (gl row) row.length >>> ((4 * nI k) &&& 31)) &&& 15 = 0
  have h3 : mtN M (gl row) row.length / 2 ^ (4 * k) ≤ mtN M (gl row) row.length := Nat.div_le_self _ _
  rw [h1, pk_shrN (by omega) _ (4 * k) (sh4k k hk), pk_andN (by omega) 4 (by decide), mtN_kind hok hk hc ha]
  rfl
/-! the least heap -/
def orK (f : Nat → Int32) : Nat → Int32
  | 0 => 0
  | t + 1 => orK f t ||| f t
theorem full_bit : ∀ T, T ≤ 12 → ∀ i, i < T → (nI (2 ^ T - 1) >>> (nI i &&& 31)) &&& 1 = 1 := by decide
theorem mbh_or {f : Nat → Int32} {T : Nat} (hT : T ≤ 12) : ∀ {n : Nat}, n ≤ T → mbh f (nI (2 ^ T - 1)) n = orK f n
  | 0, _ => rfl
  | n + 1, hn => by
    unfold mbh orK
    rw [if_pos (full_bit T hT n (by omega)), mbh_or hT (by omega)]
def lhM (f : Nat → Int32) (T : Nat) : Nat → Nat
  | 0 => 2 ^ T - 1
  | d + 1 => if mbh f (nI (2 ^ T - 1 - d)) T = orK f T ∧ pc2 (2 ^ T - 1 - d) ≤ pc2 (lhM f T d) then 2 ^ T - 1 - d else lhM f T d
def isBest (f : Nat → Int32) (T b : Nat) : Prop := b < 2 ^ T ∧ mbh f (nI b) T = orK f T ∧ ∀ h, h < 2 ^ T → mbh f (nI h) T = orK f T → pc2 b < pc2 h ∨ (pc2 b = pc2 h ∧ b ≤ h)
theorem best_one {f : Nat → Int32} {T a b : Nat} (ha : isBest f T a) (hb : isBest f T b) : a = b := by
  have h1 := ha.2.2 b hb.1 hb.2.1
  have h2 := hb.2.2 a ha.1 ha.2.1
  omega
set_option maxRecDepth 100000 in
theorem pc_full : ∀ T, T < 13 → ∀ h, h < 2 ^ T → pc2 (2 ^ T - 1) ≤ pc2 h → h = 2 ^ T - 1 := by decide +kernel
theorem lhM_inv {f : Nat → Int32} {T : Nat} (hT : T ≤ 12) : ∀ {d : Nat}, d ≤ 2 ^ T → lhM f T d < 2 ^ T ∧ mbh f (nI (lhM f T d)) T = orK f T ∧ ∀ h, h < 2 ^ T → 2 ^ T - d ≤ h → mbh f (nI h) T = orK f T → pc2 (lhM f T d) < pc2 h ∨ (pc2 (lhM f T d) = pc2 h ∧ lhM f T d ≤ h)
  | 0, _ => by
    have := two_lt hT
    exact ⟨by show 2 ^ T - 1 < 2 ^ T; omega, mbh_or hT (Nat.le_refl _), fun h h1 h2 => absurd h1 (by omega)⟩
  | d + 1, hd => by
    obtain ⟨a, b, c⟩ := lhM_inv (f := f) hT (d := d) (by omega)
    have := two_lt hT
    unfold lhM
    split
    · rename_i hy
      refine ⟨by omega, hy.1, fun h h1 h2 h3 => ?_⟩
      by_cases e : 2 ^ T - d ≤ h
      · have := c h h1 e h3
        omega
      · have : h = 2 ^ T - 1 - d := by omega
        subst this
        exact Or.inr ⟨rfl, Nat.le_refl _⟩
    · rename_i hy
      refine ⟨a, b, fun h h1 h2 h3 => ?_⟩
      by_cases e : 2 ^ T - d ≤ h
      · exact c h h1 e h3
      · have e2 : h = 2 ^ T - 1 - d := by omega
        subst e2
        left
        exact Nat.lt_of_not_le (fun z => hy ⟨h3, z⟩)
theorem lhC_inv {f : Nat → Int32} {T : Nat} (hT : T ≤ 12) : ∀ {h : Nat}, h ≤ 2 ^ T → lhC f T h < 2 ^ T ∧ mbh f (nI (lhC f T h)) T = orK f T ∧ (lhC f T h < h ∨ lhC f T h = 2 ^ T - 1) ∧ ∀ k, k < h → mbh f (nI k) T = orK f T → pc2 (lhC f T h) < pc2 k ∨ (pc2 (lhC f T h) = pc2 k ∧ lhC f T h ≤ k)
  | 0, _ => by
    have := two_lt hT
    exact ⟨by show 2 ^ T - 1 < 2 ^ T; omega, mbh_or hT (Nat.le_refl _), Or.inr rfl, fun k hk => absurd hk (by omega)⟩
  | h + 1, hh => by
    obtain ⟨a, b, c, d⟩ := lhC_inv (f := f) hT (h := h) (by omega)
    have h2 := two_lt hT
    unfold lhC
    split
    · rename_i hy
      rw [mbh_or hT (Nat.le_refl _)] at hy
      refine ⟨by omega, hy.2, Or.inl (by omega), fun k hk h3 => ?_⟩
      by_cases e : k = h
      · subst e
        exact Or.inr ⟨rfl, Nat.le_refl _⟩
      · have := d k (by omega) h3
        omega
    · rename_i hy
      rw [mbh_or hT (Nat.le_refl _)] at hy
      refine ⟨a, b, by omega, fun k hk h3 => ?_⟩
      by_cases e : k = h
      · subst e
        have h4 : pc2 (lhC f T k) ≤ pc2 k := Nat.le_of_not_lt (fun z => hy ⟨z, h3⟩)
        rcases c with c | c
        · omega
        · rw [c] at h4 ⊢
          have := pc_full T (by omega) k (by omega) h4
          omega
      · exact d k (by omega) h3
theorem lh_eq {f : Nat → Int32} {T : Nat} (hT : T ≤ 12) : lhM f T (2 ^ T) = lhC f T (2 ^ T) := by
  obtain ⟨a, b, c⟩ := lhM_inv (f := f) hT (Nat.le_refl _)
  obtain ⟨a2, b2, -, c2⟩ := lhC_inv (f := f) hT (Nat.le_refl _)
  exact best_one ⟨a, b, fun h h1 h2 => c h h1 (by omega) h2⟩ ⟨a2, b2, c2⟩
theorem mbh_congr {f f2 : Nat → Int32} {h : Int32} : ∀ {n : Nat}, (∀ i, i < n → f i = f2 i) → mbh f h n = mbh f2 h n
  | 0, _ => rfl
  | n + 1, e => by
    unfold mbh
    rw [e n (by omega), mbh_congr (fun i hi => e i (by omega))]
theorem lhC_congr {f f2 : Nat → Int32} {T : Nat} (e : ∀ i, i < T → f i = f2 i) : ∀ h, lhC f T h = lhC f2 T h
  | 0 => rfl
  | h + 1 => by
    unfold lhC
    rw [lhC_congr e h, mbh_congr e, mbh_congr e]
