theorem MI.post {l : Launch} {G : va_G} {cy : Nat → ClassId} {w : WT} {y : MethodName} {cc : ByteArray} {nL : Nat} {ret : Option FieldType} {rm : Room} {As : List Value} {P P' : Int32 → WT → Prop} (h : MI l G cy w y cc nL ret rm As P) (hp : ∀ r u, P r u → P' r u) : MI l G cy w y cc nL ret rm As P' := fun sz => Met.post (h sz) hp
/-- between two calls of the law: the class and the reference hold the same -/
def Inv (cy : Nat → ClassId) (w : WT) : Prop := ∃ M lg lr lt st T p x, XAt cy w.1 w.2.1 w.2.2 M lg lr lt st T p x ∧ MAt cy w.1 w.2.1 w.2.2 M lg lr lt st T (fun i => x (p i))
/-- behind the class's call: the reference's call gives the same answer, and then both hold the same -/
def Pr (l : Launch) (G : va_G) (cy : Nat → ClassId) (w : WT) (y : MethodName) (cc : ByteArray) (nL : Nat) (ret : Option FieldType) (d : Nat) (As : List Value) : Int32 → WT → Prop := fun v u => w.1 ≤ u.1 ∧ (∀ k, k < w.1 → u.2.1 k = w.2.1 k) ∧ (∃ fs, u.2.2 63 = .inr (9, fs)) ∧ MI l G cy u y cc nL ret (rmN d) (.ref (u.2.1 63) :: As) (fun v2 u2 => v2 = v ∧ u2.1 = u.1 ∧ u2.2.1 = u.2.1 ∧ Inv cy u2)
theorem MAt.recv {cy : Nat → ClassId} {N : Nat} {ad : Nat → Nat} {g : Nat → va_E} {M : M4} {lg : List Nat} {lr lt : Nat → Int32} {st T : Nat} {y : Nat → TT} (h : MAt cy N ad g M lg lr lt st T y) : ∃ fs, g 63 = .inr (9, fs) := by
  obtain ⟨q, to, hR, -⟩ := h
  exact ⟨_, hR.2.1⟩
section OP
variable {l : Launch} {G : va_G} {cy : Nat → ClassId} {N : Nat} {ad : Nat → Nat} {g : Nat → va_E} {M M' : M4} {lg lg' : List Nat} {lr lt lr' lt' : Nat → Int32} {st T st' T' : Nat} {p p' : Nat → Nat} {x x' : Nat → TT} {y y' : Nat → TT}
variable {y1 y2 : MethodName} {c1 c2 : ByteArray} {n1 n2 d1 d2 : Nat} {ret : Option FieldType} {As : List Value} {V : Int32} {rm : Room}
theorem op_rr (hX : XAt cy N ad g M lg lr lt st T p x) (hM : MAt cy N ad g M lg lr lt st T (fun i => x (p i))) (h1 : RI l G cy (N, ad, g) y1 c1 n1 ret (rmN d1) (.ref (ad 0) :: As) V) (h2 : RI l G cy (N, ad, g) y2 c2 n2 ret (rmN d2) (.ref (ad 63) :: As) V) : MI l G cy (N, ad, g) y1 c1 n1 ret (rmN d1) (.ref (ad 0) :: As) (Pr l G cy (N, ad, g) y2 c2 n2 ret d2 As) := by
  refine MI.post h1 (fun v u h => ?_)
  obtain ⟨rfl, rfl⟩ := h
  refine ⟨Nat.le_refl _, fun _ _ => rfl, hM.recv, MI.post h2 (fun v2 u2 h => ?_)⟩
  obtain ⟨rfl, rfl⟩ := h
  exact ⟨rfl, rfl, rfl, M, lg, lr, lt, st, T, p, x, hX, hM⟩
theorem op_mm (hM : MAt cy N ad g M lg lr lt st T y) (h1 : MI l G cy (N, ad, g) y1 c1 n1 ret rm (.ref (ad 0) :: As) (nA N ad (fun v g1 => v = V ∧ (∃ x', XAt cy N ad g1 M' lg' lr' lt' st' T' p' x' ∧ ∀ i, i < T' → x' (p' i) = y' i) ∧ ∀ k, 63 ≤ k → g1 k = g k)))
    (h2 : ∀ g1, MAt cy N ad g1 M lg lr lt st T y → MI l G cy (N, ad, g1) y2 c2 n2 ret (rmN d2) (.ref (ad 63) :: As) (nA N ad (fun v g2 => v = V ∧ MAt cy N ad g2 M' lg' lr' lt' st' T' y' ∧ ∀ k, ¬ (63 ≤ k ∧ k < 83) → g2 k = g1 k))) : MI l G cy (N, ad, g) y1 c1 n1 ret rm (.ref (ad 0) :: As) (Pr l G cy (N, ad, g) y2 c2 n2 ret d2 As) := by
  refine MI.post h1 (fun v u h => ?_)
  obtain ⟨N1, ad1, g1⟩ := u
  obtain ⟨e1, e2, e3, ⟨x', hX', hy⟩, fr⟩ := h
  dsimp only at e1 e2 e3 hX' fr
  subst e1 e2 e3
  have hM1 : MAt cy N1 ad1 g1 M lg lr lt st T y := hM.fr (fun k k1 _ => fr k k1)
  refine ⟨Nat.le_refl _, fun _ _ => rfl, hM1.recv, MI.post (h2 g1 hM1) (fun v2 u2 h => ?_)⟩
  obtain ⟨N2, ad2, g2⟩ := u2
  obtain ⟨e4, e5, e6, hM2, fr2⟩ := h
  dsimp only at e4 e5 e6 hM2 fr2
  subst e4 e5 e6
  exact ⟨rfl, rfl, rfl, M', lg', lr', lt', st', T', p', x', hX'.fr (fun k hk => fr2 k (by omega)), hM2.y hy⟩
theorem op_m1 (hM : MAt cy N ad g M lg lr lt st T y) (h1 : MI l G cy (N, ad, g) y1 c1 n1 ret rm (.ref (ad 0) :: As) (nA N ad (fun v g1 => v = V ∧ XAt cy N ad g1 M' lg' lr' lt' st' T' p' x' ∧ ∀ k, 63 ≤ k → g1 k = g k)))
    (h2 : ∀ g1, MAt cy N ad g1 M lg lr lt st T y → MI l G cy (N, ad, g1) y2 c2 n2 ret (rmN d2) (.ref (ad 63) :: As) (nA N ad (fun v g2 => v = V ∧ MAt cy N ad g2 M' lg' lr' lt' st' T' y' ∧ ∀ k, ¬ (63 ≤ k ∧ k < 83) → g2 k = g1 k))) (hy : ∀ i, i < T' → x' (p' i) = y' i) : MI l G cy (N, ad, g) y1 c1 n1 ret rm (.ref (ad 0) :: As) (Pr l G cy (N, ad, g) y2 c2 n2 ret d2 As) :=
  op_mm (V := V) (y' := y') hM (MI.post h1 (fun v u h => ⟨h.1, h.2.1, h.2.2.1, ⟨x', h.2.2.2.1, hy⟩, h.2.2.2.2⟩)) h2
theorem op_al (hM : MAt cy N ad g M lg lr lt st T y) (h1 : MI l G cy (N, ad, g) y1 c1 n1 ret rm (.ref (ad 0) :: As) (fun v u => ∃ ad1 g1, u = (N + 1, ad1, g1) ∧ v = V ∧ XAt cy (N + 1) ad1 g1 M' lg lr lt st T p x' ∧ (∀ j, j < N → ad1 j = ad j) ∧ ∀ j, 63 ≤ j → j < N → g1 j = g j))
    (h2 : ∀ N1 ad1 g1, MAt cy N1 ad1 g1 M lg lr lt st T y → MI l G cy (N1, ad1, g1) y2 c2 n2 ret (rmN d2) (.ref (ad1 63) :: As) (nA N1 ad1 (fun v g2 => v = V ∧ MAt cy N1 ad1 g2 M' lg lr lt st T y' ∧ ∀ k, ¬ (63 ≤ k ∧ k < 83) → g2 k = g1 k))) (hy : ∀ i, i < T → x' (p i) = y' i) : MI l G cy (N, ad, g) y1 c1 n1 ret rm (.ref (ad 0) :: As) (Pr l G cy (N, ad, g) y2 c2 n2 ret d2 As) := by
  refine MI.post h1 (fun v u h => ?_)
  obtain ⟨ad1, g1, rfl, rfl, hX', ha, hg⟩ := h
  have hM1 : MAt cy (N + 1) ad1 g1 M lg lr lt st T y := hM.grow (by omega) ha hg
  refine ⟨Nat.le_succ _, ha, hM1.recv, MI.post (h2 _ ad1 g1 hM1) (fun v2 u2 h => ?_)⟩
  obtain ⟨N2, ad2, g2⟩ := u2
  obtain ⟨e4, e5, e6, hM2, fr2⟩ := h
  dsimp only at e4 e5 e6 hM2 fr2
  subst e4 e5 e6
  exact ⟨rfl, rfl, rfl, M', lg, lr, lt, st, T, p, x', hX'.fr (fun k hk => fr2 k (by omega)), hM2.y hy⟩
end OP
theorem XAt.perm {cy : Nat → ClassId} {N : Nat} {ad : Nat → Nat} {g : Nat → va_E} {M : M4} {lg : List Nat} {lr lt : Nat → Int32} {st T : Nat} {p : Nat → Nat} {x : Nat → TT} (h : XAt cy N ad g M lg lr lt st T p x) : T ≤ 12 ∧ ∀ i j, i < 12 → j < 12 → p i = p j → i = j := ⟨h.2.2.2.1.2.1, h.2.2.2.1.2.2.2.1⟩
theorem i_nat {v : Int32} (h : 0 ≤ v) : v.toNatClampNeg < 2 ^ 31 ∧ v = nI v.toNatClampNeg := by
  have h0 := h
  rw [Int32.le_iff_toInt_le] at h0
  have h1 : v.toInt < 2 ^ 31 := Int32.toInt_lt v
  have h2 : (v.toNatClampNeg : Int) = v.toInt := by
    rw [show v.toNatClampNeg = v.toInt.toNat from rfl, Int.toNat_of_nonneg (by simpa using h0)]
  refine ⟨by omega, ?_⟩
  apply Int32.toInt_inj.mp
  rw [show (nI v.toNatClampNeg).toInt = (v.toNatClampNeg : Int) from nI_toInt (by omega), h2]

theorem op_fresh {l : Launch} {G : va_G} {cy : Nat → ClassId} {w : WT} (hI : Inv cy w) : MI l G cy w yX8_fresh cX8_fresh 1 (some .int) (rmN 3) (.ref (w.2.1 0) :: []) (Pr l G cy w yX9_fresh cX9_fresh 3 (some .int) 0 []) := by
  obtain ⟨N, ad, g⟩ := w
  obtain ⟨M, lg, lr, lt, st, T, p, x, hX, hM⟩ := hI
  dsimp only at hX hM
  obtain ⟨hT12, hinj⟩ := hX.perm
  exact op_m1 hM (c_fresh hX) (fun g1 h => c_mFresh h) (fun i _ => rfl)

theorem op_logged {l : Launch} {G : va_G} {cy : Nat → ClassId} {w : WT} {a b : Int32} (hI : Inv cy w) : MI l G cy w yX8_logged cX8_logged 3 (some .int) (rmN 3) (.ref (w.2.1 0) :: [.int a, .int b]) (Pr l G cy w yX9_logged cX9_logged 3 (some .int) 1 [.int a, .int b]) := by
  obtain ⟨N, ad, g⟩ := w
  obtain ⟨M, lg, lr, lt, st, T, p, x, hX, hM⟩ := hI
  dsimp only at hX hM
  obtain ⟨hT12, hinj⟩ := hX.perm
  exact op_rr hX hM (c_logged hX) (c_mLogged hM)

theorem op_register {l : Launch} {G : va_G} {cy : Nat → ClassId} {w : WT} {a : Int32} (hI : Inv cy w) : MI l G cy w yX8_register cX8_register 2 (some .int) (rmN 1) (.ref (w.2.1 0) :: [.int a]) (Pr l G cy w yX9_register cX9_register 2 (some .int) 1 [.int a]) := by
  obtain ⟨N, ad, g⟩ := w
  obtain ⟨M, lg, lr, lt, st, T, p, x, hX, hM⟩ := hI
  dsimp only at hX hM
  obtain ⟨hT12, hinj⟩ := hX.perm
  exact op_rr hX hM (c_register hX) (c_mRegister hM)

theorem op_reached {l : Launch} {G : va_G} {cy : Nat → ClassId} {w : WT} (hI : Inv cy w) : MI l G cy w yX8_reached cX8_reached 1 (some .int) (rmN 5) (.ref (w.2.1 0) :: []) (Pr l G cy w yX9_reached cX9_reached 3 (some .int) 2 []) := by
  obtain ⟨N, ad, g⟩ := w
  obtain ⟨M, lg, lr, lt, st, T, p, x, hX, hM⟩ := hI
  dsimp only at hX hM
  obtain ⟨hT12, hinj⟩ := hX.perm
  exact op_m1 hM (c_reached hX) (fun g1 h => c_mReached2 h) (fun i _ => rfl)

theorem op_never {l : Launch} {G : va_G} {cy : Nat → ClassId} {w : WT} (hI : Inv cy w) : MI l G cy w yX8_never cX8_never 1 (some .int) (rmN 5) (.ref (w.2.1 0) :: []) (Pr l G cy w yX9_never cX9_never 3 (some .int) 3 []) := by
  obtain ⟨N, ad, g⟩ := w
  obtain ⟨M, lg, lr, lt, st, T, p, x, hX, hM⟩ := hI
  dsimp only at hX hM
  obtain ⟨hT12, hinj⟩ := hX.perm
  exact op_m1 hM (c_never hX) (fun g1 h => c_mNever h) (fun i _ => rfl)

theorem op_chosen {l : Launch} {G : va_G} {cy : Nat → ClassId} {w : WT} (hI : Inv cy w) : MI l G cy w yX8_chosen cX8_chosen 1 (some .int) (rmN 6) (.ref (w.2.1 0) :: []) (Pr l G cy w yX9_chosen cX9_chosen 6 (some .int) 3 []) := by
  obtain ⟨N, ad, g⟩ := w
  obtain ⟨M, lg, lr, lt, st, T, p, x, hX, hM⟩ := hI
  dsimp only at hX hM
  obtain ⟨hT12, hinj⟩ := hX.perm
  exact op_m1 hM (MI.post (c_chosen hX) (fun v u h => by obtain ⟨h1, h2, fk, h3, h4, h5, h6⟩ := h; exact ⟨h1, h2, h4.trans (by rw [lhC_congr (fun i hi => h3 i hi)]), h5, h6⟩)) (fun g1 h => c_mChosen h) (fun i _ => rfl)

theorem op_fewest {l : Launch} {G : va_G} {cy : Nat → ClassId} {w : WT} (hI : Inv cy w) : MI l G cy w yX8_fewest cX8_fewest 1 (some .int) (rmN 6) (.ref (w.2.1 0) :: []) (Pr l G cy w yX9_fewest cX9_fewest 1 (some .int) 4 []) := by
  obtain ⟨N, ad, g⟩ := w
  obtain ⟨M, lg, lr, lt, st, T, p, x, hX, hM⟩ := hI
  dsimp only at hX hM
  obtain ⟨hT12, hinj⟩ := hX.perm
  exact op_m1 hM (MI.post (c_fewest hX) (fun v u h => by obtain ⟨h1, h2, fk, h3, h4, h5, h6⟩ := h; exact ⟨h1, h2, h4.trans (by rw [lhC_congr (fun i hi => h3 i hi)]), h5, h6⟩)) (fun g1 h => c_mFewest h) (fun i _ => rfl)

theorem op_count {l : Launch} {G : va_G} {cy : Nat → ClassId} {w : WT} {a : Int32} (hI : Inv cy w) : MI l G cy w yX8_count cX8_count 2 (some .int) (rmN 5) (.ref (w.2.1 0) :: [.int a]) (Pr l G cy w yX9_count cX9_count 4 (some .int) 2 [.int a]) := by
  obtain ⟨N, ad, g⟩ := w
  obtain ⟨M, lg, lr, lt, st, T, p, x, hX, hM⟩ := hI
  dsimp only at hX hM
  obtain ⟨hT12, hinj⟩ := hX.perm
  exact op_m1 hM (c_count hX) (fun g1 h => c_mCount h) (fun i _ => rfl)

theorem op_run {l : Launch} {G : va_G} {cy : Nat → ClassId} {w : WT} (hI : Inv cy w) : MI l G cy w yX8_run cX8_run 4 (some .int) (rmN 5) (.ref (w.2.1 0) :: []) (Pr l G cy w yX9_run cX9_run 3 (some .int) 3 []) := by
  obtain ⟨N, ad, g⟩ := w
  obtain ⟨M, lg, lr, lt, st, T, p, x, hX, hM⟩ := hI
  dsimp only at hX hM
  obtain ⟨hT12, hinj⟩ := hX.perm
  exact op_m1 hM (c_run hX) (fun g1 h => c_mRun h) (fun i hi => mapT_in hinj hT12 hi)

theorem op_differs {l : Launch} {G : va_G} {cy : Nat → ClassId} {w : WT} {a : Int32} (hI : Inv cy w) : MI l G cy w yX8_differs cX8_differs 3 (some .int) (rmN 5) (.ref (w.2.1 0) :: [.int a]) (Pr l G cy w yX9_differs cX9_differs 4 (some .int) 2 [.int a]) := by
  obtain ⟨N, ad, g⟩ := w
  obtain ⟨M, lg, lr, lt, st, T, p, x, hX, hM⟩ := hI
  dsimp only at hX hM
  obtain ⟨hT12, hinj⟩ := hX.perm
  by_cases hv : 0 ≤ a ∧ a < nI T
  · obtain ⟨j, hj, rfl⟩ := i_below (by omega) hv
    exact op_m1 hM (c_differs hX hj) (fun g1 h => c_mDiffers2 (y := fun i => x (p i)) (i := j) h hj) (fun i _ => rfl)
  · exact op_rr hX hM (c_differsNo hX hv) (c_mDiffersNo2 hM hv)

theorem op_told {l : Launch} {G : va_G} {cy : Nat → ClassId} {w : WT} {a b : Int32} (hI : Inv cy w) : MI l G cy w yX8_told cX8_told 4 (some .int) (rmN 5) (.ref (w.2.1 0) :: [.int a, .int b]) (Pr l G cy w yX9_told cX9_told 3 (some .int) 3 [.int a, .int b]) := by
  obtain ⟨N, ad, g⟩ := w
  obtain ⟨M, lg, lr, lt, st, T, p, x, hX, hM⟩ := hI
  dsimp only at hX hM
  obtain ⟨hT12, hinj⟩ := hX.perm
  by_cases hv : 0 ≤ a ∧ a < nI T
  · obtain ⟨j, hj, rfl⟩ := i_below (by omega) hv
    exact op_m1 hM (c_told hX hj) (fun g1 h => c_mTold (y := fun i => x (p i)) (i := j) h hj) (fun i _ => rfl)
  · exact op_rr hX hM (c_toldNo hX hv) (c_mToldNo hM hv)

theorem op_row {l : Launch} {G : va_G} {cy : Nat → ClassId} {w : WT} {a b c : Int32} (hI : Inv cy w) : MI l G cy w yX8_row cX8_row 5 (some .int) (rmN 5) (.ref (w.2.1 0) :: [.int a, .int b, .int c]) (Pr l G cy w yX9_row cX9_row 5 (some .int) 3 [.int a, .int b, .int c]) := by
  obtain ⟨N, ad, g⟩ := w
  obtain ⟨M, lg, lr, lt, st, T, p, x, hX, hM⟩ := hI
  dsimp only at hX hM
  obtain ⟨hT12, hinj⟩ := hX.perm
  by_cases hv : 0 ≤ a ∧ a < nI T
  · obtain ⟨j, hj, rfl⟩ := i_below (by omega) hv
    exact op_m1 hM (c_row hX hj) (fun g1 h => c_mRow (y := fun i => x (p i)) (i := j) h hj) (fun i _ => rfl)
  · exact op_rr hX hM (c_rowNo hX hv) (c_mRowNo hM hv)

theorem op_accept {l : Launch} {G : va_G} {cy : Nat → ClassId} {w : WT} {a : Int32} (hI : Inv cy w) : MI l G cy w yX8_accept cX8_accept 3 (some .boolean) (rmN 4) (.ref (w.2.1 0) :: [.int a]) (Pr l G cy w yX9_accept cX9_accept 3 (some .boolean) 2 [.int a]) := by
  obtain ⟨N, ad, g⟩ := w
  obtain ⟨M, lg, lr, lt, st, T, p, x, hX, hM⟩ := hI
  dsimp only at hX hM
  obtain ⟨hT12, hinj⟩ := hX.perm
  by_cases hv : 0 ≤ a ∧ a < nI T
  · obtain ⟨j, hj, rfl⟩ := i_below (by omega) hv
    exact op_m1 hM (c_accept hX hj) (fun g1 h => c_mAccept2 h hj) (fun i hi => by by_cases e : i = j; (subst e; rw [va_up_s, va_up_s]); (rw [va_up_n e, va_up_n (fun q => e (hinj i j (by omega) (by omega) q))]))
  · exact op_rr hX hM (c_acceptNo hX hv) (c_mAcceptNo2 hM hv)

theorem op_drop {l : Launch} {G : va_G} {cy : Nat → ClassId} {w : WT} {a : Int32} (hI : Inv cy w) : MI l G cy w yX8_drop cX8_drop 2 (some .boolean) (rmN 2) (.ref (w.2.1 0) :: [.int a]) (Pr l G cy w yX9_drop cX9_drop 4 (some .boolean) 2 [.int a]) := by
  obtain ⟨N, ad, g⟩ := w
  obtain ⟨M, lg, lr, lt, st, T, p, x, hX, hM⟩ := hI
  dsimp only at hX hM
  obtain ⟨hT12, hinj⟩ := hX.perm
  by_cases hv : 0 ≤ a ∧ a < nI T
  · obtain ⟨j, hj, rfl⟩ := i_below (by omega) hv
    exact op_m1 hM (c_drop hX hj) (fun g1 h => c_mDrop h hj) (fun i hi => by show x (rmP p j T i) = if j ≤ i then x (p (i + 1)) else x (p i); unfold rmP; by_cases e : j ≤ i; (rw [if_pos ⟨e, hi⟩, if_pos e]); (rw [if_neg (fun z => e z.1), if_neg (show ¬ i = T - 1 by omega), if_neg e]))
  · exact op_rr hX hM (c_dropNo hX hv) (c_mDropNo hM hv)

theorem op_call {l : Launch} {G : va_G} {cy : Nat → ClassId} {w : WT} {a b : Int32} (hI : Inv cy w) : MI l G cy w yX8_call cX8_call 3 (some .int) (rmN 4) (.ref (w.2.1 0) :: [.int a, .int b]) (Pr l G cy w yX9_call cX9_call 5 (some .int) 2 [.int a, .int b]) := by
  obtain ⟨N, ad, g⟩ := w
  obtain ⟨M, lg, lr, lt, st, T, p, x, hX, hM⟩ := hI
  dsimp only at hX hM
  obtain ⟨hT12, hinj⟩ := hX.perm
  by_cases hv : (0 ≤ a ∧ a < 6) ∧ 0 ≤ b ∧ b < 16
  · obtain ⟨k, hk, rfl⟩ := i_below (n := 6) (by decide) hv.1
    obtain ⟨q, hq, rfl⟩ := i_below (n := 16) (by decide) hv.2
    have h200 : lg.length ≤ 200 := by obtain ⟨q0, to0, hR0, hO0, hQ0, hL, -⟩ := hM; exact hL.1
    by_cases hf : lg.length = 200
    · exact op_rr hX hM (c_callFull hX hk hq hf) (c_mCallFull hM hk hq hf)
    · exact op_m1 hM (c_call hX hk hq (by omega)) (fun g1 h => c_mCall h hk hq (by omega)) (fun i _ => rfl)
  · exact op_rr hX hM (c_callNo hX hv) (c_mCallNo hM hv)

theorem op_make {l : Launch} {G : va_G} {cy : Nat → ClassId} {w : WT} {a : Int32} (hI : Inv cy w) : MI l G cy w yX8_make cX8_make 3 (some .int) (rmN 6) (.ref (w.2.1 0) :: [.int a]) (Pr l G cy w yX9_make cX9_make 4 (some .int) 4 [.int a]) := by
  obtain ⟨N, ad, g⟩ := w
  obtain ⟨M, lg, lr, lt, st, T, p, x, hX, hM⟩ := hI
  dsimp only at hX hM
  obtain ⟨hT12, hinj⟩ := hX.perm
  by_cases hv : T < 12 ∧ 0 ≤ a ∧ a < nI lg.length
  · have h200 : lg.length ≤ 200 := by obtain ⟨q0, to0, hR0, hO0, hQ0, hL, -⟩ := hM; exact hL.1
    obtain ⟨hTT, hv2⟩ := hv
    obtain ⟨j, hj, rfl⟩ := i_below (by omega) hv2
    by_cases hk : likeK (fun i => x (p i)) (mkRow M lg j) T = true
    · exact op_mm hM (MI.post (c_make hX hTT hj) (fun v u h => by
        obtain ⟨h1, h2, h3⟩ := h
        rw [if_pos hk] at h3
        obtain ⟨h4, t, h5, h6⟩ := h3
        exact ⟨h1, h2, h4, ⟨_, h5, fun i hi => va_up_n (fun q => absurd (hinj i T (by omega) (by omega) q) (by omega))⟩, h6⟩)) (fun g1 h => MI.post (c_mMake h hTT hj) (fun v u h => by
        obtain ⟨h1, h2, h3⟩ := h
        rw [if_pos hk] at h3
        exact ⟨h1, h2, h3⟩))
    · exact op_mm (T' := T + 1) (y' := va_up (fun i => x (p i)) T (nwT M (mkRow M lg j))) hM (MI.post (c_make hX hTT hj) (fun v u h => by
        obtain ⟨h1, h2, h3⟩ := h
        rw [if_neg hk] at h3
        obtain ⟨h4, h5, h6⟩ := h3
        exact ⟨h1, h2, h4, ⟨_, h5, fun i hi => by by_cases e : i = T; (subst e; rw [va_up_s, va_up_s]); (rw [va_up_n e, va_up_n (fun q => e (hinj i T (by omega) (by omega) q))])⟩, h6⟩)) (fun g1 h => MI.post (c_mMake h hTT hj) (fun v u h => by
        obtain ⟨h1, h2, h3⟩ := h
        rw [if_neg hk] at h3
        exact ⟨h1, h2, h3⟩))
  · exact op_rr hX hM (c_makeNo hX hv) (c_mMakeNo hM hv)

theorem op_branch {l : Launch} {G : va_G} {cy : Nat → ClassId} {w : WT} {a b c d : Int32} (hI : Inv cy w) : MI l G cy w yX8_branch cX8_branch 5 (some .int) (rmN 3) (.ref (w.2.1 0) :: [.int a, .int b, .int c, .int d]) (Pr l G cy w yX9_branch cX9_branch 8 (some .int) 2 [.int a, .int b, .int c, .int d]) ∨ MI l G cy w yX8_branch cX8_branch 5 (some .int) (rmA 3 1 8) (.ref (w.2.1 0) :: [.int a, .int b, .int c, .int d]) (Pr l G cy w yX9_branch cX9_branch 8 (some .int) 2 [.int a, .int b, .int c, .int d]) := by
  obtain ⟨N, ad, g⟩ := w
  obtain ⟨M, lg, lr, lt, st, T, p, x, hX, hM⟩ := hI
  dsimp only at hX hM
  obtain ⟨hT12, hinj⟩ := hX.perm
  by_cases hv : hasR M a ∧ okWi b ∧ okTi c ∧ 0 ≤ d ∧ d < 4
  · right
    obtain ⟨⟨ha0, ha1, ha2⟩, ⟨hb0, hb⟩, ⟨hc0, hc⟩, hd⟩ := hv
    obtain ⟨r, hr, rfl⟩ := i_below (n := 4) (by decide) hd
    rw [(i_nat ha0).2, (i_nat hb0).2, (i_nat hc0).2]
    exact op_al hM (c_branch hX ha1 ha2 hb hc hr) (fun N1 ad1 g1 h => c_mBranch h ha1 ha2 hb hc hr) (fun i hi => mapT_in hinj hT12 hi)
  · left
    exact op_rr hX hM (c_branchNo hX hv) (c_mBranchNo hM hv)

theorem op_change {l : Launch} {G : va_G} {cy : Nat → ClassId} {w : WT} {a b c d : Int32} (hI : Inv cy w) : MI l G cy w yX8_change cX8_change 5 (some .boolean) (rmN 3) (.ref (w.2.1 0) :: [.int a, .int b, .int c, .int d]) (Pr l G cy w yX9_change cX9_change 6 (some .boolean) 2 [.int a, .int b, .int c, .int d]) ∨ MI l G cy w yX8_change cX8_change 5 (some .boolean) (rmA 3 1 8) (.ref (w.2.1 0) :: [.int a, .int b, .int c, .int d]) (Pr l G cy w yX9_change cX9_change 6 (some .boolean) 2 [.int a, .int b, .int c, .int d]) := by
  obtain ⟨N, ad, g⟩ := w
  obtain ⟨M, lg, lr, lt, st, T, p, x, hX, hM⟩ := hI
  dsimp only at hX hM
  obtain ⟨hT12, hinj⟩ := hX.perm
  by_cases hv : isB M a ∧ okWi b ∧ okTi c ∧ 0 ≤ d ∧ d < 4
  · right
    obtain ⟨⟨ha0, ha1, ha2⟩, ⟨hb0, hb⟩, ⟨hc0, hc⟩, hd⟩ := hv
    obtain ⟨r, hr, rfl⟩ := i_below (n := 4) (by decide) hd
    rw [(i_nat ha0).2, (i_nat hb0).2, (i_nat hc0).2]
    exact op_al hM (c_change hX ha1 ha2 hb hc hr) (fun N1 ad1 g1 h => c_mChange h ha1 ha2 hb hc hr) (fun i hi => mapT_in hinj hT12 hi)
  · left
    exact op_rr hX hM (c_changeNo hX hv) (c_mChangeNo hM hv)
