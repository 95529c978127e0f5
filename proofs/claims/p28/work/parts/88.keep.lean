theorem JX.go {F T L B n O m t L' B' n' O' m' t' : Nat} {σs σ σ' : St} (h : JX F T L B n O m t σs σ) (g : GI F T L' B' n' O' m' σ') (k : KE (27 :: kP) σ σ') (k2 : σ'.2 = σ.2) (hL : L' + t ≤ L + t') : JX F T L' B' n' O' m' t' σs σ' := by
  obtain ⟨a, b, c, d⟩ := h
  exact ⟨g, by rw [k 25 (by decide)]; omega, by rw [k 26 (by decide)]; exact c, d.k k k2 (by decide)⟩
section
variable {F T L B n O m t c : Nat} {σs σ : St} {ds : Int64} (xs : Nat → Int32) (L0 : Nat)
/-- THE INSTANCES OF A KEPT THEOREM -/
theorem l790 {kh : St → Int32 → Int64 → Int32 → Int32 → Option Unit} (hk : HK F t σs ds kh) (hc : c < F) : ∀ d l n (σ : St), l + d = 8 → d < n → JX F (T + 1) 0 0 0 0 0 (t + 1) σs σ → σ.1 22 T = nI c →
    mL_law_790 xs L0 kh n σ (nI F) ds (nI T) (nI t) (nI c) (nI l) = some () := by
  intro d
  induction d with
  | zero =>
    intro l n σ hl hn j e22
    obtain ⟨n, rfl⟩ : ∃ m, n = m + 1 := ⟨n - 1, by omega⟩
    have : l = 8 := by omega
    subst this
    show bL_law_790 xs L0 kh (mL_law_790 xs L0 kh n) σ (nI F) ds (nI T) (nI t) (nI c) (nI 8) = some ()
    unfold bL_law_790
    rw [if_pos (show (8 : Int32) ≤ nI 8 by decide)]
    exact l881 xs L0 hk ⟨_, _, _, _, _, j⟩
  | succ d ih =>
    intro l n σ hl hn j e22
    obtain ⟨n, rfl⟩ : ∃ m, n = m + 1 := ⟨n - 1, by omega⟩
    have g := j.1
    obtain ⟨r, σ', i1, i2, i3⟩ := op_inst (l := l) g (Nat.lt_succ_self T) hc e22 (by omega)
    have j' := j.sc i2
    have e22' : σ'.1 22 T = nI c := by rw [i2.1 22 (by decide)]; exact e22
    have nx : mL_law_875 xs L0 kh (mL_law_790 xs L0 kh n) σ' (nI F) ds (nI T) (nI t) (nI c) (nI l) = some () := by
      unfold mL_law_875
      rw [bnd_e, nI_1]
      exact ih (l + 1) n σ' (by omega) (by omega) j' e22'
    show bL_law_790 xs L0 kh (mL_law_790 xs L0 kh n) σ (nI F) ds (nI T) (nI t) (nI c) (nI l) = some ()
    unfold bL_law_790
    rw [if_neg (show ¬ (8 : Int32) ≤ nI l from nI_ge (b := 8) (by omega) (by omega)), qf_3 g hc, ob_s]
    rcases i3 with ⟨b1, p, hp, rfl, p1, p2⟩ | ⟨b1, rfl⟩
    · rw [if_pos b1]
      unfold mL_law_818
      rw [i1, ob_s]
      dsimp only
      have hF := g.le.1
      rw [if_neg (show ¬ (1 : Int32) = 0 by decide), if_neg (show ¬ nI p < 0 from nI_pos (by omega)), qf_0 j'.1 hp, ob_s, i2.1 12 (by decide), p1, if_pos (show nI 0 = 0 from rfl), qf_1 j'.1 hp, ob_s, i2.1 13 (by decide), p2, if_pos rfl]
      exact nx
    · rw [if_neg b1]
      unfold mL_law_818
      rw [i1, ob_s]
      dsimp only
      rw [if_pos rfl, if_pos (show mI = -1 from rfl)]
      exact nx
/-- A THEOREM IS KEPT -/
theorem l750 {kh : St → Int32 → Int64 → Int32 → Int32 → Option Unit} (hk : HK F t σs ds kh) (hc : c < F) (j : JX F (T + 1) 0 0 0 0 0 (t + 1) σs σ) (hm : m ≤ 2) (e22 : σ.1 22 T = nI c) (ep : mX6_premises σ (nI T) = some (nI m)) (taut : m = 0 → ∀ q, q < 256 → tv σ c q = true) :
    mL_law_750 xs L0 kh σ (nI F) ds (nI T) (nI t) (nI c) (nI m) = some () := by
  unfold mL_law_750
  by_cases h0 : m = 0
  · subst h0
    obtain ⟨σ', a1, a2, u, a3, a4, a5, a6⟩ := op_13 j.1 (Nat.lt_succ_self T) hc e22 ep (taut rfl)
    rw [if_pos (show nI 0 = 0 from rfl), a1, ob_s]
    dsimp only
    rw [if_pos (show nI 0 = 0 from rfl), a2, ob_s, if_pos (show nI 0 = 0 from rfl), a3, ob_s]
    dsimp only
    rw [if_pos (show nI 0 = 0 from rfl)]
    unfold mL_law_787
    exact l790 xs L0 hk hc 8 0 NF u (by omega) (by show 8 < 1000; omega) (j.go a4 a5 a6 (by omega)) (by rw [a5 22 (by decide)]; exact e22)
  · rw [if_neg (nI_ne0 (by omega) (by omega))]
    unfold mL_law_787
    exact l790 xs L0 hk hc 8 0 NF σ (by omega) (by show 8 < 1000; omega) j e22
/-- NO THEOREM IS KEPT -/
theorem l630_0 {kh : St → Int32 → Int64 → Int32 → Int32 → Option Unit} (hk : HK F t σs ds kh) (j : JJ F T (t + 1) σs σ) (x : Int32) : mL_law_630 xs L0 kh σ (nI F) ds (nI T) (nI t) x 0 = some () := by
  unfold mL_law_630
  rw [if_pos rfl]
  exact l884 xs L0 hk j
theorem l630_1 {kh : St → Int32 → Int64 → Int32 → Int32 → Option Unit} (hk : HK F t σs ds kh) (j : JX F T (L + 1) B n 0 m (t + 1) σs σ) (hb : σ.1 33 L = mI) (x : Int32) : mL_law_630 xs L0 kh σ (nI F) ds (nI T) (nI t) x 1 = some () := by
  have g := j.1
  have gl := g.le
  unfold mL_law_630
  obtain ⟨w, hw, ew⟩ := bw σ (x >>> (8 &&& 31)) (N := 4) (by omega) (by omega)
  have ew' : mL_below σ (x >>> (8 &&& 31)) 4 = some (nI w) := ew
  rw [if_neg (show ¬ (1 : Int32) = 0 by decide), ew', ob_s]
  by_cases w0 : w = 0
  · subst w0
    rw [if_pos (show nI 0 = 0 from rfl)]
    by_cases h16 : 16 ≤ T
    · rw [if_pos (show (16 : Int32) ≤ nI T from nI_le (a := 16) h16 (by omega))]
      exact l884 xs L0 hk ⟨_, _, _, _, _, j⟩
    · obtain ⟨f, f1, f2, f3⟩ := q_lf g (Nat.lt_succ_self L)
      obtain ⟨c, σ', e1, e2, e3, e4, e5, e6, e7, e8, e9, e10⟩ := op_end g hb (by omega)
      rw [if_neg (show ¬ (16 : Int32) ≤ nI T from nI_ge (b := 16) (by omega) (by omega)), qc_3 g, ob_s]
      dsimp only
      rw [nI_pred, ql_0 g (Nat.lt_succ_self L), ob_s]
      dsimp only
      rw [qc_6 g, ob_s]
      dsimp only
      rw [e1, ob_s]
      dsimp only
      have e22 : σ'.1 22 T = nI f := by rw [e5, pk_us, f2]
      have e25 : σ'.1 25 T = nI (L + 1) := by rw [e6, pk_us]
      have e26 : σ'.1 26 T = nI c := by rw [e7, pk_us]
      rw [if_pos rfl, qt_0 e4 (Nat.lt_succ_self T), ob_s, e22, f2, if_pos rfl, qt_1 e4 (Nat.lt_succ_self T) e10, ob_s, if_pos rfl, qt_5 e4 (Nat.lt_succ_self T), ob_s, qt_4 e4 (Nat.lt_succ_self T), ob_s, e26, e25, if_pos (nI_le (by omega) (by omega))]
      have j' : JX F (T + 1) 0 0 0 0 0 (t + 1) σs σ' := by
        obtain ⟨_, j1, j2, j3⟩ := j
        refine ⟨e4, ?_, fun i hi => ?_, j3.k e8 e9 (by decide)⟩
        · rw [sr_s, Nat.zero_add, e25, n_cl (by omega), sr_c T 0 (fun i _ hi => by rw [e6, pk_un (by omega)])]
          omega
        · by_cases ei : i = T
          · subst ei
            exact ⟨c, e2, by omega, e26⟩
          · rw [e7, pk_un ei]
            exact j2 i (by omega)
      have tt : m = 0 → ∀ q, q < 256 → tv σ' f q = true := fun hm q hq => by
        subst hm
        have h := q_taut g (Nat.lt_succ_self L) hb q hq
        rw [f3] at h
        unfold tv at h ⊢
        rw [e9]
        exact h
      by_cases m0 : m = 0
      · have hm := m0
        subst m0
        rw [if_pos (show nI 0 = 0 from rfl), qf_4 e4 f1 (tt rfl), ob_s, if_pos (show nI 256 = 256 from rfl)]
        exact l750 xs L0 hk f1 j' (by omega) e22 e10 tt
      · rw [if_neg (nI_ne0 (by omega) (by omega))]
        exact l750 xs L0 hk f1 j' (by omega) e22 e10 tt
  · rw [if_neg (nI_ne0 (by omega) (by omega))]
    exact l884 xs L0 hk ⟨_, _, _, _, _, j⟩
/-- MAY A THEOREM BE KEPT -/
theorem l594 {kh : St → Int32 → Int64 → Int32 → Int32 → Option Unit} (hk : HK F t σs ds kh) (j : JX F T L B n O m (t + 1) σs σ) (x : Int32) : mL_law_594 xs L0 kh σ (nI F) ds (nI T) (nI t) x = some () := by
  have g := j.1
  have gl := g.le
  have no : mL_law_629 xs L0 kh σ (nI F) ds (nI T) (nI t) x = some () := l630_0 xs L0 hk ⟨_, _, _, _, _, j⟩ x
  unfold mL_law_594
  rw [qc_3 g, ob_s]
  dsimp only
  cases L with
  | zero =>
    rw [if_pos (show nI 0 ≤ 0 by decide)]
    exact no
  | succ L =>
    rw [if_neg (show ¬ nI (L + 1) ≤ 0 from nI_ge (a := 0) (by omega) (by omega)), qc_5 g, ob_s]
    dsimp only
    cases O with
    | zero =>
      rw [if_pos (show nI 0 = 0 from rfl), qc_3 g, ob_s]
      dsimp only
      obtain ⟨b1, b2⟩ := ql_5 g (Nat.lt_succ_self L)
      rw [nI_pred, b1, ob_s]
      dsimp only
      rcases b2 with e | ⟨b, hb, e⟩
      · rw [e, if_neg (show ¬ (0 : Int32) ≤ mI by decide)]
        exact l630_1 xs L0 hk j e x
      · rw [e, if_pos (show (0 : Int32) ≤ nI b from nI_le (a := 0) (by omega) (by omega))]
        exact no
    | succ O =>
      rw [if_neg (nI_ne0 (by omega) (by omega))]
      exact no
theorem l553 {kh : St → Int32 → Int64 → Int32 → Int32 → Option Unit} (hk : HK F t σs ds kh) (j : JX F T L B n O m (t + 1) σs σ) (x : Int32) : mL_law_553 xs L0 kh σ (nI F) ds (nI T) (nI t) x = some () := by
  have gl := j.1.le
  obtain ⟨c, σ', c1, c2, c3⟩ := qc_8 j.1
  have j' := j.sc c3
  have g := j'.1
  unfold mL_law_553
  rw [c1, ob_s]
  dsimp only
  rw [qc_3 g, ob_s]
  dsimp only
  rw [if_neg (show ¬ nI L < nI c by rw [c_lt (by omega) (by omega)]; omega), qc_3 g, ob_s]
  dsimp only
  cases L with
  | zero =>
    rw [if_pos (show nI 0 ≤ 0 by decide)]
    exact l594 xs L0 hk j' x
  | succ L =>
    obtain ⟨σ2, d1, d2⟩ := ql_7 g
    rw [if_neg (show ¬ nI (L + 1) ≤ 0 from nI_ge (a := 0) (by omega) (by omega)), qc_3 g, ob_s]
    dsimp only
    rw [nI_pred, d1, ob_s]
    dsimp only
    rw [if_pos (show nI 1 = 1 from rfl)]
    exact l594 xs L0 hk (j'.sc d2) x
/-- EACH LINE IS LOOKED AT -/
theorem l487 {kh : St → Int32 → Int64 → Int32 → Int32 → Option Unit} (hk : HK F t σs ds kh) (x : Int32) (j : JX F T L B n O m (t + 1) σs σ) : ∀ d i n, i + d = L → d < n → mL_law_487 xs L0 kh n σ (nI F) ds (nI T) (nI t) x (nI i) = some () := by
  have g := j.1
  have gl := g.le
  intro d
  induction d with
  | zero =>
    intro i n hi hn
    obtain ⟨n, rfl⟩ : ∃ m, n = m + 1 := ⟨n - 1, by omega⟩
    have : i = L := by omega
    subst this
    show bL_law_487 xs L0 kh (mL_law_487 xs L0 kh n) σ (nI F) ds (nI T) (nI t) x (nI i) = some ()
    unfold bL_law_487
    rw [qc_3 g, ob_s]
    dsimp only
    rw [if_pos (nI_le (Nat.le_refl _) (by omega))]
    exact l553 xs L0 hk j x
  | succ d ih =>
    intro i n hi hn
    obtain ⟨n, rfl⟩ : ∃ m, n = m + 1 := ⟨n - 1, by omega⟩
    have nx : mL_law_547 xs L0 kh (mL_law_487 xs L0 kh n) σ (nI F) ds (nI T) (nI t) x (nI i) = some () := by
      unfold mL_law_547
      rw [bnd_e, nI_1]
      exact ih (i + 1) n (by omega) (by omega)
    show bL_law_487 xs L0 kh (mL_law_487 xs L0 kh n) σ (nI F) ds (nI T) (nI t) x (nI i) = some ()
    unfold bL_law_487
    rw [qc_3 g, ob_s]
    dsimp only
    rw [if_neg (nI_ge (by omega) (by omega)), q_fails g (show i < L by omega), ob_s, if_pos (show nI 0 = 0 from rfl), qc_6 g, ob_s]
    dsimp only
    by_cases m0 : m = 0
    · subst m0
      obtain ⟨b1, b2⟩ := ql_5 g (show i < L by omega)
      rw [if_pos (show nI 0 = 0 from rfl), b1, ob_s]
      dsimp only
      rcases b2 with e | ⟨b, hb, e⟩
      · obtain ⟨f, f1, f2, f3⟩ := q_lf g (show i < L by omega)
        have tt : ∀ q, q < 256 → tv σ f q = true := fun q hq => by rw [← f3]; exact q_taut g (by omega) e q hq
        rw [e, if_neg (show ¬ (0 : Int32) ≤ mI by decide), ql_0 g (show i < L by omega), ob_s]
        dsimp only
        rw [f2, qf_4 g f1 tt, ob_s, if_pos (show nI 256 = 256 from rfl)]
        exact nx
      · rw [e, if_pos (show (0 : Int32) ≤ nI b from nI_le (a := 0) (by omega) (by omega))]
        exact nx
    · rw [if_neg (nI_ne0 (by omega) (by omega))]
      exact nx
theorem l484 {kh : St → Int32 → Int64 → Int32 → Int32 → Option Unit} (hk : HK F t σs ds kh) (j : JX F T L B n O m (t + 1) σs σ) (x : Int32) : mL_law_484 xs L0 kh σ (nI F) ds (nI T) (nI t) x = some () := by
  have gl := j.1.le
  exact l487 xs L0 hk x j L 0 NF (by omega) (by show L < 1000; omega)
end
