/-- the state before a deed, to which it can be taken back -/
def WAS (F T t : Nat) (σs : St) (db : Int64) (σ : St) : Prop := ∃ σb L B n O m, JX F T L B n O m t σs σb ∧ DG db σb ∧ UN F T L B n O m σb σ
theorem WAS.sc {F T t : Nat} {σs σ s : St} {db : Int64} (h : WAS F T t σs db σ) (k : SC σ s) : WAS F T t σs db s := by
  obtain ⟨σb, L, B, n, O, m, a, b, c⟩ := h
  exact ⟨σb, L, B, n, O, m, a, b, fun u hu => c u (k.tr hu)⟩
section
variable {F T L B n O m t f : Nat} {σs σ : St} {ds db : Int64} (xs : Nat → Int32) (L0 : Nat)
theorem l450_0 {kh : St → Int32 → Int64 → Int32 → Int32 → Option Unit} (hk : HK F t σs ds kh) (j : JX F T L B n O m (t + 1) σs σ) (x : Int32) : mL_law_450 xs L0 kh σ (nI F) ds (nI T) (nI t) x db 0 = some () := by
  unfold mL_law_450
  rw [if_pos rfl]
  exact l484 xs L0 hk j x
theorem l450_1 {kh : St → Int32 → Int64 → Int32 → Int32 → Option Unit} (hk : HK F t σs ds kh) (j : JX F T L B n O m (t + 1) σs σ) (w : WAS F T t σs db σ) (x : Int32) : mL_law_450 xs L0 kh σ (nI F) ds (nI T) (nI t) x db 1 = some () := by
  unfold mL_law_450
  obtain ⟨i, hi, ei⟩ := bw σ (x >>> (6 &&& 31)) (N := 3) (by omega) (by omega)
  have ei' : mL_below σ (x >>> (6 &&& 31)) 3 = some (nI i) := ei
  rw [if_neg (show ¬ (1 : Int32) = 0 by decide), ei', ob_s]
  by_cases i0 : i = 0
  · subst i0
    obtain ⟨σb, Lb, Bb, nb, Ob, mb, jb, hd, un⟩ := w
    obtain ⟨u, u1, u2, u3, u4, u5⟩ := un σ SC.rf
    obtain ⟨M, m1, m2⟩ := jb.1.pp
    obtain ⟨u', v1, v2⟩ := (hd.lv (u5 M m1 m2)).ask u2
    have ju : JX F T Lb Bb nb Ob mb (t + 1) σs u := jb.go u2 (u3.wk (by decide)) u4 (by omega)
    rw [if_pos (show nI 0 = 0 from rfl), u1, ob_s]
    dsimp only
    rw [v1, ob_s]
    dsimp only
    rw [if_pos lcmp_same]
    exact l884 xs L0 hk ⟨_, _, _, _, _, ju.sc v2⟩
  · rw [if_neg (nI_ne0 (by omega) (by omega))]
    exact l484 xs L0 hk j x
theorem l433_0 {kh : St → Int32 → Int64 → Int32 → Int32 → Option Unit} (hk : HK F t σs ds kh) (j : JX F T L B n O m (t + 1) σs σ) (hd : DG db σ) (x : Int32) : mL_law_433 xs L0 kh σ (nI F) ds (nI T) (nI t) x db 0 = some () := by
  unfold mL_law_433
  obtain ⟨σ', e1, e2⟩ := hd.ask j.1
  rw [if_pos rfl, e1, ob_s]
  dsimp only
  rw [if_pos lcmp_same]
  exact l450_0 xs L0 hk (j.sc e2) x
theorem l433_1 {kh : St → Int32 → Int64 → Int32 → Int32 → Option Unit} (hk : HK F t σs ds kh) (j : JX F T L B n O m (t + 1) σs σ) (w : WAS F T t σs db σ) (x : Int32) : mL_law_433 xs L0 kh σ (nI F) ds (nI T) (nI t) x db 1 = some () := by
  unfold mL_law_433
  rw [if_neg (show ¬ (1 : Int32) = 0 by decide)]
  exact l450_1 xs L0 hk j w x
/-- A STEP OR A HINT -/
theorem l296 {kh : St → Int32 → Int64 → Int32 → Int32 → Option Unit} (hk : HK F t σs ds kh) (j : JX F T L B n O m t σs σ) (hd : DG db σ) (hf : f < F) (ht : t < 30) (x way : Int32) : mL_law_296 xs L0 kh σ (nI F) ds (nI T) (nI t) x (nI f) way db (nI L) 0 = some () := by
  have g := j.1
  have hL : L < 60 := by have := j.2.1; omega
  unfold mL_law_296
  by_cases h6 : 6 ≤ way
  · obtain ⟨r, r1, r2⟩ := bw σ (x >>> (7 &&& 31)) (N := 13) (by omega) (by omega)
    have r2' : mL_below σ (x >>> (7 &&& 31)) 13 = some (nI r) := r2
    obtain ⟨a, a1, a2⟩ := bw σ (x >>> (2 &&& 31)) (N := L + 1) (by omega) (by omega)
    obtain ⟨b, b1, b2⟩ := bw σ (x >>> (5 &&& 31)) (N := L + 1) (by omega) (by omega)
    obtain ⟨c, c1, c2⟩ := bw σ (x >>> (9 &&& 31)) (N := L + 1) (by omega) (by omega)
    obtain ⟨why, σ', e1, e2, e3, e4, e5, e6, _⟩ := op_step g (show r ≤ 12 by omega) hf hL (nI a) (nI b) (nI c)
    rw [if_pos h6, nI_1, r2', ob_s, a2, ob_s, b2, ob_s, c2, ob_s, e2, ob_s]
    dsimp only
    by_cases w0 : why = 0
    · subst w0
      obtain ⟨g', un, _⟩ := e4 rfl
      rw [if_pos (show nI 0 = 0 from rfl)]
      exact l433_1 xs L0 hk (j.up g' e5 e6 (by omega)) ⟨_, _, _, _, _, _, j, hd, un⟩ x
    · rw [if_neg (nI_ne0 (by omega) (by omega))]
      exact l433_0 xs L0 hk (j.t.sc (e3 w0)) (hd.sc g (e3 w0)) x
  · obtain ⟨o, h1, h2⟩ := op_hint g hf
    rw [if_neg h6]
    obtain ⟨s1, k1, y1⟩ := h1 σ SC.rf 0 (by omega)
    cases o with
    | none =>
      have y1' : mX7_hint σ (nI f) 0 = some (mI, s1) := y1
      rw [y1', ob_s]
      dsimp only
      rw [if_pos (show mI < 0 by decide)]
      exact l433_0 xs L0 hk (j.t.sc k1) (hd.sc g k1) x
    | some q =>
      obtain ⟨q1, q2⟩ := h2 q rfl
      obtain ⟨s2, k2, y2⟩ := h1 s1 k1 1 (by omega)
      have k2' := k1.tr k2
      obtain ⟨s3, k3, y3⟩ := h1 s2 k2' 2 (by omega)
      have k3' := k2'.tr k3
      obtain ⟨s4, k4, y4⟩ := h1 s3 k3' 3 (by omega)
      have k4' := k3'.tr k4
      have y1' : mX7_hint σ (nI f) 0 = some (nI q.1, s1) := y1
      have y2' : mX7_hint s1 (nI f) 1 = some (nI q.2.1, s2) := y2
      have y3' : mX7_hint s2 (nI f) 2 = some (nI q.2.2.1, s3) := y3
      have y4' : mX7_hint s3 (nI f) 3 = some (nI q.2.2.2, s4) := y4
      have g4 := g.sc k4'
      obtain ⟨why, σ', e1, e2, e3, e4, e5, e6, e7⟩ := op_step g4 q1 hf hL (nI q.2.1) (nI q.2.2.1) (nI q.2.2.2)
      have w0 := e7 s4 (q2 s4 k4')
      subst w0
      obtain ⟨g', un, e30⟩ := e4 rfl
      rw [y1', ob_s]
      dsimp only
      rw [if_neg (show ¬ nI q.1 < 0 from nI_pos (by omega)), y2', ob_s]
      dsimp only
      rw [y3', ob_s]
      dsimp only
      rw [y4', ob_s]
      dsimp only
      rw [e2, ob_s]
      dsimp only
      rw [if_pos (show nI 0 = 0 from rfl), ql_1 g' (Nat.lt_succ_self L), ob_s]
      dsimp only
      rw [e30, if_pos rfl]
      exact l433_1 xs L0 hk ((j.sc k4').up g' e5 e6 (by omega)) ⟨_, _, _, _, _, _, j.sc k4', hd.sc g k4', un⟩ x
/-- A PREMISE -/
theorem l252 {kh : St → Int32 → Int64 → Int32 → Int32 → Option Unit} (hk : HK F t σs ds kh) (j : JX F T L B n O m t σs σ) (hd : DG db σ) (hf : f < F) (ht : t < 30) (x way : Int32) : mL_law_252 xs L0 kh σ (nI F) ds (nI T) (nI t) x (nI f) way db (nI L) 0 = some () := by
  have g := j.1
  have gl := g.le
  have no := l296 xs L0 hk j hd hf ht x way
  unfold mL_law_252
  by_cases w2 : way = 2
  · rw [if_pos w2]
    by_cases L2 : 2 ≤ L
    · rw [if_pos (show (2 : Int32) ≤ nI L from nI_le (a := 2) L2 (by omega))]
      exact no
    · rw [if_neg (show ¬ (2 : Int32) ≤ nI L from nI_ge (b := 2) (by omega) (by omega)), qc_6 g, ob_s]
      dsimp only
      by_cases em : m = L
      · subst em
        obtain ⟨σ', e1, e2, e3, e4, e5⟩ := op_premise g hf (by omega)
        rw [if_pos rfl, e1, ob_s]
        dsimp only
        rw [if_pos rfl]
        exact l433_1 xs L0 hk (j.up e2 e4 e5 (by omega)) ⟨_, _, _, _, _, _, j, hd, e3⟩ x
      · rw [if_neg (by rw [c_eq (by omega) (by omega)]; exact em)]
        exact no
  · rw [if_neg w2]
    exact no
/-- A BOX IS CLOSED -/
theorem l227 {kh : St → Int32 → Int64 → Int32 → Int32 → Option Unit} (hk : HK F t σs ds kh) (j : JX F T L B n O m t σs σ) (hd : DG db σ) (hf : f < F) (ht : t < 30) (x way : Int32) : mL_law_227 xs L0 kh σ (nI F) ds (nI T) (nI t) x (nI f) way db (nI L) 0 = some () := by
  have g := j.1
  have gl := g.le
  have no := l252 xs L0 hk j hd hf ht x way
  unfold mL_law_227
  by_cases w1 : way = 1
  · rw [if_pos w1, qc_5 g, ob_s]
    dsimp only
    cases O with
    | zero =>
      rw [if_pos (show nI 0 ≤ 0 by decide)]
      exact no
    | succ O =>
      obtain ⟨b, σ', e1, e2, e3, e4, e5⟩ := op_close g
      rw [if_neg (show ¬ nI (O + 1) ≤ 0 from nI_ge (a := 0) (by omega) (by omega)), e1, ob_s]
      dsimp only
      exact l433_1 xs L0 hk (j.up e2 e4 e5 (by omega)) ⟨_, _, _, _, _, _, j, hd, e3⟩ x
  · rw [if_neg w1]
    exact no
/-- THE DEEDS -/
theorem l127 (hF : 1 ≤ F) (hg : GI F 0 0 0 0 0 0 σs) (hs : DG ds σs) : ∀ d t n T (σ : St), t + d = 30 → d < n → JJ F T t σs σ → mL_law_127 xs L0 n σ (nI F) ds (nI T) (nI t) = some () := by
  intro d
  induction d with
  | zero =>
    intro t n T σ h1 h2 j
    obtain ⟨n, rfl⟩ : ∃ m, n = m + 1 := ⟨n - 1, by omega⟩
    have : t = 30 := by omega
    subst this
    obtain ⟨L, B, n', O, m, j⟩ := j
    show bL_law_127 xs L0 (mL_law_127 xs L0 n) σ (nI F) ds (nI T) (nI 30) = some ()
    unfold bL_law_127
    rw [if_pos (show (30 : Int32) ≤ nI 30 by decide)]
    exact l890 xs L0 j hg hs
  | succ d ih =>
    intro t n T σ h1 h2 j
    obtain ⟨n, rfl⟩ : ∃ m, n = m + 1 := ⟨n - 1, by omega⟩
    obtain ⟨L, B, n', O, m, j⟩ := j
    have hk : HK F t σs ds (mL_law_127 xs L0 n) := fun T σ j => ih (t + 1) n T σ (by omega) (by omega) j
    have hF2 := hg.le.1
    have ht : t < 30 := by omega
    obtain ⟨r, er⟩ := cell_t xs L0 (i := 7 + t % 9) (by omega)
    have e9 : nI t - nI t / 9 * 9 = nI (t % 9) := pk_rem (d := 9) (by omega) (by omega) (by omega)
    have e7 : (7 : Int32) + nI (t % 9) = nI (7 + t % 9) := nI_add 7 _
    obtain ⟨x, ex⟩ : ∃ x, x = r >>> (((nI t / 9) * 5) &&& 31) := ⟨_, rfl⟩
    obtain ⟨f, hf, ef⟩ := bw σ (x >>> (4 &&& 31)) (N := F) (by omega) (by omega)
    obtain ⟨w, hw, ew⟩ := bw σ x (N := 9) (by omega) (by omega)
    have ew' : mL_below σ x 9 = some (nI w) := ew
    obtain ⟨db, σ1, d1, d2⟩ := q_dig j.1
    have hd : DG db σ1 := DG.sc ⟨σ1, d1⟩ j.1 d2
    have j1 := j.sc d2
    have g := j1.1
    have gl := g.le
    have no := l227 xs L0 hk j1 hd hf ht x (nI w)
    show bL_law_127 xs L0 (mL_law_127 xs L0 n) σ (nI F) ds (nI T) (nI t) = some ()
    unfold bL_law_127
    rw [if_neg (show ¬ (30 : Int32) ≤ nI t from nI_ge (b := 30) (by omega) (by omega)), e9, e7, er, ob_s, bnd_e, ← ex, ef, ob_s, ew', ob_s, d1, ob_s]
    dsimp only
    rw [qc_3 g, ob_s]
    dsimp only
    by_cases w0 : w = 0
    · subst w0
      rw [if_pos (show nI 0 = 0 from rfl), qc_5 g, ob_s]
      dsimp only
      by_cases O6 : 6 ≤ O
      · rw [if_pos (show (6 : Int32) ≤ nI O from nI_le (a := 6) O6 (by omega))]
        exact no
      · have hL : L < 60 := by have := j.2.1; omega
        obtain ⟨σ', e1, e2, e3, e4, e5⟩ := op_assume g hf (by omega) hL
        rw [if_neg (show ¬ (6 : Int32) ≤ nI O from nI_ge (b := 6) (by omega) (by omega)), e1, ob_s]
        dsimp only
        rw [if_pos rfl]
        exact l433_1 xs L0 hk (j1.up e2 e4 e5 (by omega)) ⟨_, _, _, _, _, _, j1, hd, e3⟩ x
    · rw [if_neg (nI_ne0 (by omega) (by omega))]
      exact no
end
/-- THE LAW HOLDS -/
theorem law_pure (xs : Nat → Int32) (L : Nat) : mL_law xs L σ0 = some () := by
  obtain ⟨F, σ, τ, h, e⟩ := mk_loop xs L 14 0 NF 0 σ0 τ0 (by omega) (by show 14 < 1000; omega) MI_0
  have g : GI F 0 0 0 0 0 0 σ := ⟨τ, h.qv, ⟨by omega, by omega, fun k hk => absurd hk (by omega)⟩, h.2.1, fun k hk => absurd hk (by omega), fun b hb => absurd hb (by omega)⟩
  obtain ⟨d, σ1, d1, d2⟩ := q_dig g
  have j : JX F 0 0 0 0 0 0 0 σ σ := ⟨g, Nat.le_refl _, fun i hi => absurd hi (by omega), fun c _ => rfl, rfl⟩
  have m : mL_law_127 xs L NF σ1 (nI F) d (nI 0) (nI 0) = some () := l127 xs L (h.2.2.2.1 (by omega)) g ⟨σ1, d1⟩ 30 0 NF 0 σ1 (by omega) (by show 30 < 1000; omega) ⟨_, _, _, _, _, j.sc d2⟩
  have e' : mL_law xs L σ0 = mL_law_116 xs L σ (nI F) := e
  rw [e']
  unfold mL_law_116
  rw [d1, ob_s]
  exact m
