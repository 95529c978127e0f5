theorem RX_add {F T L B n O r m : Nat} {σ τ σ' τ' : St} {a b c f : Int32} (hL : L < 60) (hr : r ≤ 15)
    (a1 : σ.1 9 0 = nI B) (a2 : τ.1 7 0 = nI B) (a3 : σ.1 10 0 = nI O) (a4 : σ.1 11 0 = τ.1 8 0)
    (b1 : σ.1 29 = τ.1 21 ∧ σ.1 30 = τ.1 22 ∧ σ.1 31 = τ.1 23 ∧ σ.1 33 = τ.1 24 ∧ σ.1 36 = τ.1 25 ∧ σ.1 37 = τ.1 26 ∧ σ.1 38 = τ.1 27)
    (c1 : ∀ i, i < n → DR (σ.1 35 i) (τ.1 28 i))
    (d1 : ∀ k, k < L → ∀ r, r ≤ 15 → τ.1 22 k = nI r → ∀ w, w < 3 → σ.1 32 (3 * k + w) = nI (kdN τ.1 r (τ.1 23 (3 * k)).toNatClampNeg w))
    (hm : r = 13 → ∃ t, t < T ∧ T ≤ 16 ∧ a = nI t ∧ m ≤ 2 ∧ τ.1 30 t = nI m)
    (s1 : KE kA σ σ') (s8 : σ'.1 8 0 = nI (L + 1)) (s7 : σ'.1 7 0 = nI (n + 1)) (s29 : σ'.1 29 = upd (σ.1 29) L f) (s30 : σ'.1 30 = upd (σ.1 30) L (nI r))
    (s31 : σ'.1 31 = upd (upd (upd (σ.1 31) (3 * L) (zr (kdM r m 0) a)) (3 * L + 1) (zr (kdM r m 1) b)) (3 * L + 2) (zr (kdM r m 2) c))
    (s32 : σ'.1 32 = upd (upd (upd (σ.1 32) (3 * L) (nI (kdM r m 0))) (3 * L + 1) (nI (kdM r m 1))) (3 * L + 2) (nI (kdM r m 2)))
    (s33 : σ'.1 33 = upd (σ.1 33) L (σ.1 11 0)) (s35 : σ'.1 35 = upd (σ.1 35) n mI)
    (t1 : KE kB τ τ') (t6 : τ'.1 6 0 = nI (L + 1)) (t9 : τ'.1 9 0 = nI (n + 1)) (t21 : τ'.1 21 = upd (τ.1 21) L f) (t22 : τ'.1 22 = upd (τ.1 22) L (nI r))
    (t23 : τ'.1 23 = upd (upd (upd (τ.1 23) (3 * L) (zr (kdM r m 0) a)) (3 * L + 1) (zr (kdM r m 1) b)) (3 * L + 2) (zr (kdM r m 2) c))
    (t24 : τ'.1 24 = upd (τ.1 24) L (τ.1 8 0)) (t28 : τ'.1 28 = upd (τ.1 28) n (nI L))
    (hh : Hist F T τ'.1 (n + 1) (L + 1) B O (τ'.1 8 0) (τ'.1 26)) : RX F T (L + 1) B (n + 1) O σ' τ' := by
  obtain ⟨e29, e30, e31, e33, e36, e37, e38⟩ := b1
  refine ⟨⟨s8, t6, ?_, ?_, s7, t9, ?_, ?_⟩, ⟨?_, ?_, ?_, ?_, ?_, ?_, ?_⟩, fun i hi => ?_, fun k hk r' hr' hk22 w hw => ?_, hh⟩
  · rw [s1 9 (by decide), a1]
  · rw [t1 7 (by decide), a2]
  · rw [s1 10 (by decide), a3]
  · rw [s1 11 (by decide), t1 8 (by decide), a4]
  · rw [s29, t21, e29]
  · rw [s30, t22, e30]
  · rw [s31, t23, e31]
  · rw [s33, t24, e33, a4]
  · rw [s1 36 (by decide), t1 25 (by decide), e36]
  · rw [s1 37 (by decide), t1 26 (by decide), e37]
  · rw [s1 38 (by decide), t1 27 (by decide), e38]
  · rw [s35, t28, up_1, up_1]
    by_cases e : i = n
    · rw [if_pos e, if_pos e]; exact Or.inl ⟨rfl, L, hL, rfl⟩
    · rw [if_neg e, if_neg e]; exact c1 i (by omega)
  · have hk30 : ∀ r a w, kdN τ'.1 r a w = kdN τ.1 r a w := fun r a w => by unfold kdN; rw [t1 30 (by decide)]
    rw [hk30]
    by_cases e : k < L
    · rw [t22, pk_un (by omega)] at hk22
      rw [s32, t23, pk_un (by omega), pk_un (by omega), pk_un (by omega), pk_un (by omega), pk_un (by omega), pk_un (by omega)]
      exact d1 k e r' hr' hk22 w hw
    · have : k = L := by omega
      subst this
      rw [t22, pk_us, c_eq (by omega) (by omega)] at hk22
      subst hk22
      have e23 : τ'.1 23 (3 * k) = zr (kdM r m 0) a := by rw [t23, pk_un (by omega), pk_un (by omega), pk_us]
      have eN : kdN τ.1 r (τ'.1 23 (3 * k)).toNatClampNeg w = kdM r m w := by
        rw [e23]
        unfold kdN kdM
        by_cases h13 : r = 13
        · obtain ⟨t, t1', t2', t3', t4', t5'⟩ := hm h13
          subst h13
          rw [if_pos rfl, if_pos rfl, if_pos rfl, if_pos rfl, t3']
          have : (zr 3 (nI t)).toNatClampNeg = t := n_cl (by omega)
          rw [this, t5', n_cl (by omega)]
        · rw [if_neg h13, if_neg h13]
      rw [eN, s32]
      have hw3 : w = 0 ∨ w = 1 ∨ w = 2 := by omega
      rcases hw3 with rfl | rfl | rfl
      · show upd (upd (upd (σ.1 32) (3 * k) (nI (kdM r m 0))) (3 * k + 1) (nI (kdM r m 1))) (3 * k + 2) (nI (kdM r m 2)) (3 * k) = _
        rw [pk_un (by omega), pk_un (by omega), pk_us]
      · rw [pk_un (by omega), pk_us]
      · rw [pk_us]
theorem RX_un {F T L B n O : Nat} {σ τ σ' τ' : St} {lσ lτ : List Nat} (hT : T ≤ 16) (kσ : KE lσ σ σ') (kτ : KE lτ τ τ') (hσ : ∀ c, c ∈ [29, 30, 31, 32, 33, 35, 36, 38] → c ∉ lσ) (hτ : ∀ c, c ∈ [21, 22, 23, 24, 25, 27, 28, 30] → c ∉ lτ)
    (b1 : σ.1 29 = τ.1 21 ∧ σ.1 30 = τ.1 22 ∧ σ.1 31 = τ.1 23 ∧ σ.1 33 = τ.1 24 ∧ σ.1 36 = τ.1 25 ∧ σ.1 37 = τ.1 26 ∧ σ.1 38 = τ.1 27)
    (c1 : ∀ i, i < n → DR (σ.1 35 i) (τ.1 28 i))
    (d1 : ∀ k, k < L → ∀ r, r ≤ 15 → τ.1 22 k = nI r → ∀ w, w < 3 → σ.1 32 (3 * k + w) = nI (kdN τ.1 r (τ.1 23 (3 * k)).toNatClampNeg w))
    (h8 : σ'.1 8 0 = nI L ∧ τ'.1 6 0 = nI L ∧ σ'.1 9 0 = nI B ∧ τ'.1 7 0 = nI B ∧ σ'.1 7 0 = nI n ∧ τ'.1 9 0 = nI n ∧ σ'.1 10 0 = nI O ∧ σ'.1 11 0 = τ'.1 8 0)
    (h37 : σ'.1 37 = τ'.1 26) (hH : Hist F T τ.1 n L B O (τ'.1 8 0) (τ'.1 26)) : RX F T L B n O σ' τ' := by
  obtain ⟨e29, e30, e31, e33, e36, e37, e38⟩ := b1
  refine ⟨h8, ⟨?_, ?_, ?_, ?_, ?_, h37, ?_⟩, fun i hi => ?_, fun k hk r hr h22 w hw => ?_, ?_⟩
  · rw [kσ 29 (hσ _ (by decide)), kτ 21 (hτ _ (by decide)), e29]
  · rw [kσ 30 (hσ _ (by decide)), kτ 22 (hτ _ (by decide)), e30]
  · rw [kσ 31 (hσ _ (by decide)), kτ 23 (hτ _ (by decide)), e31]
  · rw [kσ 33 (hσ _ (by decide)), kτ 24 (hτ _ (by decide)), e33]
  · rw [kσ 36 (hσ _ (by decide)), kτ 25 (hτ _ (by decide)), e36]
  · rw [kσ 38 (hσ _ (by decide)), kτ 27 (hτ _ (by decide)), e38]
  · rw [kσ 35 (hσ _ (by decide)), kτ 28 (hτ _ (by decide))]; exact c1 i hi
  · rw [kτ 22 (hτ _ (by decide))] at h22
    rw [kσ 32 (hσ _ (by decide)), kτ 23 (hτ _ (by decide)), d1 k hk r hr h22 w hw]
    unfold kdN
    rw [kτ 30 (hτ _ (by decide))]
  · exact Hist.c hT (Nat.le_refl _) _ _ _ _ _ _ _ hH ⟨fun k hk => ⟨by rw [kτ 21 (hτ _ (by decide))], by rw [kτ 22 (hτ _ (by decide))], by rw [kτ 24 (hτ _ (by decide))], fun w hw => by rw [kτ 23 (hτ _ (by decide))]⟩, fun b hb => ⟨by rw [kτ 25 (hτ _ (by decide))], by rw [kτ 27 (hτ _ (by decide))]⟩, fun i hi => by rw [kτ 28 (hτ _ (by decide))], fun t ht => by rw [kτ 30 (hτ _ (by decide))]⟩ (fun _ _ => rfl)
theorem line_rx {F T L B n O r m : Nat} {σ τ : St} {a b c : Int32} {f : Nat} (hT : T ≤ 16) (hf : f < F) (hL : L < 60) (hr : r ≤ 15) (h14 : r ≠ 14)
    (a8 : σ.1 8 0 = nI L) (a6 : τ.1 6 0 = nI L) (a1 : σ.1 9 0 = nI B) (a2 : τ.1 7 0 = nI B) (a7 : σ.1 7 0 = nI n) (a9 : τ.1 9 0 = nI n) (a3 : σ.1 10 0 = nI O) (a4 : σ.1 11 0 = τ.1 8 0)
    (b1 : σ.1 29 = τ.1 21 ∧ σ.1 30 = τ.1 22 ∧ σ.1 31 = τ.1 23 ∧ σ.1 33 = τ.1 24 ∧ σ.1 36 = τ.1 25 ∧ σ.1 37 = τ.1 26 ∧ σ.1 38 = τ.1 27)
    (c1 : ∀ i, i < n → DR (σ.1 35 i) (τ.1 28 i))
    (d1 : ∀ k, k < L → ∀ r, r ≤ 15 → τ.1 22 k = nI r → ∀ w, w < 3 → σ.1 32 (3 * k + w) = nI (kdN τ.1 r (τ.1 23 (3 * k)).toNatClampNeg w))
    (hH : Hist F T τ.1 n L B O (τ.1 8 0) (τ.1 26))
    (hm : r = 13 → (∃ t, t < T ∧ a = nI t ∧ m ≤ 2 ∧ τ.1 30 t = nI m) ∧ mX6_premises σ a = some (nI m))
    (hp : r = 15 → L < 2 ∧ ∀ j, j < L → τ.1 22 j = nI 15)
    (hrf : ∀ w, w < 3 → (kdM r m w = 1 → ∃ j, j < L ∧ r3 a b c w = nI j) ∧ (kdM r m w = 2 → ∃ b', b' < B ∧ r3 a b c w = nI b' ∧ ∃ j, j < L ∧ τ.1 26 b' = nI j)) :
    ∃ σ' τ', mX3_add σ (nI f) (nI r) a b c = some (nI L, σ') ∧ mX8_add τ (nI f) (nI r) (zr (kdM r m 0) a) (zr (kdM r m 1) b) (zr (kdM r m 2) c) = some (nI L, τ') ∧
      KE kA σ σ' ∧ KE kB τ τ' ∧ σ'.2 = σ.2 ∧ RX F T (L + 1) B (n + 1) O σ' τ' ∧ σ'.1 29 = upd (σ.1 29) L (nI f) ∧ σ'.1 30 = upd (σ.1 30) L (nI r) ∧ (∀ p, p < 3 * L → σ'.1 31 p = σ.1 31 p ∧ σ'.1 32 p = σ.1 32 p) ∧ σ'.1 33 = upd (σ.1 33) L (σ.1 11 0) ∧ σ'.1 35 = upd (σ.1 35) n mI := by
  have hI := hH.inv
  have hn := Hist.n _ _ _ _ _ _ hH
  have hBL := hI.1.2.1
  obtain ⟨σ', x1, x2, x3, x4, x5, x6, x7, x8, x9, x10, x11⟩ := x3_add (m := m) hL (by omega) a8 a7 hr (fun h => ⟨by obtain ⟨⟨t, _, _, h2, _⟩, _⟩ := hm h; exact h2, (hm h).2⟩) (nI f) b c
  obtain ⟨τ', y1, y2, y3, y4, y5, y6, y7, y8, y9⟩ := x8_add hL (by omega) a6 a9 (nI f) (nI r) (zr (kdM r m 0) a) (zr (kdM r m 1) b) (zr (kdM r m 2) c)
  have hg : GA T n L B τ.1 τ'.1 := GA_add y2 y5 y6 y7 y8 y9
  have hnew : LK F T (L + 1) B τ'.1 (τ.1 26) L := by
    refine ⟨⟨f, hf, by rw [y5, pk_us]⟩, ?_, r, hr, by rw [y6, pk_us], fun h13 => ?_, fun w hw => ?_⟩
    · rw [y8, pk_us]; exact inn_box hI
    · obtain ⟨⟨t, t1, t2, _⟩, _⟩ := hm h13
      subst h13
      exact ⟨t, t1, by rw [y7, pk_un (by omega), pk_un (by omega), pk_us]; exact t2⟩
    · have e23 : τ'.1 23 (3 * L) = zr (kdM r m 0) a := by rw [y7, pk_un (by omega), pk_un (by omega), pk_us]
      have eN : kdN τ'.1 r (τ'.1 23 (3 * L)).toNatClampNeg w = kdM r m w := by
        rw [e23]
        unfold kdN kdM
        by_cases h13 : r = 13
        · obtain ⟨⟨t, t1', t3', t4', t5'⟩, _⟩ := hm h13
          subst h13
          rw [if_pos rfl, if_pos rfl, if_pos rfl, if_pos rfl, t3']
          have : (zr 3 (nI t)).toNatClampNeg = t := n_cl (by omega)
          rw [this, y2 30 (by decide), t5', n_cl (by omega)]
        · rw [if_neg h13, if_neg h13]
      have ew : τ'.1 23 (3 * L + w) = zr (kdM r m w) (r3 a b c w) := by
        have hw3 : w = 0 ∨ w = 1 ∨ w = 2 := by omega
        rcases hw3 with rfl | rfl | rfl
        · rw [Nat.add_zero, e23]; rfl
        · rw [y7, pk_un (by omega), pk_us]; rfl
        · rw [y7, pk_us]; rfl
      rw [eN, ew]
      refine ⟨fun h1 => ?_, fun h2 => ?_⟩
      · obtain ⟨j, j1, j2⟩ := (hrf w hw).1 h1
        exact ⟨j, by omega, by unfold zr; rw [if_neg (by omega)]; exact j2⟩
      · obtain ⟨b', q1, q2, j, j1, j2⟩ := (hrf w hw).2 h2
        exact ⟨b', q1, by unfold zr; rw [if_neg (by omega)]; exact q2, j, by omega, j2⟩
  have hH' := hH.line hT hL hg hnew (fun h => by
    rw [y6, pk_us, c_eq (by omega) (by omega)] at h
    exact hp h) (by rw [y6, pk_us]; intro h; rw [c_eq (by omega) (by omega)] at h; exact h14 h) (by rw [y9, pk_us])
  refine ⟨σ', τ', x1, y1, x2, y2, x3, RX_add hL hr a1 a2 a3 a4 b1 c1 d1 (fun h => ?_) x2 x4 x5 x6 x7 x8 x9 x10 x11 y2 y3 y4 y5 y6 y7 y8 y9 ?_, x6, x7, fun p hp => ⟨by rw [x8, pk_un (by omega), pk_un (by omega), pk_un (by omega)], by rw [x9, pk_un (by omega), pk_un (by omega), pk_un (by omega)]⟩, x10, x11⟩
  · obtain ⟨⟨t, t1, t2, t3, t4⟩, _⟩ := hm h
    exact ⟨t, t1, hT, t2, t3, t4⟩
  · rw [y2 8 (by decide), y2 26 (by decide)]; exact hH'
/-- changes of scratch alone -/
def SC (σ σ' : St) : Prop := KE kS σ σ' ∧ σ'.2 = σ.2
theorem SC.rf {σ : St} : SC σ σ := ⟨KE.rf, rfl⟩
theorem SC.tr {σ s u : St} (h : SC σ s) (h' : SC s u) : SC σ u := ⟨h.1.tr h'.1, h'.2.trans h.2⟩
theorem SC.m {σ s : St} (h : KE [34] σ s) (h2 : s.2 = σ.2) : SC σ s := ⟨h.wk (by decide), h2⟩
/-- all that deeds may change -/
def kP : List Nat := [7, 8, 9, 10, 11, 28, 29, 30, 31, 32, 33, 34, 35, 36, 37, 38, 39]
def PMs (σ : St) (L m : Nat) : Prop := m ≤ 2 ∧ m ≤ L ∧ ∀ k, k < L → (σ.1 30 k = nI 15 ↔ k < m)
/-- what holds at all times of the law -/
def GI (F T L B n O m : Nat) (σ : St) : Prop := ∃ τ, QV F T L B n O σ τ ∧ PMs σ L m ∧ TVf F σ ∧ SN L m σ ∧ CE L B σ
theorem QV.pm {F T L B n O m : Nat} {σ τ : St} (h : QV F T L B n O σ τ) (hm : PMs σ L m) : PM2 τ.1 L m := by
  unfold PMs at hm
  rw [h.vv.2.1.2.1] at hm
  exact hm
theorem GI.sc {F T L B n O m : Nat} {σ σ' : St} (h : GI F T L B n O m σ) (k : SC σ σ') : GI F T L B n O m σ' := by
  obtain ⟨τ, q, p, t, s, c⟩ := h
  have h30 := k.1 30 (by decide)
  have h29 := k.1 29 (by decide)
  have h33 := k.1 33 (by decide)
  have h36 := k.1 36 (by decide)
  have h37 := k.1 37 (by decide)
  have h38 := k.1 38 (by decide)
  refine ⟨τ, q.k (k.1.wk (by decide)) k.2 KE.rf, ?_, t.c k.2 (k.1 12 (by decide)) (k.1 13 (by decide)) (k.1 14 (by decide)), s.c q.vv.wb q.vv.wl p.2.1 k.2 (fun _ _ => by rw [h29]) (fun _ _ => by rw [h33]) (fun _ _ => by rw [h36, h38]; exact ⟨rfl, rfl⟩), ?_⟩
  · unfold PMs; rw [h30]; exact p
  · unfold CE; rw [h37, h33]; exact c
theorem QV.lv {F T L B n O F' n' O' : Nat} {σ s τ t : St} (h : QV F T L B n O σ τ) (h' : QV F' T L B n' O' s t) (eF : F = F') (eO : σ.1 10 0 = s.1 10 0) {M : Nat} (hM : M ≤ 400) (h5 : σ.1 5 0 = nI M) (h5' : s.1 5 0 = σ.1 5 0) (h1 : s.1 1 0 = σ.1 1 0) (h12 : s.1 12 = σ.1 12) (h13 : s.1 13 = σ.1 13) (h14 : s.1 14 = σ.1 14) (h19 : s.1 19 = σ.1 19)
    (hT : ∀ c, c ∈ [22, 23, 24, 25, 26, 27] → s.1 c = σ.1 c) (hl : ∀ k, k < L → s.1 29 k = σ.1 29 k ∧ s.1 30 k = σ.1 30 k ∧ s.1 33 k = σ.1 33 k) (hr : ∀ p, p < 3 * L → s.1 31 p = σ.1 31 p ∧ s.1 32 p = σ.1 32 p) (hb : ∀ b, b < B → s.1 36 b = σ.1 36 b ∧ s.1 37 b = σ.1 37 b ∧ s.1 38 b = σ.1 38 b) : LV F T L B M σ s := by
  subst eF
  have v := h.vv
  have v' := h'.vv
  have w := v.wb
  refine ⟨⟨h.1.le, h.2.2.2.1.1.1, w.1, w.2.1, hM⟩, ⟨⟨h.1.1.2.1, h'.1.1.2.1⟩, ⟨h5, by rw [h5']; exact h5⟩, ⟨h.2.2.2.1.1.2.1, h'.2.2.2.1.1.2.1⟩, ⟨v.1.1, v'.1.1⟩, ⟨v.1.2.2.1, v'.1.2.2.1⟩, h1.symm, eO⟩, fun j _ => ⟨by rw [h12], by rw [h13], by rw [h14]⟩, fun k hk => ?_, fun p hp => ?_, fun b hb' => ?_, fun t _ => ?_, fun k _ => by rw [h19]⟩
  · obtain ⟨a, b, c⟩ := hl k hk
    exact ⟨a.symm, b.symm, c.symm⟩
  · obtain ⟨a, b⟩ := hr p hp
    exact ⟨a.symm, b.symm⟩
  · obtain ⟨a, b, c⟩ := hb b hb'
    exact ⟨a.symm, b.symm, c.symm⟩
  · exact ⟨by rw [hT 22 (by decide)], by rw [hT 23 (by decide)], by rw [hT 24 (by decide)], by rw [hT 25 (by decide)], by rw [hT 26 (by decide)], by rw [hT 27 (by decide)]⟩
/-- back at a state that shows the same -/
theorem GI.mv {F T L B n O n' O' m : Nat} {σ u t : St} (h : GI F T L B n O m σ) (hq : QV F T L B n' O' u t) (hk : KE kP σ u) (h2 : u.2 = σ.2) (hl : ∀ k, k < L → u.1 29 k = σ.1 29 k ∧ u.1 30 k = σ.1 30 k ∧ u.1 33 k = σ.1 33 k) (hb : ∀ b, b < B → u.1 36 b = σ.1 36 b ∧ u.1 37 b = σ.1 37 b ∧ u.1 38 b = σ.1 38 b) : GI F T L B n' O' m u := by
  obtain ⟨τ, q, p, tt, s, c⟩ := h
  refine ⟨t, hq, ⟨p.1, p.2.1, fun k hk => by rw [(hl k hk).2.1]; exact p.2.2 k hk⟩, tt.c h2 (hk 12 (by decide)) (hk 13 (by decide)) (hk 14 (by decide)), s.c q.vv.wb q.vv.wl p.2.1 h2 (fun k hk => (hl k hk).1) (fun k hk => (hl k hk).2.2) (fun b hb' => ⟨(hb b hb').1, (hb b hb').2.2⟩), fun b hb' i hi e => ?_⟩
  rw [(hl i hi).2.2]
  rw [(hb b hb').2.1] at e
  exact c b hb' i hi e
/-- taking back leads to what was -/
def UN (F T L B n O m : Nat) (σ σ' : St) : Prop := ∀ s, SC σ' s → ∃ u, mX7_undo s = some (nI L, u) ∧ GI F T L B n O m u ∧ KE kP σ u ∧ u.2 = σ.2 ∧ ∀ M, M ≤ 400 → σ.1 5 0 = nI M → LV F T L B M σ u
/-- the three kinds of taking back -/
theorem un_1 {F T L B n O : Nat} {σ τ : St} (h : QV F T (L + 1) B (n + 1) O σ τ) (e35 : σ.1 35 n = mI) (e30 : σ.1 30 L ≠ nI 14) :
    ∃ σ' τ', mX7_undo σ = some (nI L, σ') ∧ KE [7, 8] σ σ' ∧ σ'.2 = σ.2 ∧ QV F T L B n O σ' τ' := by
  obtain ⟨hf, ht, hp, hh, ⟨a8, a6, a1, a2, a7, a9, a3, a4⟩, b1, c1, d1, hH⟩ := h
  have hnn := Hist.n _ _ _ _ _ _ hH
  have hI := hH.inv
  obtain ⟨hL60, hBL, hO6⟩ := hI.1
  have hd := c1 n (by omega)
  have c1' : ∀ i, i < n → DR (σ.1 35 i) (τ.1 28 i) := fun i hi => c1 i (by omega)
  obtain ⟨_, hc⟩ := hH
  have n28 : ∀ b, b < 60 → τ.1 28 n ≠ mI - nI b := fun b hb e => by
    rcases hd with ⟨_, k, hk, e2⟩ | ⟨b', hb', e1, e2⟩
    · rw [e2] at e; exact dd_n hb (by omega) e
    · rw [e35, m_en (by omega)] at e1; exact e1
  rcases hc with ⟨L', hL', h1, h2, h3⟩ | ⟨L', B', O', hL', rfl, rfl, h1, h2, h3, h4⟩ | ⟨b, h1, h2, h3⟩
  · have : L' = L := by omega
    subst this
    have e30' : ¬ σ.1 30 L' = nI 14 := e30
    obtain ⟨σ', es⟩ : ∃ v, v = su (su σ 7 (fun _ => nI n)) 8 (fun _ => nI L') := ⟨_, rfl⟩
    obtain ⟨τ', et⟩ : ∃ v, v = su (su (su τ 0 (fun _ => nI 0)) 9 (fun _ => nI n)) 6 (fun _ => nI L') := ⟨_, rfl⟩
    have kσ : KE [7, 8] σ σ' := by rw [es]; exact (KE.rf.s (by decide)).s (by decide)
    have kτ : KE [0, 9, 6] τ τ' := by rw [et]; exact ((KE.rf.s (by decide)).s (by decide)).s (by decide)
    have hRX : RX F T L' B n O σ' τ' := by
      refine RX_un hh.1.1 kσ kτ (by decide) (by decide) b1 c1' (fun k hk => d1 k (by omega)) ⟨?_, ?_, ?_, ?_, ?_, ?_, ?_, ?_⟩ ?_ ?_
      · rw [es]; rfl
      · rw [et]; rfl
      · rw [kσ 9 (by decide)]; exact a1
      · rw [kτ 7 (by decide)]; exact a2
      · rw [es]; rfl
      · rw [et]; rfl
      · rw [kσ 10 (by decide)]; exact a3
      · rw [kσ 11 (by decide), kτ 8 (by decide)]; exact a4
      · rw [kσ 37 (by decide), kτ 26 (by decide)]; exact b1.2.2.2.2.2.1
      · rw [kτ 8 (by decide), kτ 26 (by decide)]; exact h3
    refine ⟨σ', τ', ?_, kσ, by rw [es]; rfl, hf.c (.k kσ (by decide)) (by rw [es]; rfl) (.k kτ (by decide)), ht.c (.k kσ (by decide)) (.k kτ (by decide)), hp.c (.k kσ (by decide)) (.k kτ (by decide)), hh.c (Nat.le_refl _) (.k kσ (by decide)) (.k kτ (by decide)), hRX⟩
    rw [es]
    by_cases hz : L' = 0
    · subst hz
      simp (implicitDefEqProofs := false) (disch := omega) only [mX7_undo, mX3_wasBegun, mX3_takeBack, mX3_takeBack_69, mX3_ruleOf, mX3_lineCount, a7, a8, e35, e30', Nat.add_sub_cancel, ↓bnd_e, ↓ob_s, ob_s, su_1, su_2, sl_1, sl_2, ↓ck_n, ck_n, ck_Z0, ck_Z1, c_lt, c_le, c_eq, ng_1, m_ne, m_en, m_lt, m_le, m_gt, m_ge, n_add, n_mul, n_sub, n_sm, n_pm, n_0m, n_cl, Nat.reduceEqDiff, ↓reduceIte, nle_T, nle_F, nlt_T, nlt_F, neq_F, neq_T, if_true, if_false, true_and, and_true, Nat.mul_zero, Nat.zero_add, Nat.add_zero, Nat.reduceAdd, Nat.reduceMul, Nat.reduceSub, li_0, li_1, li_2, li_3, li_4, li_5, li_6, li_7, li_8, li_9, li_10, li_11, li_12, li_13, li_14, li_15, li_16, li_20, li_24, li_28, li_31, li_35, li_38, li_40, li_41, li_45, li_48, li_60, li_62, li_63, li_97, li_100, li_104, li_105, li_120, li_124, li_127, li_180, li_239, li_240, li_255, li_256, li_300, li_400, li_960, li_1000000]
    · simp (implicitDefEqProofs := false) (disch := omega) only [mX7_undo, mX3_wasBegun, mX3_takeBack, mX3_takeBack_69, mX3_ruleOf, mX3_lineCount, a7, a8, e35, e30', Nat.add_sub_cancel, ↓bnd_e, ↓ob_s, ob_s, su_1, su_2, sl_1, sl_2, ↓ck_n, ck_n, ck_Z0, ck_Z1, c_lt, c_le, c_eq, ng_1, m_ne, m_en, m_lt, m_le, m_gt, m_ge, n_add, n_mul, n_sub, n_sm, n_pm, n_0m, n_cl, Nat.reduceEqDiff, ↓reduceIte, nle_T, nle_F, nlt_T, nlt_F, neq_F, neq_T, if_true, if_false, true_and, and_true, Nat.mul_zero, Nat.zero_add, Nat.add_zero, Nat.reduceAdd, Nat.reduceMul, Nat.reduceSub, li_0, li_1, li_2, li_3, li_4, li_5, li_6, li_7, li_8, li_9, li_10, li_11, li_12, li_13, li_14, li_15, li_16, li_20, li_24, li_28, li_31, li_35, li_38, li_40, li_41, li_45, li_48, li_60, li_62, li_63, li_97, li_100, li_104, li_105, li_120, li_124, li_127, li_180, li_239, li_240, li_255, li_256, li_300, li_400, li_960, li_1000000]
  · have : L' = L := by omega
    subst this
    exact (e30 (by rw [b1.2.1]; exact h2)).elim
  · exact (n28 b (by omega) h2).elim
theorem un_2 {F T L B n O : Nat} {σ τ : St} (h : QV F T (L + 1) (B + 1) (n + 1) (O + 1) σ τ) (e35 : σ.1 35 n = mI) (e30 : σ.1 30 L = nI 14) :
    ∃ σ' τ', mX7_undo σ = some (nI L, σ') ∧ KE [7, 11, 10, 9, 8] σ σ' ∧ σ'.2 = σ.2 ∧ QV F T L B n O σ' τ' := by
  obtain ⟨hf, ht, hp, hh, ⟨a8, a6, a1, a2, a7, a9, a3, a4⟩, b1, c1, d1, hH⟩ := h
  have hnn := Hist.n _ _ _ _ _ _ hH
  have hI := hH.inv
  obtain ⟨hL60, hBL, hO6⟩ := hI.1
  have hd := c1 n (by omega)
  have c1' : ∀ i, i < n → DR (σ.1 35 i) (τ.1 28 i) := fun i hi => c1 i (by omega)
  obtain ⟨_, hc⟩ := hH
  have n28 : ∀ b, b < 60 → τ.1 28 n ≠ mI - nI b := fun b hb e => by
    rcases hd with ⟨_, k, hk, e2⟩ | ⟨b', hb', e1, e2⟩
    · rw [e2] at e; exact dd_n hb (by omega) e
    · rw [e35, m_en (by omega)] at e1; exact e1
  rcases hc with ⟨L', hL', h1, h2, h3⟩ | ⟨L', B', O', hL', hB', hO', h1, h2, h3, h4⟩ | ⟨b, h1, h2, h3⟩
  · have : L' = L := by omega
    subst this
    exact (h2 (by rw [← b1.2.1]; exact e30)).elim
  · have : L' = L := by omega
    subst this
    have : B' = B := by omega
    subst this
    have : O' = O := by omega
    subst this
    obtain ⟨σ', es⟩ : ∃ v, v = su (su (su (su (su σ 7 (fun _ => nI n)) 11 (fun _ => σ.1 38 B')) 10 (fun _ => nI O')) 9 (fun _ => nI B')) 8 (fun _ => nI L') := ⟨_, rfl⟩
    obtain ⟨τ', et⟩ : ∃ v, v = su (su (su (su (su τ 0 (fun _ => nI 0)) 9 (fun _ => nI n)) 6 (fun _ => nI L')) 7 (fun _ => nI B')) 8 (fun _ => τ.1 27 B') := ⟨_, rfl⟩
    have kσ : KE [7, 11, 10, 9, 8] σ σ' := by rw [es]; exact ((((KE.rf.s (by decide)).s (by decide)).s (by decide)).s (by decide)).s (by decide)
    have kτ : KE [0, 9, 6, 7, 8] τ τ' := by rw [et]; exact ((((KE.rf.s (by decide)).s (by decide)).s (by decide)).s (by decide)).s (by decide)
    have t8 : τ'.1 8 0 = τ.1 27 B' := by rw [et]; rfl
    have hRX : RX F T L' B' n O' σ' τ' := by
      refine RX_un hh.1.1 kσ kτ (by decide) (by decide) b1 c1' (fun k hk => d1 k (by omega)) ⟨?_, ?_, ?_, ?_, ?_, ?_, ?_, ?_⟩ ?_ ?_
      · rw [es]; rfl
      · rw [et]; rfl
      · rw [es]; rfl
      · rw [et]; rfl
      · rw [es]; rfl
      · rw [et]; rfl
      · rw [es]; rfl
      · rw [t8, es]; show σ.1 38 B' = _; rw [b1.2.2.2.2.2.2]
      · rw [kσ 37 (by decide), kτ 26 (by decide)]; exact b1.2.2.2.2.2.1
      · rw [t8, kτ 26 (by decide)]; exact h4
    refine ⟨σ', τ', ?_, kσ, by rw [es]; rfl, hf.c (.k kσ (by decide)) (by rw [es]; rfl) (.k kτ (by decide)), ht.c (.k kσ (by decide)) (.k kτ (by decide)), hp.c (.k kσ (by decide)) (.k kτ (by decide)), hh.c (Nat.le_refl _) (.k kσ (by decide)) (.k kτ (by decide)), hRX⟩
    rw [es]
    by_cases hz : L' = 0
    · subst hz
      simp (implicitDefEqProofs := false) (disch := omega) only [mX7_undo, mX3_wasBegun, mX3_takeBack, mX3_takeBack_69, mX3_ruleOf, mX3_lineCount, mX0_dropLatest, a7, a8, a1, a3, e35, e30, Nat.add_sub_cancel, ↓bnd_e, ↓ob_s, ob_s, su_1, su_2, sl_1, sl_2, ↓ck_n, ck_n, ck_Z0, ck_Z1, c_lt, c_le, c_eq, ng_1, m_ne, m_en, m_lt, m_le, m_gt, m_ge, n_add, n_mul, n_sub, n_sm, n_pm, n_0m, n_cl, Nat.reduceEqDiff, ↓reduceIte, nle_T, nle_F, nlt_T, nlt_F, neq_F, neq_T, if_true, if_false, true_and, and_true, Nat.mul_zero, Nat.zero_add, Nat.add_zero, Nat.reduceAdd, Nat.reduceMul, Nat.reduceSub, li_0, li_1, li_2, li_3, li_4, li_5, li_6, li_7, li_8, li_9, li_10, li_11, li_12, li_13, li_14, li_15, li_16, li_20, li_24, li_28, li_31, li_35, li_38, li_40, li_41, li_45, li_48, li_60, li_62, li_63, li_97, li_100, li_104, li_105, li_120, li_124, li_127, li_180, li_239, li_240, li_255, li_256, li_300, li_400, li_960, li_1000000]
    · simp (implicitDefEqProofs := false) (disch := omega) only [mX7_undo, mX3_wasBegun, mX3_takeBack, mX3_takeBack_69, mX3_ruleOf, mX3_lineCount, mX0_dropLatest, a7, a8, a1, a3, e35, e30, Nat.add_sub_cancel, ↓bnd_e, ↓ob_s, ob_s, su_1, su_2, sl_1, sl_2, ↓ck_n, ck_n, ck_Z0, ck_Z1, c_lt, c_le, c_eq, ng_1, m_ne, m_en, m_lt, m_le, m_gt, m_ge, n_add, n_mul, n_sub, n_sm, n_pm, n_0m, n_cl, Nat.reduceEqDiff, ↓reduceIte, nle_T, nle_F, nlt_T, nlt_F, neq_F, neq_T, if_true, if_false, true_and, and_true, Nat.mul_zero, Nat.zero_add, Nat.add_zero, Nat.reduceAdd, Nat.reduceMul, Nat.reduceSub, li_0, li_1, li_2, li_3, li_4, li_5, li_6, li_7, li_8, li_9, li_10, li_11, li_12, li_13, li_14, li_15, li_16, li_20, li_24, li_28, li_31, li_35, li_38, li_40, li_41, li_45, li_48, li_60, li_62, li_63, li_97, li_100, li_104, li_105, li_120, li_124, li_127, li_180, li_239, li_240, li_255, li_256, li_300, li_400, li_960, li_1000000]
  · exact (n28 b (by omega) h2).elim
theorem un_3 {F T L B n O b0 : Nat} {σ τ : St} (h : QV F T L B (n + 1) O σ τ) (hb0 : b0 < 60) (e35 : σ.1 35 n = nI b0) :
    ∃ σ' τ', mX7_undo σ = some (nI L, σ') ∧ KE [7, 37, 11, 10] σ σ' ∧ σ'.2 = σ.2 ∧ σ'.1 37 = upd (σ.1 37) b0 mI ∧ QV F T L B n (O + 1) σ' τ' := by
  obtain ⟨hf, ht, hp, hh, ⟨a8, a6, a1, a2, a7, a9, a3, a4⟩, b1, c1, d1, hH⟩ := h
  have hnn := Hist.n _ _ _ _ _ _ hH
  have hI := hH.inv
  obtain ⟨hL60, hBL, hO6⟩ := hI.1
  have hd := c1 n (by omega)
  have c1' : ∀ i, i < n → DR (σ.1 35 i) (τ.1 28 i) := fun i hi => c1 i (by omega)
  obtain ⟨_, hc⟩ := hH
  have n28 : ∀ k, k < 60 → τ.1 28 n ≠ nI k := fun k hk e => by
    rcases hd with ⟨e1, _⟩ | ⟨b', hb', e1, e2⟩
    · rw [e35, m_ne (by omega)] at e1; exact e1
    · rw [e2] at e; exact dd_n hb' (by omega) e.symm
  rcases hc with ⟨L', rfl, h1, h2, h3⟩ | ⟨L', B', O', rfl, rfl, rfl, h1, h2, h3, h4⟩ | ⟨b, h1, h2, h3⟩
  · exact (n28 L' (by omega) h1).elim
  · exact (n28 L' (by omega) h1).elim
  · have hb60 : b < 60 := by omega
    have hbb : b = b0 := by
      rcases hd with ⟨_, k, hk, e⟩ | ⟨b', hb', e1, e⟩
      · rw [h2] at e; exact (dd_n hb60 (by omega) e.symm).elim
      · rw [h2] at e
        have q : nI b = nI b' := by rw [← (dd_v b hb60).2, e, (dd_v b' hb').2]
        rw [c_eq (by omega) (by omega)] at q
        rw [e35, c_eq (by omega) (by omega)] at e1
        omega
    subst hbb
    obtain ⟨σ', es⟩ : ∃ v, v = su (su (su (su σ 7 (fun _ => nI n)) 37 (upd (σ.1 37) b mI)) 11 (fun _ => nI b)) 10 (fun _ => nI (O + 1)) := ⟨_, rfl⟩
    obtain ⟨τ', et⟩ : ∃ v, v = su (su (su (su τ 0 (fun _ => nI 0)) 9 (fun _ => nI n)) 26 (upd (τ.1 26) b mI)) 8 (fun _ => nI b) := ⟨_, rfl⟩
    have kσ : KE [7, 37, 11, 10] σ σ' := by rw [es]; exact (((KE.rf.s (by decide)).s (by decide)).s (by decide)).s (by decide)
    have kτ : KE [0, 9, 26, 8] τ τ' := by rw [et]; exact (((KE.rf.s (by decide)).s (by decide)).s (by decide)).s (by decide)
    have t8 : τ'.1 8 0 = nI b := by rw [et]; rfl
    have t26 : τ'.1 26 = upd (τ.1 26) b mI := by rw [et]; rfl
    have hRX : RX F T L B n (O + 1) σ' τ' := by
      refine RX_un hh.1.1 kσ kτ (by decide) (by decide) b1 c1' d1 ⟨?_, ?_, ?_, ?_, ?_, ?_, ?_, ?_⟩ ?_ ?_
      · rw [kσ 8 (by decide)]; exact a8
      · rw [kτ 6 (by decide)]; exact a6
      · rw [kσ 9 (by decide)]; exact a1
      · rw [kτ 7 (by decide)]; exact a2
      · rw [es]; rfl
      · rw [et]; rfl
      · rw [es]; rfl
      · rw [t8, es]; rfl
      · rw [t26, es]; show upd (σ.1 37) b mI = _; rw [b1.2.2.2.2.2.1]
      · rw [t8, t26]; exact h3
    refine ⟨σ', τ', ?_, kσ, by rw [es]; rfl, by rw [es]; rfl, hf.c (.k kσ (by decide)) (by rw [es]; rfl) (.k kτ (by decide)), ht.c (.k kσ (by decide)) (.k kτ (by decide)), hp.c (.k kσ (by decide)) (.k kτ (by decide)), hh.c (Nat.le_refl _) (.k kσ (by decide)) (.k kτ (by decide)), hRX⟩
    rw [es]
    simp (implicitDefEqProofs := false) (disch := omega) only [mX7_undo, mX3_wasBegun, mX3_takeBack, mX3_lineCount, mX0_reopen, a7, a8, a1, a3, e35, Nat.add_sub_cancel, ↓bnd_e, ↓ob_s, ob_s, su_1, su_2, sl_1, sl_2, ↓ck_n, ck_n, ck_Z0, ck_Z1, c_lt, c_le, c_eq, ng_1, m_ne, m_en, m_lt, m_le, m_gt, m_ge, n_add, n_mul, n_sub, n_sm, n_pm, n_0m, n_cl, Nat.reduceEqDiff, ↓reduceIte, nle_T, nle_F, nlt_T, nlt_F, neq_F, neq_T, if_true, if_false, true_and, and_true, Nat.mul_zero, Nat.zero_add, Nat.add_zero, Nat.reduceAdd, Nat.reduceMul, Nat.reduceSub, li_0, li_1, li_2, li_3, li_4, li_5, li_6, li_7, li_8, li_9, li_10, li_11, li_12, li_13, li_14, li_15, li_16, li_20, li_24, li_28, li_31, li_35, li_38, li_40, li_41, li_45, li_48, li_60, li_62, li_63, li_97, li_100, li_104, li_105, li_120, li_124, li_127, li_180, li_239, li_240, li_255, li_256, li_300, li_400, li_960, li_1000000]
