/-- to what the references of a rule refer -/
def KT : List Nat := [1, 0, 0, 1, 1, 0, 1, 0, 0, 1, 0, 0, 1, 0, 0, 1, 0, 0, 1, 2, 2, 2, 0, 0, 1, 1, 0, 2, 0, 0, 1, 1, 0, 1, 0, 0, 1, 0, 0, 3, 1, 1, 0, 0, 0, 0, 0, 0]
def kdN (g : Nat → Nat → Int32) (r a w : Nat) : Nat := if r = 13 then (if w = 0 then 3 else if w ≤ (g 30 a).toNatClampNeg then 1 else 0) else KT.getD (3 * r + w) 0
/-- a line -/
def LK (F T L B : Nat) (g : Nat → Nat → Int32) (e : Nat → Int32) (k : Nat) : Prop :=
  (∃ f, f < F ∧ g 21 k = nI f) ∧ (g 24 k = mI ∨ ∃ b, b < B ∧ g 24 k = nI b) ∧ ∃ r, r ≤ 15 ∧ g 22 k = nI r ∧
    (r = 13 → ∃ a, a < T ∧ g 23 (3 * k) = nI a) ∧ ∀ w, w < 3 →
      (kdN g r (g 23 (3 * k)).toNatClampNeg w = 1 → ∃ j, j < L ∧ g 23 (3 * k + w) = nI j) ∧
      (kdN g r (g 23 (3 * k)).toNatClampNeg w = 2 → ∃ b, b < B ∧ g 23 (3 * k + w) = nI b ∧ ∃ j, j < L ∧ e b = nI j)
/-- what holds of the proof at every time -/
def Inv (F T L B O : Nat) (inn : Int32) (g : Nat → Nat → Int32) (e : Nat → Int32) : Prop :=
  (L ≤ 60 ∧ B ≤ L ∧ O ≤ 6) ∧ (∀ k, k < L → LK F T L B g e k) ∧
  (∀ k, k < L → g 22 k = nI 15 → k < 2 ∧ ∀ j, j < k → g 22 j = nI 15) ∧
  (∃ d : Nat → Nat, (∀ b, b < B → 1 ≤ d b ∧ d b ≤ 6 ∧ ((g 27 b = mI ∧ d b = 1) ∨ ∃ o, o < b ∧ g 27 b = nI o ∧ d b = d o + 1)) ∧
    ((inn = mI ∧ O = 0) ∨ ∃ b, b < B ∧ inn = nI b ∧ d b = O ∧ e b = mI)) ∧
  (∀ b, b < B → (e b = mI ∨ ∃ j, j < L ∧ e b = nI j) ∧ ∃ j, j < L ∧ g 25 b = nI j ∧ g 24 j = nI b) ∧
  (∀ b, b < B → e b = mI → g 27 b = mI ∨ ∃ o, o < b ∧ g 27 b = nI o ∧ e o = mI) ∧
  (∀ b, b < B → e b = mI → inn = nI b ∨ ∃ c, c < B ∧ e c = mI ∧ g 27 c = nI b)
/-- what was done to the proof, back to its beginning -/
def Hist (F T : Nat) (g : Nat → Nat → Int32) : Nat → Nat → Nat → Nat → Int32 → (Nat → Int32) → Prop
  | 0, L, B, O, inn, _ => L = 0 ∧ B = 0 ∧ O = 0 ∧ inn = mI
  | n + 1, L, B, O, inn, e => Inv F T L B O inn g e ∧
      ((∃ L', L = L' + 1 ∧ g 28 n = nI L' ∧ g 22 L' ≠ nI 14 ∧ Hist F T g n L' B O inn e)
      ∨ (∃ L' B' O', L = L' + 1 ∧ B = B' + 1 ∧ O = O' + 1 ∧ g 28 n = nI L' ∧ g 22 L' = nI 14 ∧ inn = nI B' ∧ Hist F T g n L' B' O' (g 27 B') e)
      ∨ (∃ b, b < B ∧ g 28 n = mI - nI b ∧ Hist F T g n L B (O + 1) (nI b) (upd e b mI)))
/-- what the proof looks at is the same -/
def GA (T n L B : Nat) (g g' : Nat → Nat → Int32) : Prop :=
  (∀ k, k < L → g' 21 k = g 21 k ∧ g' 22 k = g 22 k ∧ g' 24 k = g 24 k ∧ ∀ w, w < 3 → g' 23 (3 * k + w) = g 23 (3 * k + w)) ∧
  (∀ b, b < B → g' 25 b = g 25 b ∧ g' 27 b = g 27 b) ∧ (∀ i, i < n → g' 28 i = g 28 i) ∧ ∀ t, t < T → g' 30 t = g 30 t
theorem GA.le {T n L B n' L' B' : Nat} {g g' : Nat → Nat → Int32} (h : GA T n L B g g') (h1 : n' ≤ n) (h2 : L' ≤ L) (h3 : B' ≤ B) : GA T n' L' B' g g' :=
  ⟨fun k hk => h.1 k (by omega), fun b hb => h.2.1 b (by omega), fun i hi => h.2.2.1 i (by omega), h.2.2.2⟩
theorem LK.c {F F' T L B L' B' n : Nat} {g g' : Nat → Nat → Int32} {e e' : Nat → Int32} {k : Nat} (h : LK F T L B g e k) (hT : T ≤ 16) (hF : F ≤ F') (hg : GA T n L B g g') (hk : k < L) (hL60 : L ≤ 60) (hL : L ≤ L') (hB : B ≤ B')
    (he : ∀ b, b < B → e b ≠ mI → e' b = e b) : LK F' T L' B' g' e' k := by
  obtain ⟨⟨f, f1, f2⟩, hb, r, r1, r2, r3, r4⟩ := h
  obtain ⟨e21, e22, e24, e23⟩ := hg.1 k hk
  have e230 := e23 0 (by omega)
  rw [Nat.add_zero] at e230
  refine ⟨⟨f, by omega, by rw [e21, f2]⟩, ?_, r, r1, by rw [e22, r2], fun hr => ?_, fun w hw => ?_⟩
  · rcases hb with hb | ⟨b, h1, h2⟩
    · exact Or.inl (by rw [e24, hb])
    · exact Or.inr ⟨b, by omega, by rw [e24, h2]⟩
  · obtain ⟨a, a1, a2⟩ := r3 hr
    exact ⟨a, a1, by rw [e230, a2]⟩
  · have hk2 : kdN g' r (g' 23 (3 * k)).toNatClampNeg w = kdN g r (g 23 (3 * k)).toNatClampNeg w := by
      rw [e230]
      unfold kdN
      by_cases h13 : r = 13
      · obtain ⟨a, a1, a2⟩ := r3 h13
        rw [if_pos h13, if_pos h13, a2, n_cl (by omega), hg.2.2.2 a a1]
      · rw [if_neg h13, if_neg h13]
    rw [hk2, e23 w hw]
    refine ⟨fun h1 => ?_, fun h2 => ?_⟩
    · obtain ⟨j, j1, j2⟩ := (r4 w hw).1 h1
      exact ⟨j, by omega, j2⟩
    · obtain ⟨b, b1, b2, j, j1, j2⟩ := (r4 w hw).2 h2
      refine ⟨b, by omega, b2, j, by omega, ?_⟩
      rw [he b b1 (by rw [j2]; intro h; rw [m_ne (by omega)] at h; exact h)]
      exact j2
theorem Inv.c {F F' T L B O n : Nat} {inn : Int32} {g g' : Nat → Nat → Int32} {e e' : Nat → Int32} (h : Inv F T L B O inn g e) (hT : T ≤ 16) (hF : F ≤ F') (hg : GA T n L B g g')
    (he : ∀ b, b < B → e' b = e b) : Inv F' T L B O inn g' e' := by
  obtain ⟨⟨a1, a2, a3⟩, b1, c1, ⟨d, d1, d2⟩, f1, i1, k1⟩ := h
  refine ⟨⟨a1, a2, a3⟩, fun k hk => (b1 k hk).c hT hF hg hk a1 (Nat.le_refl _) (Nat.le_refl _) (fun b hb _ => he b hb), fun k hk hr => ?_, ⟨d, fun b hb => ?_, ?_⟩, fun b hb => ?_, fun b hb hm => ?_, fun b hb hm => ?_⟩
  · rw [(hg.1 k hk).2.1] at hr
    obtain ⟨x, y⟩ := c1 k hk hr
    exact ⟨x, fun j hj => by rw [(hg.1 j (by omega)).2.1]; exact y j hj⟩
  · rw [(hg.2.1 b hb).2]; exact d1 b hb
  · rcases d2 with d2 | ⟨b, h1, h2, h3, h4⟩
    · exact Or.inl d2
    · exact Or.inr ⟨b, h1, h2, h3, by rw [he b h1]; exact h4⟩
  · obtain ⟨x, j, y1, y2, y3⟩ := f1 b hb
    exact ⟨by rw [he b hb]; exact x, j, y1, by rw [(hg.2.1 b hb).1]; exact y2, by rw [(hg.1 j y1).2.2.1]; exact y3⟩
  · rw [he b hb] at hm
    rcases i1 b hb hm with x | ⟨o, x1, x2, x3⟩
    · exact Or.inl (by rw [(hg.2.1 b hb).2]; exact x)
    · exact Or.inr ⟨o, x1, by rw [(hg.2.1 b hb).2]; exact x2, by rw [he o (by omega)]; exact x3⟩
  · rw [he b hb] at hm
    rcases k1 b hb hm with x | ⟨c, x1, x2, x3⟩
    · exact Or.inl x
    · exact Or.inr ⟨c, x1, by rw [he c x1]; exact x2, by rw [(hg.2.1 c x1).2]; exact x3⟩
theorem Hist.c {F F' T : Nat} {g g' : Nat → Nat → Int32} (hT : T ≤ 16) (hF : F ≤ F') : ∀ n L B O inn e e', Hist F T g n L B O inn e → GA T n L B g g' → (∀ b, b < B → e' b = e b) → Hist F' T g' n L B O inn e' := by
  intro n
  induction n with
  | zero => intro L B O inn e e' h _ _; exact h
  | succ n ih =>
    intro L B O inn e e' h hg he
    obtain ⟨hi, h⟩ := h
    refine ⟨hi.c hT hF hg he, ?_⟩
    rcases h with ⟨L', rfl, h1, h2, h3⟩ | ⟨L', B', O', rfl, rfl, rfl, h1, h2, h3, h4⟩ | ⟨b, h1, h2, h3⟩
    · exact Or.inl ⟨L', rfl, by rw [hg.2.2.1 n (by omega)]; exact h1, by rw [(hg.1 L' (by omega)).2.1]; exact h2, ih _ _ _ _ _ _ h3 (hg.le (by omega) (by omega) (by omega)) he⟩
    · exact Or.inr (Or.inl ⟨L', B', O', rfl, rfl, rfl, by rw [hg.2.2.1 n (by omega)]; exact h1, by rw [(hg.1 L' (by omega)).2.1]; exact h2, h3, by rw [(hg.2.1 B' (by omega)).2]; exact ih _ _ _ _ _ _ h4 (hg.le (by omega) (by omega) (by omega)) (fun b hb => he b (by omega))⟩)
    · refine Or.inr (Or.inr ⟨b, h1, by rw [hg.2.2.1 n (by omega)]; exact h2, ih _ _ _ _ _ _ h3 (hg.le (by omega) (by omega) (by omega)) (fun c hc => ?_)⟩)
      rw [up_1, up_1, he c hc]
theorem Hist.n {F T : Nat} {g : Nat → Nat → Int32} : ∀ n L B O inn e, Hist F T g n L B O inn e → n + O = L + B := by
  intro n
  induction n with
  | zero => intro L B O inn e h; obtain ⟨rfl, rfl, rfl, _⟩ := h; rfl
  | succ n ih =>
    intro L B O inn e h
    obtain ⟨_, h⟩ := h
    rcases h with ⟨L', rfl, h1, h2, h3⟩ | ⟨L', B', O', rfl, rfl, rfl, h1, h2, h3, h4⟩ | ⟨b, h1, h2, h3⟩
    · have := ih _ _ _ _ _ h3; omega
    · have := ih _ _ _ _ _ h4; omega
    · have := ih _ _ _ _ _ h3; omega
theorem Inv.z {F T : Nat} {g : Nat → Nat → Int32} {e : Nat → Int32} : Inv F T 0 0 0 mI g e :=
  ⟨⟨by omega, by omega, by omega⟩, fun k hk => absurd hk (by omega), fun k hk => absurd hk (by omega), ⟨fun _ => 0, fun b hb => absurd hb (by omega), Or.inl ⟨rfl, rfl⟩⟩,
    fun b hb => absurd hb (by omega), fun b hb => absurd hb (by omega), fun b hb => absurd hb (by omega)⟩
theorem Hist.inv {F T : Nat} {g : Nat → Nat → Int32} {n L B O : Nat} {inn : Int32} {e : Nat → Int32} (h : Hist F T g n L B O inn e) : Inv F T L B O inn g e := by
  cases n with
  | zero => obtain ⟨rfl, rfl, rfl, rfl⟩ := h; exact Inv.z
  | succ n => exact h.1
/-- the tape -/
def RT (σ τ : St) : Prop := (∃ N, N ≤ 400 ∧ σ.1 1 0 = nI N ∧ τ.1 1 0 = nI N) ∧ σ.1 3 0 = τ.1 2 0 ∧ ∀ k, ∃ b, b < 256 ∧ τ.1 13 k = nI b ∧ σ.1 18 k = (nI b).toInt8.toInt32
/-- the paper -/
def RP (σ τ : St) : Prop := ∃ M, M ≤ 400 ∧ σ.1 5 0 = nI M ∧ τ.1 4 0 = nI M ∧ ∀ k, k < M → σ.1 19 k = τ.1 14 k
/-- a theorem -/
def HJ (F : Nat) (σ τ : St) (t : Nat) : Prop :=
  (∃ c, c < F ∧ τ.1 29 t = nI c) ∧ σ.1 23 t = τ.1 31 (2 * t) ∧ σ.1 24 t = τ.1 31 (2 * t + 1) ∧
  (∃ m, m ≤ 2 ∧ τ.1 30 t = nI m ∧ ∀ w, w < 2 → if w < m then ∃ f, f < F ∧ τ.1 31 (2 * t + w) = nI f else τ.1 31 (2 * t + w) = mI) ∧
  ∃ a b, 1 ≤ a ∧ a ≤ 60 ∧ b ≤ a ∧ τ.1 32 t = nI a ∧ τ.1 33 t = nI b
/-- the theorems -/
def RH (F T : Nat) (σ τ : St) : Prop := (T ≤ 16 ∧ σ.1 6 0 = nI T ∧ τ.1 10 0 = nI T) ∧ (σ.1 22 = τ.1 29 ∧ σ.1 25 = τ.1 32 ∧ σ.1 26 = τ.1 33 ∧ σ.1 27 = τ.1 34) ∧ ∀ t, t < T → HJ F σ τ t
/-- a deed, on both sides -/
def DR (x y : Int32) : Prop := (x = mI ∧ ∃ k, k < 60 ∧ y = nI k) ∨ ∃ b, b < 60 ∧ x = nI b ∧ y = mI - nI b
/-- the proof -/
def RV (F T : Nat) (σ τ : St) : Prop := ∃ L B n O,
  (σ.1 8 0 = nI L ∧ τ.1 6 0 = nI L ∧ σ.1 9 0 = nI B ∧ τ.1 7 0 = nI B ∧ σ.1 7 0 = nI n ∧ τ.1 9 0 = nI n ∧ σ.1 10 0 = nI O ∧ σ.1 11 0 = τ.1 8 0) ∧
  (σ.1 29 = τ.1 21 ∧ σ.1 30 = τ.1 22 ∧ σ.1 31 = τ.1 23 ∧ σ.1 33 = τ.1 24 ∧ σ.1 36 = τ.1 25 ∧ σ.1 37 = τ.1 26 ∧ σ.1 38 = τ.1 27) ∧
  (∀ i, i < n → DR (σ.1 35 i) (τ.1 28 i)) ∧
  (∀ k, k < L → ∀ r, r ≤ 15 → τ.1 22 k = nI r → ∀ w, w < 3 → σ.1 32 (3 * k + w) = nI (kdN τ.1 r (τ.1 23 (3 * k)).toNatClampNeg w)) ∧
  Hist F T τ.1 n L B O (τ.1 8 0) (τ.1 26)
def RR (σ τ : St) : Prop := ∃ F T, RF F σ τ ∧ RT σ τ ∧ RP σ τ ∧ RH F T σ τ ∧ RV F T σ τ
/-- these components are the same -/
def SA (l : List Nat) (σ σ' : St) : Prop := ∀ c, c ∈ l → σ'.1 c = σ.1 c
theorem SA.k {l m : List Nat} {σ σ' : St} (h : KE l σ σ') (hd : ∀ c, c ∈ m → c ∉ l) : SA m σ σ' := fun c hc => h c (hd c hc)
theorem RF.c {F : Nat} {σ σ' τ τ' : St} (h : RF F σ τ) (hσ : SA [0, 12, 13, 14, 15, 16, 17] σ σ') (h2 : σ'.2 = σ.2) (hτ : SA [5, 15, 16, 17, 18, 19, 20] τ τ') : RF F σ' τ' := by
  refine h.cut (Nat.le_refl _) ⟨fun c j a b _ => ?_, fun i _ => by rw [h2]⟩ ⟨fun c j a b _ => ?_, fun i _ => by rw [hτ 20 (by decide)]⟩ (by rw [hσ 0 (by decide)]; exact h.1.2.1) (by rw [hτ 5 (by decide)]; exact h.1.2.2)
  · have : c = 12 ∨ c = 13 ∨ c = 14 ∨ c = 15 ∨ c = 16 ∨ c = 17 := by omega
    rw [hσ c (by rcases this with rfl | rfl | rfl | rfl | rfl | rfl <;> decide)]
  · have : c = 15 ∨ c = 16 ∨ c = 17 ∨ c = 18 ∨ c = 19 := by omega
    rw [hτ c (by rcases this with rfl | rfl | rfl | rfl | rfl <;> decide)]
theorem RT.c {σ σ' τ τ' : St} (h : RT σ τ) (hσ : SA [1, 3, 18] σ σ') (hτ : SA [1, 2, 13] τ τ') : RT σ' τ' := by
  unfold RT
  rw [hσ 1 (by decide), hσ 3 (by decide), hσ 18 (by decide), hτ 1 (by decide), hτ 2 (by decide), hτ 13 (by decide)]
  exact h
theorem RP.c {σ σ' τ τ' : St} (h : RP σ τ) (hσ : SA [5, 19] σ σ') (hτ : SA [4, 14] τ τ') : RP σ' τ' := by
  unfold RP
  rw [hσ 5 (by decide), hσ 19 (by decide), hτ 4 (by decide), hτ 14 (by decide)]
  exact h
theorem RH.c {F F' T : Nat} {σ σ' τ τ' : St} (h : RH F T σ τ) (hF : F ≤ F') (hσ : SA [6, 22, 23, 24, 25, 26, 27] σ σ') (hτ : SA [10, 29, 30, 31, 32, 33, 34] τ τ') : RH F' T σ' τ' := by
  unfold RH HJ
  rw [hσ 6 (by decide), hσ 22 (by decide), hσ 23 (by decide), hσ 24 (by decide), hσ 25 (by decide), hσ 26 (by decide), hσ 27 (by decide)]
  rw [hτ 10 (by decide), hτ 29 (by decide), hτ 30 (by decide), hτ 31 (by decide), hτ 32 (by decide), hτ 33 (by decide), hτ 34 (by decide)]
  refine ⟨h.1, h.2.1, fun t ht => ?_⟩
  obtain ⟨⟨c, c1, c2⟩, a1, a2, ⟨m, m1, m2, m3⟩, a4⟩ := h.2.2 t ht
  refine ⟨⟨c, by omega, c2⟩, a1, a2, ⟨m, m1, m2, fun w hw => ?_⟩, a4⟩
  have := m3 w hw
  by_cases hwm : w < m
  · rw [if_pos hwm] at this ⊢
    obtain ⟨f, f1, f2⟩ := this
    exact ⟨f, by omega, f2⟩
  · rw [if_neg hwm] at this ⊢
    exact this
theorem RV.c {F F' T : Nat} {σ σ' τ τ' : St} (h : RV F T σ τ) (hT : T ≤ 16) (hF : F ≤ F') (hσ : SA [7, 8, 9, 10, 11, 29, 30, 31, 32, 33, 35, 36, 37, 38] σ σ') (hτ : SA [6, 7, 8, 9, 21, 22, 23, 24, 25, 26, 27, 28, 30] τ τ') : RV F' T σ' τ' := by
  unfold RV
  rw [hσ 7 (by decide), hσ 8 (by decide), hσ 9 (by decide), hσ 10 (by decide), hσ 11 (by decide), hσ 29 (by decide), hσ 30 (by decide), hσ 31 (by decide), hσ 32 (by decide), hσ 33 (by decide), hσ 35 (by decide), hσ 36 (by decide), hσ 37 (by decide), hσ 38 (by decide)]
  rw [hτ 6 (by decide), hτ 7 (by decide), hτ 8 (by decide), hτ 9 (by decide), hτ 21 (by decide), hτ 22 (by decide), hτ 23 (by decide), hτ 24 (by decide), hτ 25 (by decide), hτ 26 (by decide), hτ 27 (by decide), hτ 28 (by decide)]
  obtain ⟨L, B, n, O, a1, a2, a3, a4, a5⟩ := h
  refine ⟨L, B, n, O, a1, a2, a3, fun k hk r hr h22 w hw => ?_, Hist.c hT hF _ _ _ _ _ _ _ a5 ⟨fun k hk => ⟨by rw [hτ 21 (by decide)], by rw [hτ 22 (by decide)], by rw [hτ 24 (by decide)], fun w hw => by rw [hτ 23 (by decide)]⟩, fun b hb => ⟨by rw [hτ 25 (by decide)], by rw [hτ 27 (by decide)]⟩, fun i hi => by rw [hτ 28 (by decide)], fun t ht => by rw [hτ 30 (by decide)]⟩ (fun b hb => rfl)⟩
  rw [a4 k hk r hr h22 w hw]
  unfold kdN
  rw [hτ 30 (by decide)]
/-- only what nobody looks at has changed -/
def kfC : List Nat := [2, 4, 20, 21, 28, 34, 39]
def kfM : List Nat := [0, 3, 11, 12, 35, 36, 37, 38, 39, 40, 41, 42]
theorem RR.c {σ σ' τ τ' : St} (h : RR σ τ) (hσ : KE kfC σ σ') (h2 : σ'.2 = σ.2) (hτ : KE kfM τ τ') : RR σ' τ' := by
  obtain ⟨F, T, a, b, c, d, e⟩ := h
  exact ⟨F, T, a.c (.k hσ (by decide)) h2 (.k hτ (by decide)), b.c (.k hσ (by decide)) (.k hτ (by decide)), c.c (.k hσ (by decide)) (.k hτ (by decide)), d.c (Nat.le_refl _) (.k hσ (by decide)) (.k hτ (by decide)), e.c d.1.1 (Nat.le_refl _) (.k hσ (by decide)) (.k hτ (by decide))⟩
