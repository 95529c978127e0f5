/-- whether a formula is true for a set; whether that of a line is -/
def tv (σ : St) (f q : Nat) : Bool := btL (σ.2 (4 * f + q / 64)) (q % 64)
def tl (σ : St) (k q : Nat) : Bool := tv σ (σ.1 29 k).toNatClampNeg q
/-- the assumptions of a box and of all around it are true -/
def chn (σ : St) (q : Nat) : Nat → Int32 → Prop
  | 0, _ => True
  | n + 1, x => x = mI ∨ (tl σ (σ.1 36 x.toNatClampNeg).toNatClampNeg q = true ∧ chn σ q n (σ.1 38 x.toNatClampNeg))
def CH (σ : St) (q : Nat) (x : Int32) : Prop := chn σ q 61 x
def WB (L B : Nat) (σ : St) : Prop := L ≤ 60 ∧ B ≤ 60 ∧ ∀ b, b < B → (∃ j, j < L ∧ σ.1 36 b = nI j) ∧ (σ.1 38 b = mI ∨ ∃ o, o < b ∧ σ.1 38 b = nI o)
theorem chn_m (σ : St) (q n : Nat) : chn σ q n mI := by
  cases n with
  | zero => trivial
  | succ n => exact Or.inl rfl
theorem ch_m (σ : St) (q : Nat) : CH σ q mI := chn_m σ q 61
theorem chn_st {L B : Nat} {σ : St} (h : WB L B σ) (q : Nat) : ∀ n b, b < B → b < n → (chn σ q (n + 1) (nI b) ↔ chn σ q n (nI b)) := by
  obtain ⟨hL, hB, hb⟩ := h
  intro n
  induction n with
  | zero => intro b _ h; omega
  | succ n ih =>
    intro b hbB hbn
    show (nI b = mI ∨ (tl σ (σ.1 36 (nI b).toNatClampNeg).toNatClampNeg q = true ∧ chn σ q (n + 1) (σ.1 38 (nI b).toNatClampNeg))) ↔ (nI b = mI ∨ (tl σ (σ.1 36 (nI b).toNatClampNeg).toNatClampNeg q = true ∧ chn σ q n (σ.1 38 (nI b).toNatClampNeg)))
    rw [n_cl (by omega)]
    rcases (hb b hbB).2 with e | ⟨o, ho, e⟩
    · rw [e]
      exact ⟨fun h => h.elim Or.inl (fun h => Or.inr ⟨h.1, chn_m _ _ _⟩), fun h => h.elim Or.inl (fun h => Or.inr ⟨h.1, chn_m _ _ _⟩)⟩
    · rw [e]
      have := ih o (by omega) (by omega)
      exact ⟨fun h => h.elim Or.inl (fun h => Or.inr ⟨h.1, this.mp h.2⟩), fun h => h.elim Or.inl (fun h => Or.inr ⟨h.1, this.mpr h.2⟩)⟩
theorem ch_b {L B : Nat} {σ : St} (h : WB L B σ) (q : Nat) {b : Nat} (hb : b < B) : CH σ q (nI b) ↔ (tl σ (σ.1 36 b).toNatClampNeg q = true ∧ CH σ q (σ.1 38 b)) := by
  have hB := h.2.1
  have e : chn σ q 60 (σ.1 38 b) ↔ chn σ q 61 (σ.1 38 b) := by
    rcases (h.2.2 b hb).2 with e | ⟨o, ho, e⟩
    · rw [e]; exact ⟨fun _ => chn_m _ _ _, fun _ => chn_m _ _ _⟩
    · rw [e]; exact (chn_st h q 60 o (by omega) (by omega)).symm
  show (nI b = mI ∨ (tl σ (σ.1 36 (nI b).toNatClampNeg).toNatClampNeg q = true ∧ chn σ q 60 (σ.1 38 (nI b).toNatClampNeg))) ↔ _
  rw [n_cl (by omega)]
  refine ⟨fun h2 => ?_, fun h2 => Or.inr ⟨h2.1, e.mpr h2.2⟩⟩
  rcases h2 with h2 | h2
  · rw [m_ne (by omega)] at h2; exact h2.elim
  · exact ⟨h2.1, e.mp h2.2⟩
/-- the same boxes, the same lines: the same chain -/
theorem chn_c {L B : Nat} {σ σ' : St} (h : WB L B σ) {q : Nat} (hl : ∀ k, k < L → tl σ' k q = tl σ k q) (hb : ∀ b, b < B → σ'.1 36 b = σ.1 36 b ∧ σ'.1 38 b = σ.1 38 b) :
    ∀ n x, (x = mI ∨ ∃ b, b < B ∧ x = nI b) → (chn σ' q n x ↔ chn σ q n x) := by
  obtain ⟨hL, hB, hw⟩ := h
  intro n
  induction n with
  | zero => intro x _; exact Iff.rfl
  | succ n ih =>
    intro x hx
    rcases hx with rfl | ⟨b, hbB, rfl⟩
    · exact ⟨fun _ => chn_m _ _ _, fun _ => chn_m _ _ _⟩
    · obtain ⟨⟨j, hj, ej⟩, ho⟩ := hw b hbB
      obtain ⟨b36, b38⟩ := hb b hbB
      show (nI b = mI ∨ (tl σ' (σ'.1 36 (nI b).toNatClampNeg).toNatClampNeg q = true ∧ chn σ' q n (σ'.1 38 (nI b).toNatClampNeg))) ↔ (nI b = mI ∨ (tl σ (σ.1 36 (nI b).toNatClampNeg).toNatClampNeg q = true ∧ chn σ q n (σ.1 38 (nI b).toNatClampNeg)))
      rw [n_cl (by omega), b36, b38, ej, n_cl (by omega), hl j hj]
      have := ih (σ.1 38 b) (by
        rcases ho with e | ⟨o, ho, e⟩
        · exact Or.inl e
        · exact Or.inr ⟨o, by omega, e⟩)
      rw [this]
/-- every line is sound -/
def SN (L m : Nat) (σ : St) : Prop := ∀ k, k < L → ∀ q, q < 256 → (∀ i, i < m → tl σ i q = true) → CH σ q (σ.1 33 k) → tl σ k q = true
/-- the last line of a closed box is in it -/
def CE (L B : Nat) (σ : St) : Prop := ∀ b, b < B → ∀ i, i < L → σ.1 37 b = nI i → σ.1 33 i = nI b
/-- the truths are those of the parts -/
def TVf (F : Nat) (σ : St) : Prop := ∀ j, j < F → ∀ q, q < 256 →
  (σ.1 12 j = nI 1 → tv σ j q = false) ∧
  (σ.1 12 j = nI 2 → ∀ p, p < j → σ.1 13 j = nI p → tv σ j q = !tv σ p q) ∧
  (σ.1 12 j = nI 3 → ∀ p r, p < j → r < j → σ.1 13 j = nI p → σ.1 14 j = nI r → tv σ j q = (tv σ p q && tv σ r q)) ∧
  (σ.1 12 j = nI 4 → ∀ p r, p < j → r < j → σ.1 13 j = nI p → σ.1 14 j = nI r → tv σ j q = (tv σ p q || tv σ r q)) ∧
  (σ.1 12 j = nI 5 → ∀ p r, p < j → r < j → σ.1 13 j = nI p → σ.1 14 j = nI r → tv σ j q = (!tv σ p q || tv σ r q))
/-- where lines and boxes may be -/
def WL (L B : Nat) (σ : St) : Prop := ∀ k, k < L → σ.1 33 k = mI ∨ ∃ b, b < B ∧ σ.1 33 k = nI b
theorem SN.c {L B m : Nat} {σ σ' : St} (h : SN L m σ) (hw : WB L B σ) (hl : WL L B σ) (hm : m ≤ L) (h2 : σ'.2 = σ.2) (h29 : ∀ k, k < L → σ'.1 29 k = σ.1 29 k) (h33 : ∀ k, k < L → σ'.1 33 k = σ.1 33 k) (hb : ∀ b, b < B → σ'.1 36 b = σ.1 36 b ∧ σ'.1 38 b = σ.1 38 b) : SN L m σ' := by
  have ht : ∀ k, k < L → ∀ q, tl σ' k q = tl σ k q := fun k hk q => by unfold tl tv; rw [h29 k hk, h2]
  intro k hk q hq hp hc
  rw [ht k hk]
  refine h k hk q hq (fun i hi => by rw [← ht i (by omega)]; exact hp i hi) ?_
  rw [h33 k hk] at hc
  exact (chn_c hw (fun k hk => ht k hk q) hb 61 _ (hl k hk)).mp hc
/-- one line more -/
theorem SN.s {L m : Nat} {σ : St} (h : ∀ k, k < L → ∀ q, q < 256 → (∀ i, i < m → tl σ i q = true) → CH σ q (σ.1 33 k) → tl σ k q = true) (hn : ∀ q, q < 256 → (∀ i, i < m → tl σ i q = true) → CH σ q (σ.1 33 L) → tl σ L q = true) : SN (L + 1) m σ := by
  intro k hk q hq hp hc
  by_cases e : k < L
  · exact h k e q hq hp hc
  · have : k = L := by omega
    subst this
    exact hn q hq hp hc
theorem TVf.c {F : Nat} {σ σ' : St} (h : TVf F σ) (h2 : σ'.2 = σ.2) (h12 : σ'.1 12 = σ.1 12) (h13 : σ'.1 13 = σ.1 13) (h14 : σ'.1 14 = σ.1 14) : TVf F σ' := by
  have e : ∀ j q, tv σ' j q = tv σ j q := fun j q => by unfold tv; rw [h2]
  unfold TVf
  simp only [h12, h13, h14, e]
  exact h
/-- a chain is true for the box that is open innermost: so it is for every open one -/
theorem ch_open {L B : Nat} {σ : St} (h : WB L B σ) {q : Nat} {inn : Int32} (hk : ∀ b, b < B → σ.1 37 b = mI → inn = nI b ∨ ∃ c, c < B ∧ σ.1 37 c = mI ∧ σ.1 38 c = nI b) (hc : CH σ q inn) :
    ∀ d b, B - b = d → b < B → σ.1 37 b = mI → CH σ q (nI b) := by
  intro d
  induction d using Nat.strongRecOn with
  | _ d ih =>
    intro b hd hb he
    rcases hk b hb he with e | ⟨c, c1, c2, c3⟩
    · rw [← e]; exact hc
    · have hcb : b < c := by
        have hB := h.2.1
        rcases (h.2.2 c c1).2 with e | ⟨o, ho, e⟩
        · rw [c3, m_ne (by omega)] at e; exact e.elim
        · rw [c3, c_eq (by omega) (by omega)] at e; omega
      have := ih (B - c) (by omega) c rfl c1 c2
      rw [ch_b h q c1, c3] at this
      exact this.2
theorem bs_0 {f : Nat → Bool} : ∀ n, (∀ k, k < n → f k = false) → bs f n = 0 := by
  intro n
  induction n with
  | zero => intro _; rfl
  | succ n ih => intro h; unfold bs; rw [ih (fun k hk => h k (by omega)), h n (by omega)]; rfl
theorem bs_n {f : Nat → Bool} : ∀ n, (∀ k, k < n → f k = true) → bs f n = n := by
  intro n
  induction n with
  | zero => intro _; rfl
  | succ n ih => intro h; unfold bs; rw [ih (fun k hk => h k (by omega)), h n (by omega)]; rfl
theorem pbr_t {f : Nat → Bool} : ∀ d k, pbr f k d = true → ∀ i, k ≤ i → i < k + d → f i = true := by
  intro d
  induction d with
  | zero => intro k _ i h1 h2; omega
  | succ d ih =>
    intro k h i h1 h2
    have h' : (f k && pbr f (k + 1) d) = true := h
    rw [Bool.and_eq_true] at h'
    by_cases e : i = k
    · rw [e]; exact h'.1
    · exact ih (k + 1) h'.2 i (by omega) (by omega)
theorem tl_B {F T L B O : Nat} {σ τ : St} (h : VV F T L B O σ τ) (k q : Nat) : tlB σ τ k q = tl σ k q := by unfold tlB tl tv; rw [h.2.1.1]
theorem bxc_ch {F T L B O : Nat} {σ τ : St} (h : VV F T L B O σ τ) {d : Nat → Nat} (hd : DP B τ.1 d) {q : Nat} : ∀ i x n, DX B d x i → bxc τ.1 (fun j => tlB σ τ j q) i x = true → chn σ q n x := by
  have hB : B ≤ 60 := by have := h.2.2.2.1.1; have := h.2.2.2.1.2.1; omega
  obtain ⟨e29, e30, e31, e33, e36, e37, e38⟩ := h.2.1
  intro i
  induction i with
  | zero =>
    intro x n hx _
    rcases hx with ⟨e, _⟩ | ⟨b, hb, _, e⟩
    · rw [e]; exact chn_m _ _ _
    · have := (hd b hb).1; omega
  | succ i ih =>
    intro x n hx hc
    rcases hx with ⟨_, e⟩ | ⟨b, hb, rfl, hdb⟩
    · omega
    · cases n with
      | zero => trivial
      | succ n =>
        have hx' : DX B d (τ.1 27 b) i := by
          obtain ⟨_, _, ⟨e, e1⟩ | ⟨o, o1, o2, o3⟩⟩ := hd b hb
          · exact Or.inl ⟨e, by omega⟩
          · exact Or.inr ⟨o, by omega, o2, by omega⟩
        have hc' : (tlB σ τ (τ.1 25 (nI b).toNatClampNeg).toNatClampNeg q && bxc τ.1 (fun j => tlB σ τ j q) i (τ.1 27 (nI b).toNatClampNeg)) = true := hc
        rw [n_cl (by omega), Bool.and_eq_true] at hc'
        refine Or.inr ⟨?_, ?_⟩
        · rw [n_cl (by omega), e36, ← tl_B h]; exact hc'.1
        · rw [n_cl (by omega), e38]; exact ih _ n hx' hc'.2
/-- the proof, with its numbers told -/
def RX (F T L B n O : Nat) (σ τ : St) : Prop :=
  (σ.1 8 0 = nI L ∧ τ.1 6 0 = nI L ∧ σ.1 9 0 = nI B ∧ τ.1 7 0 = nI B ∧ σ.1 7 0 = nI n ∧ τ.1 9 0 = nI n ∧ σ.1 10 0 = nI O ∧ σ.1 11 0 = τ.1 8 0) ∧
  (σ.1 29 = τ.1 21 ∧ σ.1 30 = τ.1 22 ∧ σ.1 31 = τ.1 23 ∧ σ.1 33 = τ.1 24 ∧ σ.1 36 = τ.1 25 ∧ σ.1 37 = τ.1 26 ∧ σ.1 38 = τ.1 27) ∧
  (∀ i, i < n → DR (σ.1 35 i) (τ.1 28 i)) ∧
  (∀ k, k < L → ∀ r, r ≤ 15 → τ.1 22 k = nI r → ∀ w, w < 3 → σ.1 32 (3 * k + w) = nI (kdN τ.1 r (τ.1 23 (3 * k)).toNatClampNeg w)) ∧
  Hist F T τ.1 n L B O (τ.1 8 0) (τ.1 26)
theorem RX.vv {F T L B n O : Nat} {σ τ : St} (h : RX F T L B n O σ τ) : VV F T L B O σ τ := by
  obtain ⟨⟨a8, a6, a1, a2, a7, a9, a3, a4⟩, b1, c1, d1, hH⟩ := h
  exact ⟨⟨a8, a6, a1, a2, a3, a4⟩, b1, d1, hH.inv⟩
theorem RX.c {F F' T L B n O : Nat} {σ σ' τ τ' : St} (h : RX F T L B n O σ τ) (hT : T ≤ 16) (hF : F ≤ F') (hσ : SA [7, 8, 9, 10, 11, 29, 30, 31, 32, 33, 35, 36, 37, 38] σ σ') (hτ : SA [6, 7, 8, 9, 21, 22, 23, 24, 25, 26, 27, 28, 30] τ τ') : RX F' T L B n O σ' τ' := by
  unfold RX
  rw [hσ 7 (by decide), hσ 8 (by decide), hσ 9 (by decide), hσ 10 (by decide), hσ 11 (by decide), hσ 29 (by decide), hσ 30 (by decide), hσ 31 (by decide), hσ 32 (by decide), hσ 33 (by decide), hσ 35 (by decide), hσ 36 (by decide), hσ 37 (by decide), hσ 38 (by decide)]
  rw [hτ 6 (by decide), hτ 7 (by decide), hτ 8 (by decide), hτ 9 (by decide), hτ 21 (by decide), hτ 22 (by decide), hτ 23 (by decide), hτ 24 (by decide), hτ 25 (by decide), hτ 26 (by decide), hτ 27 (by decide), hτ 28 (by decide)]
  obtain ⟨a1, a2, a3, a4, a5⟩ := h
  refine ⟨a1, a2, a3, fun k hk r hr h22 w hw => ?_, Hist.c hT hF _ _ _ _ _ _ _ a5 ⟨fun k hk => ⟨by rw [hτ 21 (by decide)], by rw [hτ 22 (by decide)], by rw [hτ 24 (by decide)], fun w hw => by rw [hτ 23 (by decide)]⟩, fun b hb => ⟨by rw [hτ 25 (by decide)], by rw [hτ 27 (by decide)]⟩, fun i hi => by rw [hτ 28 (by decide)], fun t ht => by rw [hτ 30 (by decide)]⟩ (fun b hb => rfl)⟩
  rw [a4 k hk r hr h22 w hw]
  unfold kdN
  rw [hτ 30 (by decide)]
def QV (F T L B n O : Nat) (σ τ : St) : Prop := RF F σ τ ∧ RT σ τ ∧ RP σ τ ∧ RH F T σ τ ∧ RX F T L B n O σ τ
theorem QV.k {F T L B n O : Nat} {σ σ' τ τ' : St} (h : QV F T L B n O σ τ) (hσ : KE kfC σ σ') (h2 : σ'.2 = σ.2) (hτ : KE kfM τ τ') : QV F T L B n O σ' τ' := by
  obtain ⟨a, b, c, d, e⟩ := h
  exact ⟨a.c (.k hσ (by decide)) h2 (.k hτ (by decide)), b.c (.k hσ (by decide)) (.k hτ (by decide)), c.c (.k hσ (by decide)) (.k hτ (by decide)), d.c (Nat.le_refl _) (.k hσ (by decide)) (.k hτ (by decide)), e.c d.1.1 (Nat.le_refl _) (.k hσ (by decide)) (.k hτ (by decide))⟩
theorem QV.vv {F T L B n O : Nat} {σ τ : St} (h : QV F T L B n O σ τ) : VV F T L B O σ τ := h.2.2.2.2.vv
theorem VV.wb {F T L B O : Nat} {σ τ : St} (h : VV F T L B O σ τ) : WB L B σ := by
  obtain ⟨_, ⟨e29, e30, e31, e33, e36, e37, e38⟩, _, ⟨⟨hL, hB, _⟩, _, _, ⟨d, dd, _⟩, i5, _⟩⟩ := h
  refine ⟨hL, by omega, fun b hb => ⟨?_, ?_⟩⟩
  · obtain ⟨_, j, j1, j2, _⟩ := i5 b hb
    exact ⟨j, j1, by rw [e36]; exact j2⟩
  · rw [e38]
    obtain ⟨_, _, ⟨e, _⟩ | ⟨o, o1, o2, _⟩⟩ := dd b hb
    · exact Or.inl e
    · exact Or.inr ⟨o, o1, o2⟩
theorem VV.wl {F T L B O : Nat} {σ τ : St} (h : VV F T L B O σ τ) : WL L B σ := by
  intro k hk
  rw [h.2.1.2.2.2.1]
  exact (h.2.2.2.2.1 k hk).2.1
/-- nothing fails -/
theorem no_fails {F T L B O m : Nat} {σ τ : St} (h : VV F T L B O σ τ) (hf : RF F σ τ) (hm : PM2 τ.1 L m) (hs : SN L m σ) {l : Nat} (hl : l < L) : mX7_fails σ (nI l) = some (nI 0) := by
  have hL : L ≤ 60 := h.2.2.2.1.1
  have a8 := h.1.1
  obtain ⟨d, dd, _⟩ := h.2.2.2.2.2.2.1
  obtain ⟨i, hi, hi6⟩ : ∃ i, DX B d (τ.1 24 l) i ∧ i ≤ 6 := by
    rcases (h.2.2.2.2.1 l hl).2.1 with e | ⟨b, hb, e⟩
    · exact ⟨0, Or.inl ⟨e, rfl⟩, by omega⟩
    · exact ⟨d b, Or.inr ⟨b, hb, e, rfl⟩, (dd b hb).2.1⟩
  have e := x3_fails h hf dd hm hl hi hi6
  have z : bs (FBq σ τ l m i) 256 = 0 := bs_0 256 (fun q hq => by
    rw [← Bool.not_eq_true]
    intro hc
    unfold FBq at hc
    rw [Bool.and_eq_true, Bool.and_eq_true] at hc
    obtain ⟨⟨c1, c2⟩, c3⟩ := hc
    have s := hs l hl q hq (fun k hk => by rw [← tl_B h]; exact pbr_t m 0 c2 k (by omega) (by omega)) (by
      have e33 : σ.1 33 l = τ.1 24 l := by rw [h.2.1.2.2.2.1]
      rw [e33]
      exact bxc_ch h dd i (τ.1 24 l) 61 hi c3)
    rw [← tl_B h] at s
    rw [s] at c1
    exact absurd c1 (by decide))
  rw [z] at e
  simp (implicitDefEqProofs := false) (disch := omega) only [mX7_fails, mX3_lineCount, a8, e, ↓bnd_e, ↓ob_s, ob_s, su_1, su_2, sl_1, sl_2, ↓ck_n, ck_n, ck_Z0, ck_Z1, c_lt, c_le, c_eq, ng_1, m_ne, m_en, m_lt, m_le, m_gt, m_ge, n_add, n_mul, n_sub, n_sm, n_pm, n_0m, n_cl, Nat.reduceEqDiff, ↓reduceIte, nle_T, nle_F, nlt_T, nlt_F, neq_F, neq_T, if_true, if_false, true_and, and_true, Nat.mul_zero, Nat.zero_add, Nat.add_zero, Nat.reduceAdd, Nat.reduceMul, Nat.reduceSub, li_0, li_1, li_2, li_3, li_4, li_5, li_6, li_7, li_8, li_9, li_10, li_11, li_12, li_13, li_14, li_15, li_16, li_20, li_24, li_28, li_31, li_35, li_38, li_40, li_41, li_45, li_48, li_60, li_62, li_63, li_97, li_100, li_104, li_105, li_120, li_124, li_127, li_180, li_239, li_240, li_255, li_256, li_300, li_400, li_960, li_1000000]
