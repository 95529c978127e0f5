theorem bnd_e {α β : Type} (x : α) (f : α → β) : bnd x f = f x := rfl
theorem su_1 (σ : St) (k : Nat) (f : Nat → Int32) (j : Nat) : (su σ k f).1 j = if j = k then f else σ.1 j := rfl
theorem su_2 (σ : St) (k : Nat) (f : Nat → Int32) : (su σ k f).2 = σ.2 := rfl
theorem sl_1 (σ : St) (f : Nat → Int64) : (sl σ f).1 = σ.1 := rfl
theorem sl_2 (σ : St) (f : Nat → Int64) : (sl σ f).2 = f := rfl
theorem ob_s {α β : Type} (a : α) (f : α → Option β) : (some a).bind f = f a := rfl
theorem fx_s {F : Type} (z : F) (b : F → F) (n : Nat) : fx z b (n + 1) = b (fx z b n) := rfl
theorem ck_n {β : Type} {k n : Nat} (x : Option β) (h : k < n) (hn : n < 2147483648) : chkI (nI k) n x = x := by
  unfold chkI; rw [if_neg]; exact nI_in h hn
theorem ck_Z {β : Type} {v : Int32} (x : Option β) (h : v = 0 ∨ v = 1) : chkZ v x = x := by unfold chkZ; rw [if_pos h]
theorem ck_Z0 {β : Type} (x : Option β) : chkZ (nI 0) x = x := ck_Z x (Or.inl rfl)
theorem ck_Z1 {β : Type} (x : Option β) : chkZ (nI 1) x = x := ck_Z x (Or.inr rfl)
theorem c_lt {a b : Nat} (ha : a < 2147483648) (hb : b < 2147483648) : (nI a < nI b) = (a < b) := propext (nI_ltI ha hb)
theorem c_le {a b : Nat} (ha : a < 2147483648) (hb : b < 2147483648) : (nI a ≤ nI b) = (a ≤ b) := propext (nI_leI ha hb)
theorem c_eq {a b : Nat} (ha : a < 2147483648) (hb : b < 2147483648) : (nI a = nI b) = (a = b) := propext (nI_eq ha hb)
/-- minus one -/
def mI : Int32 := -1
theorem ng_1 : -nI 1 = mI := rfl
theorem ng_1' : (-1 : Int32) = mI := rfl
theorem m_toInt : mI.toInt = -1 := rfl
theorem m_ne {a : Nat} (ha : a < 2147483648) : (nI a = mI) = False := by
  refine eq_false fun h => ?_
  have := congrArg Int32.toInt h
  rw [nI_toInt ha, m_toInt] at this
  omega
theorem m_en {a : Nat} (ha : a < 2147483648) : (mI = nI a) = False := eq_false fun h => (m_ne ha).mp h.symm
theorem m_lt {a : Nat} (ha : a < 2147483648) : (mI < nI a) = True := by
  refine eq_true (Int32.lt_iff_toInt_lt.mpr ?_); rw [nI_toInt ha, m_toInt]; omega
theorem m_le {a : Nat} (ha : a < 2147483648) : (mI ≤ nI a) = True := by
  refine eq_true (Int32.le_iff_toInt_le.mpr ?_); rw [nI_toInt ha, m_toInt]; omega
theorem m_gt {a : Nat} (ha : a < 2147483648) : (nI a < mI) = False := by
  refine eq_false fun h => ?_
  have := Int32.lt_iff_toInt_lt.mp h
  rw [nI_toInt ha, m_toInt] at this; omega
theorem m_ge {a : Nat} (ha : a < 2147483648) : (nI a ≤ mI) = False := by
  refine eq_false fun h => ?_
  have := Int32.le_iff_toInt_le.mp h
  rw [nI_toInt ha, m_toInt] at this; omega
theorem n_add (a b : Nat) : nI a + nI b = nI (a + b) := nI_add a b
theorem n_mul (a b : Nat) : nI a * nI b = nI (a * b) := pk_mul a b
theorem n_sub {a b : Nat} (h : b ≤ a) : nI a - nI b = nI (a - b) := pk_sub h
theorem n_sm : nI 0 - nI 1 = mI := rfl
theorem n_pm {a : Nat} (h : 1 ≤ a) : nI a + mI = nI (a - 1) := by
  obtain ⟨b, rfl⟩ : ∃ b, a = b + 1 := ⟨a - 1, by omega⟩
  exact pk_m1 b
theorem n_0m : nI 0 + mI = mI := rfl
theorem n_cl {a : Nat} (h : a < 2147483648) : (nI a).toNatClampNeg = a := nI_clamp h
/-- an index: below nought, too large, or a number -/
theorem ix3 (x : Int32) (n : Nat) (hn : n < 2147483648) : (x < nI 0 ∧ (∀ k, k < 2147483648 → ¬ nI k ≤ x ∧ x ≠ nI k)) ∨ (¬ x < nI 0 ∧ nI n ≤ x ∧ x ≠ mI ∧ (∀ k, k < n → nI k < x ∧ ¬ x ≤ nI k ∧ x ≠ nI k) ∧ (∀ k, k ≤ n → nI k ≤ x ∧ ¬ x < nI k)) ∨ ∃ j : Nat, j < n ∧ x = nI j := by
  rcases pk_ix x hn with h | h | h
  · refine Or.inl ⟨h, fun k hk => ⟨fun h2 => ?_, fun h2 => ?_⟩⟩
    · have h1 := Int32.lt_iff_toInt_lt.mp h
      have h3 := Int32.le_iff_toInt_le.mp h2
      rw [nI_toInt hk] at h3
      have h0 : (0 : Int32).toInt = 0 := rfl
      omega
    · have h1 := Int32.lt_iff_toInt_lt.mp h
      rw [h2, nI_toInt hk] at h1
      have h0 : (0 : Int32).toInt = 0 := rfl
      omega
  · have h3 := Int32.le_iff_toInt_le.mp h
    rw [nI_toInt hn] at h3
    have h0 : (nI 0).toInt = 0 := rfl
    refine Or.inr (Or.inl ⟨fun h2 => ?_, h, fun h2 => ?_, fun k hk => ⟨Int32.lt_iff_toInt_lt.mpr ?_, fun h2 => ?_, fun h2 => ?_⟩, fun k hk => ⟨Int32.le_iff_toInt_le.mpr ?_, fun h2 => ?_⟩⟩)
    · have := Int32.lt_iff_toInt_lt.mp h2
      omega
    · rw [h2, m_toInt] at h3; omega
    · rw [nI_toInt (by omega)]; omega
    · have := Int32.le_iff_toInt_le.mp h2
      rw [nI_toInt (by omega)] at this; omega
    · rw [h2, nI_toInt (by omega)] at h3; omega
    · rw [nI_toInt (by omega)]; omega
    · have := Int32.lt_iff_toInt_lt.mp h2
      rw [nI_toInt (by omega)] at this; omega
  · exact Or.inr (Or.inr h)
/-- all but some components are as they were -/
def KE (l : List Nat) (σ σ' : St) : Prop := ∀ j, j ∉ l → σ'.1 j = σ.1 j
theorem KE.rf {l : List Nat} {σ : St} : KE l σ σ := fun _ _ => rfl
theorem KE.tr {l : List Nat} {σ s u : St} (h : KE l σ s) (h' : KE l s u) : KE l σ u := fun j hj => (h' j hj).trans (h j hj)
theorem KE.s {l : List Nat} {σ s : St} {k : Nat} {f : Nat → Int32} (h : KE l σ s) (hk : k ∈ l) : KE l σ (su s k f) := fun j hj => by
  have : j ≠ k := fun e => by subst e; exact hj hk
  rw [su_1, if_neg this]; exact h j hj
theorem KE.l {l : List Nat} {σ s : St} {f : Nat → Int64} (h : KE l σ s) : KE l σ (sl s f) := h
theorem up_1 (f : Nat → Int32) (k : Nat) (x : Int32) (j : Nat) : upd f k x j = if j = k then x else f j := rfl
theorem uL_1 (f : Nat → Int64) (k : Nat) (x : Int64) (j : Nat) : vp_updL f k x j = if j = k then x else f j := rfl
theorem li_0 : (0 : Int32) = nI 0 := rfl
theorem li_1 : (1 : Int32) = nI 1 := rfl
theorem li_2 : (2 : Int32) = nI 2 := rfl
theorem li_3 : (3 : Int32) = nI 3 := rfl
theorem li_4 : (4 : Int32) = nI 4 := rfl
theorem li_5 : (5 : Int32) = nI 5 := rfl
theorem li_6 : (6 : Int32) = nI 6 := rfl
theorem li_7 : (7 : Int32) = nI 7 := rfl
theorem li_8 : (8 : Int32) = nI 8 := rfl
theorem li_9 : (9 : Int32) = nI 9 := rfl
theorem li_10 : (10 : Int32) = nI 10 := rfl
theorem li_11 : (11 : Int32) = nI 11 := rfl
theorem li_12 : (12 : Int32) = nI 12 := rfl
theorem li_13 : (13 : Int32) = nI 13 := rfl
theorem li_14 : (14 : Int32) = nI 14 := rfl
theorem li_15 : (15 : Int32) = nI 15 := rfl
theorem li_16 : (16 : Int32) = nI 16 := rfl
theorem li_20 : (20 : Int32) = nI 20 := rfl
theorem li_24 : (24 : Int32) = nI 24 := rfl
theorem li_28 : (28 : Int32) = nI 28 := rfl
theorem li_31 : (31 : Int32) = nI 31 := rfl
theorem li_35 : (35 : Int32) = nI 35 := rfl
theorem li_38 : (38 : Int32) = nI 38 := rfl
theorem li_40 : (40 : Int32) = nI 40 := rfl
theorem li_41 : (41 : Int32) = nI 41 := rfl
theorem li_45 : (45 : Int32) = nI 45 := rfl
theorem li_48 : (48 : Int32) = nI 48 := rfl
theorem li_60 : (60 : Int32) = nI 60 := rfl
theorem li_62 : (62 : Int32) = nI 62 := rfl
theorem li_63 : (63 : Int32) = nI 63 := rfl
theorem li_97 : (97 : Int32) = nI 97 := rfl
theorem li_100 : (100 : Int32) = nI 100 := rfl
theorem li_104 : (104 : Int32) = nI 104 := rfl
theorem li_105 : (105 : Int32) = nI 105 := rfl
theorem li_120 : (120 : Int32) = nI 120 := rfl
theorem li_124 : (124 : Int32) = nI 124 := rfl
theorem li_127 : (127 : Int32) = nI 127 := rfl
theorem li_180 : (180 : Int32) = nI 180 := rfl
theorem li_239 : (239 : Int32) = nI 239 := rfl
theorem li_240 : (240 : Int32) = nI 240 := rfl
theorem li_255 : (255 : Int32) = nI 255 := rfl
theorem li_256 : (256 : Int32) = nI 256 := rfl
theorem li_300 : (300 : Int32) = nI 300 := rfl
theorem li_400 : (400 : Int32) = nI 400 := rfl
theorem li_960 : (960 : Int32) = nI 960 := rfl
theorem li_1000000 : (1000000 : Int32) = nI 1000000 := rfl
theorem x1_sort {σ : St} {F j : Nat} (h0 : σ.1 0 0 = nI F) (hF : F ≤ 240) (hj : j < F) : mX1_sort σ (nI j) = some (σ.1 12 j) := by
  simp (disch := omega) only [mX1_sort, h0, bnd_e, ob_s, su_1, su_2, sl_1, sl_2, ck_n, ck_Z0, ck_Z1, c_lt, c_le, c_eq, ng_1, m_ne, m_en, m_lt, m_le, m_gt, m_ge, n_add, n_mul, n_sub, n_sm, n_pm, n_0m, n_cl, Nat.reduceEqDiff, reduceIte, if_pos, if_neg, if_true, if_false, true_and, and_true, Nat.mul_zero, Nat.zero_add, Nat.add_zero, Nat.reduceAdd, Nat.reduceMul, Nat.reduceSub, li_0, li_1, li_2, li_3, li_4, li_5, li_6, li_7, li_8, li_9, li_10, li_11, li_12, li_13, li_14, li_15, li_16, li_20, li_24, li_28, li_31, li_35, li_38, li_40, li_41, li_45, li_48, li_60, li_62, li_63, li_97, li_100, li_104, li_105, li_120, li_124, li_127, li_180, li_239, li_240, li_255, li_256, li_300, li_400, li_960, li_1000000]
