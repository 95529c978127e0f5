/-- the innermost is the last of the open boxes -/
theorem Inv.top {F T L B O : Nat} {inn : Int32} {g : Nat → Nat → Int32} {e : Nat → Int32} (h : Inv F T L B O inn g e) : ∀ i b, b < B → B - b = i → e b = mI → ∃ c, c < B ∧ inn = nI c ∧ b ≤ c := by
  obtain ⟨⟨a1, a2, a3⟩, _, _, ⟨d, d1, _⟩, _, _, k1⟩ := h
  intro i
  induction i using Nat.strongRecOn with
  | _ i ih =>
    intro b hb hi he
    rcases k1 b hb he with h1 | ⟨c, c1, c2, c3⟩
    · exact ⟨b, hb, h1, Nat.le_refl _⟩
    · obtain ⟨_, _, ⟨e3, _⟩ | ⟨o, o1, e3, _⟩⟩ := d1 c c1
      · rw [c3, m_ne (by omega)] at e3; exact e3.elim
      · rw [c3, c_eq (by omega) (by omega)] at e3
        subst e3
        obtain ⟨x, x1, x2, x3⟩ := ih (B - c) (by omega) c c1 rfl c2
        exact ⟨x, x1, x2, by omega⟩
/-- a line more -/
theorem Inv.line {F T L B O : Nat} {inn : Int32} {g g' : Nat → Nat → Int32} {e : Nat → Int32} {n : Nat} (h : Inv F T L B O inn g e) (hT : T ≤ 16) (hL : L < 60) (hg : GA T n L B g g')
    (hn : LK F T (L + 1) B g' e L) (hp : g' 22 L = nI 15 → L < 2 ∧ ∀ j, j < L → g 22 j = nI 15) : Inv F T (L + 1) B O inn g' e := by
  have hc := h.c hT (Nat.le_refl _) hg (fun b _ => rfl)
  obtain ⟨⟨a1, a2, a3⟩, b1, c1, d1, f1, i1, k1⟩ := hc
  refine ⟨⟨by omega, by omega, a3⟩, fun k hk => ?_, fun k hk hr => ?_, d1, fun b hb => ?_, i1, k1⟩
  · by_cases e2 : k < L
    · exact (h.2.1 k e2).c hT (Nat.le_refl _) hg e2 a1 (by omega) (Nat.le_refl _) (fun b _ _ => rfl)
    · have : k = L := by omega
      subst this; exact hn
  · by_cases e2 : k < L
    · exact c1 k e2 hr
    · have : k = L := by omega
      subst this
      obtain ⟨x, y⟩ := hp hr
      exact ⟨x, fun j hj => by rw [(hg.1 j hj).2.1]; exact y j hj⟩
  · obtain ⟨x, j, y1, y2, y3⟩ := f1 b hb
    refine ⟨?_, j, by omega, y2, y3⟩
    rcases x with x | ⟨i, x1, x2⟩
    · exact Or.inl x
    · exact Or.inr ⟨i, by omega, x2⟩
theorem Hist.line {F T n L B O : Nat} {inn : Int32} {g g' : Nat → Nat → Int32} {e : Nat → Int32} (h : Hist F T g n L B O inn e) (hT : T ≤ 16) (hL : L < 60) (hg : GA T n L B g g')
    (hn : LK F T (L + 1) B g' e L) (hp : g' 22 L = nI 15 → L < 2 ∧ ∀ j, j < L → g 22 j = nI 15) (h14 : g' 22 L ≠ nI 14) (hd : g' 28 n = nI L) : Hist F T g' (n + 1) (L + 1) B O inn e :=
  ⟨h.inv.line hT hL hg hn hp, Or.inl ⟨L, rfl, hd, h14, Hist.c hT (Nat.le_refl _) _ _ _ _ _ _ _ h hg (fun _ _ => rfl)⟩⟩
/-- a box more, and its first line -/
theorem Hist.box {F T n L B O f : Nat} {inn : Int32} {g g' : Nat → Nat → Int32} {e e' : Nat → Int32} (h : Hist F T g n L B O inn e) (hT : T ≤ 16) (hL : L < 60) (hO : O < 6) (hg : GA T n L B g g')
    (he : ∀ b, b < B → e' b = e b) (heB : e' B = mI) (h27 : g' 27 B = inn) (h25 : g' 25 B = nI L) (h24 : g' 24 L = nI B) (h22 : g' 22 L = nI 14) (hf : f < F) (h21 : g' 21 L = nI f) (hd : g' 28 n = nI L) :
    Hist F T g' (n + 1) (L + 1) (B + 1) (O + 1) (nI B) e' := by
  have hi := h.inv
  have hc := hi.c hT (Nat.le_refl _) hg he
  have hh := Hist.c hT (Nat.le_refl _) _ _ _ _ _ _ _ h hg he
  refine ⟨?_, Or.inr (Or.inl ⟨L, B, O, rfl, rfl, rfl, hd, h22, rfl, by rw [h27]; exact hh⟩)⟩
  obtain ⟨⟨a1, a2, a3⟩, b1, c1, ⟨d, d1, d2⟩, f1, i1, k1⟩ := hc
  have inn_o : inn = mI ∨ ∃ b, b < B ∧ inn = nI b ∧ e' b = mI := by
    rcases d2 with ⟨x, _⟩ | ⟨b, x1, x2, _, x3⟩
    · exact Or.inl x
    · exact Or.inr ⟨b, x1, x2, x3⟩
  refine ⟨⟨by omega, by omega, by omega⟩, fun k hk => ?_, fun k hk hr => ?_, ⟨fun b => if b = B then O + 1 else d b, fun b hb => ?_, ?_⟩, fun b hb => ?_, fun b hb hm => ?_, fun b hb hm => ?_⟩
  · by_cases e2 : k < L
    · exact (hi.2.1 k e2).c hT (Nat.le_refl _) hg e2 a1 (by omega) (by omega) (fun b hb _ => he b hb)
    · have : k = L := by omega
      subst this
      refine ⟨⟨f, hf, h21⟩, Or.inr ⟨B, by omega, h24⟩, 14, by omega, h22, fun h => by omega, fun w hw => ?_⟩
      have hk0 : kdN g' 14 (g' 23 (3 * k)).toNatClampNeg w = 0 := by
        have hw3 : w = 0 ∨ w = 1 ∨ w = 2 := by omega
        rcases hw3 with rfl | rfl | rfl <;> rfl
      rw [hk0]
      exact ⟨fun h => by omega, fun h => by omega⟩
  · by_cases e2 : k < L
    · exact c1 k e2 hr
    · have : k = L := by omega
      subst this
      rw [h22, c_eq (by omega) (by omega)] at hr; omega
  · dsimp only
    by_cases e2 : b = B
    · subst e2
      rw [if_pos rfl]
      refine ⟨by omega, by omega, ?_⟩
      rcases d2 with ⟨x, x0⟩ | ⟨o, x1, x2, x3, x4⟩
      · exact Or.inl ⟨by rw [h27]; exact x, by omega⟩
      · refine Or.inr ⟨o, x1, by rw [h27]; exact x2, ?_⟩
        rw [if_neg (by omega)]; omega
    · rw [if_neg e2]
      obtain ⟨y1, y2, y3⟩ := d1 b (by omega)
      refine ⟨y1, y2, ?_⟩
      rcases y3 with y3 | ⟨o, o1, o2, o3⟩
      · exact Or.inl y3
      · exact Or.inr ⟨o, o1, o2, by rw [if_neg (by omega)]; exact o3⟩
  · exact Or.inr ⟨B, by omega, rfl, if_pos rfl, heB⟩
  · by_cases e2 : b = B
    · subst e2
      exact ⟨Or.inl heB, L, by omega, h25, h24⟩
    · obtain ⟨x, j, y1, y2, y3⟩ := f1 b (by omega)
      refine ⟨?_, j, by omega, y2, y3⟩
      rcases x with x | ⟨i, x1, x2⟩
      · exact Or.inl x
      · exact Or.inr ⟨i, by omega, x2⟩
  · by_cases e2 : b = B
    · subst e2
      rw [h27]
      rcases inn_o with x | ⟨o, x1, x2, x3⟩
      · exact Or.inl x
      · exact Or.inr ⟨o, x1, x2, x3⟩
    · exact i1 b (by omega) hm
  · by_cases e2 : b = B
    · subst e2; exact Or.inl rfl
    · rcases k1 b (by omega) hm with x | ⟨c, x1, x2, x3⟩
      · exact Or.inr ⟨B, by omega, heB, by rw [h27]; exact x⟩
      · exact Or.inr ⟨c, by omega, x2, x3⟩
/-- the innermost box is shut -/
theorem Hist.shut {F T n L B O b0 k0 : Nat} {g g' : Nat → Nat → Int32} {e e' : Nat → Int32} (h : Hist F T g n L B (O + 1) (nI b0) e) (hT : T ≤ 16) (hb0 : b0 < B) (hk0 : k0 < L) (hg : GA T n L B g g')
    (he : e' = upd e b0 (nI k0)) (hd : g' 28 n = mI - nI b0) : Hist F T g' (n + 1) L B O (g' 27 b0) e' := by
  have hi := h.inv
  have htop := hi.top
  have hB60 : B ≤ 60 := by have := hi.1; omega
  have hL60 : L ≤ 60 := hi.1.1
  have hinn : e b0 = mI := by
    obtain ⟨_, _, _, ⟨d, d1, d2⟩, _⟩ := hi
    rcases d2 with ⟨x, _⟩ | ⟨b, x1, x2, _, x3⟩
    · rw [m_ne (by omega)] at x; exact x.elim
    · rw [c_eq (by omega) (by omega)] at x2; subst x2; exact x3
  have hne : ∀ b, b ≠ b0 → e' b = e b := fun b hb => by rw [he, pk_un hb]
  have he0 : e' b0 = nI k0 := by rw [he, pk_us]
  have hc := hi.c hT (Nat.le_refl _) hg (fun b _ => rfl)
  have hback : Hist F T g' n L B (O + 1) (nI b0) (upd e' b0 mI) := Hist.c hT (Nat.le_refl _) _ _ _ _ _ _ _ h hg (fun b hb => by
    rw [up_1]
    by_cases e2 : b = b0
    · rw [if_pos e2, e2, hinn]
    · rw [if_neg e2, hne b e2])
  refine ⟨?_, Or.inr (Or.inr ⟨b0, hb0, hd, hback⟩)⟩
  obtain ⟨⟨a1, a2, a3⟩, b1, c1, ⟨d, d1, d2⟩, f1, i1, k1⟩ := hc
  have open_ne : ∀ b, b < B → e' b = mI → b ≠ b0 ∧ e b = mI := fun b hb hm => by
    have : b ≠ b0 := fun e2 => by rw [e2, he0, m_ne (by omega)] at hm; exact hm
    exact ⟨this, by rw [← hne b this]; exact hm⟩
  have le_top : ∀ b, b < B → e b = mI → b ≤ b0 := fun b hb hm => by
    obtain ⟨c, c1, c2, c3⟩ := htop (B - b) b hb rfl hm
    rw [c_eq (by omega) (by omega)] at c2; omega
  have d0 : d b0 = O + 1 := by
    rcases d2 with ⟨x, _⟩ | ⟨b, x1, x2, x3, _⟩
    · rw [m_ne (by omega)] at x; exact x.elim
    · rw [c_eq (by omega) (by omega)] at x2; subst x2; exact x3
  refine ⟨⟨a1, a2, by omega⟩, fun k hk => ?_, c1, ⟨d, d1, ?_⟩, fun b hb => ?_, fun b hb hm => ?_, fun b hb hm => ?_⟩
  · exact (hi.2.1 k hk).c hT (Nat.le_refl _) hg hk a1 (Nat.le_refl _) (Nat.le_refl _) (fun b hb hbm => hne b (fun e2 => hbm (by rw [e2]; exact hinn)))
  · obtain ⟨_, _, ⟨x, y⟩ | ⟨o, o1, o2, o3⟩⟩ := d1 b0 hb0
    · exact Or.inl ⟨x, by omega⟩
    · refine Or.inr ⟨o, by omega, o2, by omega, ?_⟩
      rw [hne o (by omega)]
      rcases i1 b0 hb0 hinn with x | ⟨o', p1, p2, p3⟩
      · rw [o2, m_ne (by omega)] at x; exact x.elim
      · rw [o2, c_eq (by omega) (by omega)] at p2; subst p2; exact p3
  · obtain ⟨x, j, y⟩ := f1 b hb
    refine ⟨?_, j, y⟩
    by_cases e2 : b = b0
    · subst e2; exact Or.inr ⟨k0, hk0, he0⟩
    · rw [hne b e2]; exact x
  · obtain ⟨n1, n2⟩ := open_ne b hb hm
    rcases i1 b hb n2 with x | ⟨o, o1, o2, o3⟩
    · exact Or.inl x
    · refine Or.inr ⟨o, o1, o2, ?_⟩
      have : o ≠ b0 := by have := le_top b hb n2; omega
      rw [hne o this]; exact o3
  · obtain ⟨n1, n2⟩ := open_ne b hb hm
    rcases k1 b hb n2 with x | ⟨c, x1, x2, x3⟩
    · rw [c_eq (by omega) (by omega)] at x; omega
    · by_cases e2 : c = b0
      · subst e2; exact Or.inl x3
      · exact Or.inr ⟨c, x1, by rw [hne c e2]; exact x2, x3⟩
