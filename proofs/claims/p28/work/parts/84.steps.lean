theorem op_step {F T L B n O m r f : Nat} {σ : St} (h : GI F T L B n O m σ) (hr : r ≤ 12) (hff : f < F) (hL : L < 60) (a b c : Int32) :
    ∃ why σ', why ≤ 3 ∧ mX7_step σ (nI r) (nI f) a b c = some (nI why, σ') ∧ (why ≠ 0 → SC σ σ') ∧ (why = 0 → GI F T (L + 1) B (n + 1) O m σ' ∧ UN F T L B n O m σ σ' ∧ σ'.1 30 L = nI r) ∧ KE kP σ σ' ∧ σ'.2 = σ.2 ∧ (∀ σ1, mX4_refusal σ (nI r) (nI f) a b c = some (nI 0, σ1) → why = 0) := by
  have h0 := h
  obtain ⟨τ, q, pm, tt, sn, ce⟩ := h
  have k1 := q.kn hff
  have vv := q.vv
  have hn13 : ¬ r = 13 := by omega
  obtain ⟨hf, ht, hp, hh, ⟨a8, a6, a1, a2, a7, a9, a3, a4⟩, b1, c1, d1, hH⟩ := q
  obtain ⟨why, σ1, τ1, m', w1, e1, _, _, _, _, hw⟩ := refusal_rel vv hf hh (by omega : r ≤ 13) hff a b c
  obtain ⟨why', _, e1', _⟩ := refusal_12 vv hf hh hr hff a b c
  have es : σ1 = σ := congrArg Prod.snd (Option.some.inj (e1.symm.trans e1'))
  subst es
  have hlast : ∀ σ2, mX4_refusal σ1 (nI r) (nI f) a b c = some (nI 0, σ2) → why = 0 := fun σ2 e2 => by
    have : nI why = nI 0 := congrArg Prod.fst (Option.some.inj (e1.symm.trans e2))
    rw [c_eq (by omega) (by omega)] at this
    exact this
  by_cases w0 : why = 0
  · subst w0
    obtain ⟨hm, R0, R1, R2⟩ := hw rfl
    obtain ⟨σ', τ', y1, y2, y3, y4, y5, y6, z29, z30, zr, z33, z35⟩ := line_rx (σ := σ1) (τ := τ) (r := r) (m := m') (a := a) (b := b) (c := c) (f := f) hh.1.1 hff hL (by omega) (by omega) a8 a6 a1 a2 a7 a9 a3 a4 b1 c1 d1 hH
      (fun h => absurd h hn13) (fun h => absurd h (by omega)) (fun w hw => by
        have hw3 : w = 0 ∨ w = 1 ∨ w = 2 := by omega
        rcases hw3 with rfl | rfl | rfl
        · exact ⟨R0.1, R0.2.1⟩
        · exact ⟨R1.1, R1.2.1⟩
        · exact ⟨R2.1, R2.2.1⟩)
    have q' : QV F T (L + 1) B (n + 1) O σ' τ' := ⟨hf.c (.k y3 (by decide)) y5 (.k y4 (by decide)), ht.c (.k y3 (by decide)) (.k y4 (by decide)), hp.c (.k y3 (by decide)) (.k y4 (by decide)), hh.c (Nat.le_refl _) (.k y3 (by decide)) (.k y4 (by decide)), y6⟩
    have kP' : KE kP σ1 σ' := y3.wk (by decide)
    have hl : ∀ k, k < L → σ'.1 29 k = σ1.1 29 k ∧ σ'.1 30 k = σ1.1 30 k ∧ σ'.1 33 k = σ1.1 33 k := fun k hk => by
      rw [z29, z30, z33, pk_un (by omega), pk_un (by omega), pk_un (by omega)]; exact ⟨rfl, rfl, rfl⟩
    have hb : ∀ b, b < B → σ'.1 36 b = σ1.1 36 b ∧ σ'.1 38 b = σ1.1 38 b := fun b _ => by rw [y3 36 (by decide), y3 38 (by decide)]; exact ⟨rfl, rfl⟩
    have htl : ∀ k, k < L → ∀ z, tl σ' k z = tl σ1 k z := fun k hk z => by unfold tl tv; rw [(hl k hk).1, y5]
    have hF := hf.le
    refine ⟨0, σ', by omega, ?_, fun h => absurd rfl h, fun _ => ⟨⟨τ', q', ⟨pm.1, by have := pm.2.1; omega, fun k hk => ?_⟩, tt.c y5 (y3 12 (by decide)) (y3 13 (by decide)) (y3 14 (by decide)), SN.s (sn.c vv.wb vv.wl pm.2.1 y5 (fun k hk => (hl k hk).1) (fun k hk => (hl k hk).2.2) hb) (fun z hz hp hc => ?_), ?_⟩, UN.of h0 kP' y5 hl zr hb (fun u hu => ?_), by rw [z30, pk_us]⟩, kP', y5, fun _ _ => rfl⟩
    · simp (implicitDefEqProofs := false) (disch := omega) only [mX7_step, k1, mX3_lineCount, a8, e1, y1, ↓bnd_e, ↓ob_s, ob_s, su_1, su_2, sl_1, sl_2, ↓ck_n, ck_n, ck_Z0, ck_Z1, c_lt, c_le, c_eq, ng_1, m_ne, m_en, m_lt, m_le, m_gt, m_ge, n_add, n_mul, n_sub, n_sm, n_pm, n_0m, n_cl, Nat.reduceEqDiff, ↓reduceIte, nle_T, nle_F, nlt_T, nlt_F, neq_F, neq_T, if_true, if_false, true_and, and_true, Nat.mul_zero, Nat.zero_add, Nat.add_zero, Nat.reduceAdd, Nat.reduceMul, Nat.reduceSub, li_0, li_1, li_2, li_3, li_4, li_5, li_6, li_7, li_8, li_9, li_10, li_11, li_12, li_13, li_14, li_15, li_16, li_20, li_24, li_28, li_31, li_35, li_38, li_40, li_41, li_45, li_48, li_60, li_62, li_63, li_97, li_100, li_104, li_105, li_120, li_124, li_127, li_180, li_239, li_240, li_255, li_256, li_300, li_400, li_960, li_1000000]
    · rw [z30, up_1]
      by_cases e : k = L
      · rw [if_pos e, c_eq (by omega) (by omega)]
        have := pm.2.1
        exact ⟨fun h => absurd h (by omega), fun h => by omega⟩
      · rw [if_neg e]; exact pm.2.2 k (by omega)
    · have hin : σ1.1 11 0 = mI ∨ ∃ b, b < B ∧ σ1.1 11 0 = nI b := by rw [a4]; exact inn_box hH.inv
      rw [z33, pk_us] at hc
      have hc' : CH σ1 z (σ1.1 11 0) := (chn_c vv.wb (fun k hk => htl k hk z) hb 61 _ hin).mp hc
      have t := step_sound vv hf hh tt sn ce hr hff e1 z hz (fun i hi => by rw [← htl i (by have := pm.2.1; omega)]; exact hp i hi) hc'
      unfold tl
      rw [z29, pk_us, n_cl (by omega)]
      unfold tv at t ⊢
      rw [y5]; exact t
    · unfold CE
      rw [y3 37 (by decide)]
      exact CE.l vv ce (g := σ'.1 33) (fun i hi => (hl i hi).2.2)
    · have qu := q'.k (hu.1.wk (by decide)) hu.2 KE.rf
      obtain ⟨w, τw, e, kw, w2, qw⟩ := un_1 qu (by rw [hu.1 35 (by decide), z35, pk_us]) (by rw [hu.1 30 (by decide), z30, pk_us]; intro h; rw [c_eq (by omega) (by omega)] at h; omega)
      refine ⟨w, τw, e, kw.wk (by decide), w2, fun b hb' => ?_, qw⟩
      rw [kw 37 (by decide), hu.1 37 (by decide), y3 37 (by decide)]
  · refine ⟨why, σ1, w1, ?_, fun _ => SC.rf, fun h => absurd h w0, KE.rf, rfl, hlast⟩
    simp (implicitDefEqProofs := false) (disch := omega) only [mX7_step, k1, mX3_lineCount, a8, e1, ↓bnd_e, ↓ob_s, ob_s, su_1, su_2, sl_1, sl_2, ↓ck_n, ck_n, ck_Z0, ck_Z1, c_lt, c_le, c_eq, ng_1, m_ne, m_en, m_lt, m_le, m_gt, m_ge, n_add, n_mul, n_sub, n_sm, n_pm, n_0m, n_cl, Nat.reduceEqDiff, ↓reduceIte, nle_T, nle_F, nlt_T, nlt_F, neq_F, neq_T, if_true, if_false, true_and, and_true, Nat.mul_zero, Nat.zero_add, Nat.add_zero, Nat.reduceAdd, Nat.reduceMul, Nat.reduceSub, li_0, li_1, li_2, li_3, li_4, li_5, li_6, li_7, li_8, li_9, li_10, li_11, li_12, li_13, li_14, li_15, li_16, li_20, li_24, li_28, li_31, li_35, li_38, li_40, li_41, li_45, li_48, li_60, li_62, li_63, li_97, li_100, li_104, li_105, li_120, li_124, li_127, li_180, li_239, li_240, li_255, li_256, li_300, li_400, li_960, li_1000000]
/-- the first of all the steps that would not be refused -/
def scR (W : Nat → Nat → Nat → Nat → Nat) (L B : Nat) : Nat → Nat → Option Q4
  | 0, _ => none
  | d + 1, r => match scanO (gA W r (cnt L B (kdM r 0 1)) (cnt L B (kdM r 0 2))) (cnt L B (kdM r 0 0)) 0 with
    | some x => some x
    | none => scR W L B d (r + 1)
theorem scanO_s {α : Type} {g : Nat → Option α} {x : α} : ∀ d k, scanO g d k = some x → ∃ i, g i = some x := by
  intro d
  induction d with
  | zero => intro k h; cases h
  | succ d ih =>
    intro k h
    cases hg : g k with
    | none => rw [scanO_0 hg] at h; exact ih (k + 1) h
    | some y =>
      rw [scanO_1 hg] at h
      cases h
      exact ⟨k, hg⟩
theorem scR_ok {W : Nat → Nat → Nat → Nat → Nat} {L B : Nat} {x : Q4} : ∀ d r, r + d = 13 → scR W L B d r = some x → x.1 ≤ 12 ∧ W x.1 x.2.1 x.2.2.1 x.2.2.2 = 0 := by
  intro d
  induction d with
  | zero => intro r _ h; cases h
  | succ d ih =>
    intro r hr h
    have h' : (match scanO (gA W r (cnt L B (kdM r 0 1)) (cnt L B (kdM r 0 2))) (cnt L B (kdM r 0 0)) 0 with | some x => some x | none => scR W L B d (r + 1)) = some x := h
    cases hs : scanO (gA W r (cnt L B (kdM r 0 1)) (cnt L B (kdM r 0 2))) (cnt L B (kdM r 0 0)) 0 with
    | none => rw [hs] at h'; exact ih (r + 1) (by omega) h'
    | some y =>
      rw [hs] at h'
      cases h'
      obtain ⟨a, ha⟩ := scanO_s _ _ hs
      obtain ⟨b, hb⟩ := scanO_s _ _ (show scanO (gB W r (cnt L B (kdM r 0 2)) a) (cnt L B (kdM r 0 1)) 0 = some x from ha)
      obtain ⟨c, hc⟩ := scanO_s _ _ (show scanO (gC W r a b) (cnt L B (kdM r 0 2)) 0 = some x from hb)
      unfold gC at hc
      by_cases hw : W r a b c = 0
      · rw [if_pos hw] at hc
        cases hc
        exact ⟨by show r ≤ 12; omega, hw⟩
      · rw [if_neg hw] at hc; cases hc
theorem hr_c {F T L B O f : Nat} {σ τ : St} {W : Nat → Nat → Nat → Nat → Nat} (h : VV F T L B O σ τ) (hf : RF F σ τ) (hh : RH F T σ τ) (hW : HW f σ τ W) {w : Nat} (hw : w < 4) : ∀ d r n, r + d = 13 → d < n →
    mX7_hint_32 n σ (nI f) (nI w) (nI r) = match scR W L B d r with | some x => some (vec4 (σ.1 39) x w, su σ 39 (vec4 (σ.1 39) x)) | none => some (mI, σ) := by
  have hL : L ≤ 60 := h.2.2.2.1.1
  have hB : B ≤ 60 := by have := h.2.2.2.1.2.1; omega
  intro d
  induction d with
  | zero =>
    intro r n hr hn
    obtain ⟨n, rfl⟩ : ∃ m, n = m + 1 := ⟨n - 1, by omega⟩
    have : r = 13 := by omega
    subst this
    show _ = some (mI, σ)
    simp (implicitDefEqProofs := false) (disch := omega) only [fx_s, bX7_hint_32, ↓bnd_e, ↓ob_s, ob_s, su_1, su_2, sl_1, sl_2, ↓ck_n, ck_n, ck_Z0, ck_Z1, c_lt, c_le, c_eq, ng_1, m_ne, m_en, m_lt, m_le, m_gt, m_ge, n_add, n_mul, n_sub, n_sm, n_pm, n_0m, n_cl, Nat.reduceEqDiff, ↓reduceIte, nle_T, nle_F, nlt_T, nlt_F, neq_F, neq_T, if_true, if_false, true_and, and_true, Nat.mul_zero, Nat.zero_add, Nat.add_zero, Nat.reduceAdd, Nat.reduceMul, Nat.reduceSub, li_0, li_1, li_2, li_3, li_4, li_5, li_6, li_7, li_8, li_9, li_10, li_11, li_12, li_13, li_14, li_15, li_16, li_20, li_24, li_28, li_31, li_35, li_38, li_40, li_41, li_45, li_48, li_60, li_62, li_63, li_97, li_100, li_104, li_105, li_120, li_124, li_127, li_180, li_239, li_240, li_255, li_256, li_300, li_400, li_960, li_1000000]
  | succ d ih =>
    intro r n hr hn
    obtain ⟨n, rfl⟩ : ∃ m, n = m + 1 := ⟨n - 1, by omega⟩
    have hc60 := cnt_60 hL hB (kdM r 0 0)
    have ec := hc_a (W := W) h hf hh hW (r := r) (by omega) (cnt L B (kdM r 0 0)) 0 NF (by omega) (by show _ < 1000; omega)
    have uc : mX7_hint_32 (n + 1) σ (nI f) (nI w) (nI r) = (mX4_search_2 NF σ (nI r) (nI f) (nI 0)).bind fun ⟨r10, s12⟩ => if r10 = 0 then mX7_hint_32 n s12 (nI f) (nI w) (nI r + 1) else mX7_hint_50 s12 (nI w) := by
      show bX7_hint_32 (mX7_hint_32 n) σ (nI f) (nI w) (nI r) = _
      unfold bX7_hint_32
      rw [if_neg (by rw [show (13 : Int32) = nI 13 from rfl, c_le (by omega) (by omega)]; omega)]
      rfl
    have us : scR W L B (d + 1) r = (match scanO (gA W r (cnt L B (kdM r 0 1)) (cnt L B (kdM r 0 2))) (cnt L B (kdM r 0 0)) 0 with | some x => some x | none => scR W L B d (r + 1)) := rfl
    rw [uc, ec, us]
    cases hg : scanO (gA W r (cnt L B (kdM r 0 1)) (cnt L B (kdM r 0 2))) (cnt L B (kdM r 0 0)) 0 with
    | none =>
      have z := ih (r + 1) n (by omega) (by omega)
      have c1 : (oC σ none (some (0, σ))).bind (fun ⟨r10, s12⟩ => if r10 = 0 then mX7_hint_32 n s12 (nI f) (nI w) (nI r + 1) else mX7_hint_50 s12 (nI w)) = mX7_hint_32 n σ (nI f) (nI w) (nI (r + 1)) := by
        rw [← nI_1 r]; rfl
      rw [c1]
      exact z
    | some x =>
      have c1 : oC σ (some x) (some (0, σ)) = some (nI 1, su σ 39 (vec4 (σ.1 39) x)) := s119 σ x
      rw [c1]
      show _ = some (vec4 (σ.1 39) x w, su σ 39 (vec4 (σ.1 39) x))
      simp (implicitDefEqProofs := false) (disch := omega) only [mX7_hint_50, mX4_found, ↓bnd_e, ↓ob_s, ob_s, su_1, su_2, sl_1, sl_2, ↓ck_n, ck_n, ck_Z0, ck_Z1, c_lt, c_le, c_eq, ng_1, m_ne, m_en, m_lt, m_le, m_gt, m_ge, n_add, n_mul, n_sub, n_sm, n_pm, n_0m, n_cl, Nat.reduceEqDiff, ↓reduceIte, nle_T, nle_F, nlt_T, nlt_F, neq_F, neq_T, if_true, if_false, true_and, and_true, Nat.mul_zero, Nat.zero_add, Nat.add_zero, Nat.reduceAdd, Nat.reduceMul, Nat.reduceSub, li_0, li_1, li_2, li_3, li_4, li_5, li_6, li_7, li_8, li_9, li_10, li_11, li_12, li_13, li_14, li_15, li_16, li_20, li_24, li_28, li_31, li_35, li_38, li_40, li_41, li_45, li_48, li_60, li_62, li_63, li_97, li_100, li_104, li_105, li_120, li_124, li_127, li_180, li_239, li_240, li_255, li_256, li_300, li_400, li_960, li_1000000]
/-- why a step is refused, by the other side -/
def W0 (τ : St) (f r a b c : Nat) : Nat := match mX8_refusal τ (nI r) (nI f) (nI a) (nI b) (nI c) with
  | some (v, _) => v.toNatClampNeg
  | none => 0
theorem W0_ok {F T L B O f : Nat} {σ τ : St} (h : VV F T L B O σ τ) (hf : RF F σ τ) (hh : RH F T σ τ) (hff : f < F) : HW f σ τ (W0 τ f) := by
  intro r hr a b c
  obtain ⟨why, w1, w2, w3⟩ := refusal_12 h hf hh hr hff (nI a) (nI b) (nI c)
  have e : W0 τ f r a b c = why := by
    unfold W0
    rw [w3]
    exact n_cl (by omega)
  rw [e]
  exact ⟨w1, w2, w3⟩
theorem op_hint {F T L B n O m f : Nat} {σ : St} (h : GI F T L B n O m σ) (hff : f < F) : ∃ o : Option Q4,
    (∀ s, SC σ s → ∀ w, w < 4 → ∃ s', SC s s' ∧ mX7_hint s (nI f) (nI w) = some ((match o with | some x => vec4 (fun _ => 0) x w | none => mI), s')) ∧
    ∀ x, o = some x → x.1 ≤ 12 ∧ ∀ s, SC σ s → mX4_refusal s (nI x.1) (nI f) (nI x.2.1) (nI x.2.2.1) (nI x.2.2.2) = some (nI 0, s) := by
  obtain ⟨τ, q, _⟩ := h
  have qs : ∀ s, SC σ s → QV F T L B n O s τ := fun s hs => q.k (hs.1.wk (by decide)) hs.2 KE.rf
  have hw : ∀ s, SC σ s → HW f s τ (W0 τ f) := fun s hs => W0_ok (qs s hs).vv (qs s hs).1 (qs s hs).2.2.2.1 hff
  refine ⟨scR (W0 τ f) L B 13 0, fun s hs w hw4 => ?_, fun x hx => ?_⟩
  · have k1 := (qs s hs).kn hff
    have e7 : mX7_hint s (nI f) (nI w) = mX7_hint_32 NF s (nI f) (nI w) (nI 0) := by simp (implicitDefEqProofs := false) (disch := omega) only [mX7_hint, k1, ↓bnd_e, ↓ob_s, ob_s, su_1, su_2, sl_1, sl_2, ↓ck_n, ck_n, ck_Z0, ck_Z1, c_lt, c_le, c_eq, ng_1, m_ne, m_en, m_lt, m_le, m_gt, m_ge, n_add, n_mul, n_sub, n_sm, n_pm, n_0m, n_cl, Nat.reduceEqDiff, ↓reduceIte, nle_T, nle_F, nlt_T, nlt_F, neq_F, neq_T, if_true, if_false, true_and, and_true, Nat.mul_zero, Nat.zero_add, Nat.add_zero, Nat.reduceAdd, Nat.reduceMul, Nat.reduceSub, li_0, li_1, li_2, li_3, li_4, li_5, li_6, li_7, li_8, li_9, li_10, li_11, li_12, li_13, li_14, li_15, li_16, li_20, li_24, li_28, li_31, li_35, li_38, li_40, li_41, li_45, li_48, li_60, li_62, li_63, li_97, li_100, li_104, li_105, li_120, li_124, li_127, li_180, li_239, li_240, li_255, li_256, li_300, li_400, li_960, li_1000000]
    have e8 := hr_c (qs s hs).vv (qs s hs).1 (qs s hs).2.2.2.1 (hw s hs) hw4 13 0 NF (by omega) (by decide)
    rw [e7, e8]
    cases scR (W0 τ f) L B 13 0 with
    | none => exact ⟨s, SC.rf, rfl⟩
    | some x => exact ⟨su s 39 (vec4 (s.1 39) x), ⟨KE.rf.s (by decide), rfl⟩, by show some (vec4 (s.1 39) x w, su s 39 (vec4 (s.1 39) x)) = some (vec4 (fun _ => 0) x w, su s 39 (vec4 (s.1 39) x)); rw [vec4_w (s.1 39) (fun _ => 0) x hw4]⟩
  · obtain ⟨x1, x2⟩ := scR_ok 13 0 (by omega) hx
    refine ⟨x1, fun s hs => ?_⟩
    have := (hw s hs x.1 x1 x.2.1 x.2.2.1 x.2.2.2).2.1
    rw [x2] at this
    exact this
