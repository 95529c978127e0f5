theorem eX7_make : yX7_make.cls = RX7 ∧ yX7_make.cls ≠ "java/lang/invoke/MethodHandle" ∧ yX7_make.cls ≠ "java/lang/invoke/VarHandle" ∧ (parseMethodDescriptor yX7_make.desc).map (fun d => d.parameters.length) = some 3 := by decide +kernel
def mX7_make_43 (s4 : St) (v1 : Int32) (v2 : Int32) (v3 : Int32) : Option (Int32 × St) :=
(mX1_hasParts s4 v1 v2 v3).bind fun r5 =>
if r5 = 0 then (
none)
else (
(mX1_number s4 v1 v2 v3).bind fun ⟨r8, s10⟩ =>
if 0 ≤ r8 then (
some (r8, s10))
else (
none))
def mX7_make (σ : St) (p1 : Int32) (p2 : Int32) (p3 : Int32) : Option (Int32 × St) :=
if p1 < 0 then (
none)
else (
if p1 ≤ 5 then (
if p1 = 0 then (
if p2 < 0 then (
none)
else (
if p2 < 8 then (
mX7_make_43 σ p1 p2 p3)
else (
none)))
else (
mX7_make_43 σ p1 p2 p3))
else (
none))
set_option maxHeartbeats 4000000 in
set_option maxRecDepth 100000 in
theorem kX7_make (l : Launch) (D : va_G) (y : Nat → ClassId) (a t : Nat → Nat) (hI : AI a 37) (sz : Nat) (σ τ : St) (p1 : Int32) (p2 : Int32) (p3 : Int32) (r : Int32) (hm : mX7_make σ p1 p2 p3 = some (r, τ)) : Met l yX7_make zX7_make { frames := 3, cells := 0, slots := 0, locals := 77 } (va_Pc [.ref (a 0), .int p1, .int p2, .int p3] (preW (wC y a) a 37 D y t σ sz)) (va_Qi (fun r' u => r' = r ∧ u = τ) (posW (wC y a) D) (AC a 37 sz)) 0 0 (AC a 37 sz) := by
  refine Met.ofW (cc := cX7_make) (maxL := 5) (ret := (some .int)) (by decide) rfl ?_
  intro p e s m args below meth c s₁ B hml hv
  obtain ⟨rfl, hsz, hP, hK, hF⟩ := hv
  have hx := B.exec
  have hb := B.bytes
  have hr := B.returns
  have hts := atoms_spec (ws := zX7_make) B.pre
  have hown : s.vm.findClass RX7 = some m.cls := findClass_of_methodNamed B.named
  have hlocks := B.notSynchronized
  subst hsz
  have l_f10 := hts _ (List.mem_cons_of_mem _ aF_X7_10)
  have h_X7 : ∀ w ∈ wsX70, w.before _ s = true := fun w hw => hts w (List.mem_cons_of_mem _ (hwX7 w hw))
  have hS : va_S (AC a 37 s.heap.size) s.heap s.heap [] := va_S.rf
  have hl := lv_entry ([.ref (a 0), .int p1, .int p2, .int p3]) (n := 5) (Nat.le_of_ble_eq_true rfl)
  rw [lg_entry_eq]
  generalize (lg_sl ([.ref (a 0), .int p1, .int p2, .int p3]) ++ List.replicate (5 - (lg_sl ([.ref (a 0), .int p1, .int p2, .int p3])).length) Slot.unset).toArray = ls at hl ⊢
  have hl : lv_has ls 5 [(0, .ref (a 0)), (1, .int p1), (2, .int p2), (3, .int p3)] := hl
  have L_43 : ∀ (s4 : St) (v1 : Int32) (v2 : Int32) (v3 : Int32) (H : Heap) (locs : List Loc) (ls : Array Slot), va_P D vwCl (wC y a s4) H → va_S (AC a 37 s.heap.size) s.heap H locs → lv_has ls 5 [(0, .ref (a 0)), (1, .int v1), (2, .int v2), (3, .int v3)] → mX7_make_43 s4 v1 v2 v3 = some (r, τ) → W p l e (headSpec zX7_make ({ frames := 3, cells := 0, slots := 0, locals := 77 })).room s m ([.ref (a 0), .int p1, .int p2, .int p3] : List Value).toArray below meth c H locs 0 0 (MQ below (va_Qi (fun r' u => r' = r ∧ u = τ) (posW (wC y a) D) (AC a 37 s.heap.size)) ([.ref (a 0), .int p1, .int p2, .int p3] : List Value).toArray s 0 0 (AC a 37 s.heap.size)) (F0 m 43 ls []) := by
    intro s4 v1 v2 v3 H locs ls hP hS hl hm
    unfold mX7_make_43 at hm
    refine lv_aload_n hx hb dX7_make_43 rfl (lv_at hl 0 rfl) ?_
    refine gfX7_formulas hx hb h_X7 hown hK hP l_f10 dX7_make_44 ?_
    refine lv_iload_n hx hb dX7_make_47 rfl (lv_at hl 1 rfl) ?_
    refine lv_iload_n hx hb dX7_make_48 rfl (lv_at hl 2 rfl) ?_
    refine lv_iload_n hx hb dX7_make_49 rfl (lv_at hl 3 rfl) ?_
    obtain ⟨r5, h6, hm⟩ := ok_bind hm
    refine calV_i (As := [.int v1, .int v2, .int v3]) (rest := []) ⟨hx, hb, hml, hown, hts⟩ (kX1_hasParts l D y a t hI _ s4 v1 v2 v3 r5 h6) (cwV 3 hts (gAV aM_X7_90 aI_X1_hasParts aS_X1_hasParts aN_X1 aC_X1_hasParts) rfl rfl rfl eX1_hasParts ⟨Nat.le_of_ble_eq_true rfl, Nat.le_of_ble_eq_true rfl⟩) (preV_W (ci := 1) (q := (RX1, TX1, 8)) hK hP hF hS rfl (wC_1 y a s4)) rfl hl.1 rfl (Nat.le_of_ble_eq_true rfl) dX7_make_50 ⟨Nat.zero_le _, Nat.zero_le _⟩ hS (AC_le hS.1) (fun H locs hP hS hk1 => ?_)
    refine lv_if_ne (tgt := 66) hx hb dX7_make_53 (by decide) (fun c7 => ?_) (fun c7 => ?_)
    · have hm := (if_neg c7).symm.trans hm
      refine lv_aload_n hx hb dX7_make_66 rfl (lv_at hl 0 rfl) ?_
      refine gfX7_formulas hx hb h_X7 hown hK hP l_f10 dX7_make_67 ?_
      refine lv_iload_n hx hb dX7_make_70 rfl (lv_at hl 1 rfl) ?_
      refine lv_iload_n hx hb dX7_make_71 rfl (lv_at hl 2 rfl) ?_
      refine lv_iload_n hx hb dX7_make_72 rfl (lv_at hl 3 rfl) ?_
      obtain ⟨⟨r8, s10⟩, h9, hm⟩ := ok_bind hm
      refine calV_i (As := [.int v1, .int v2, .int v3]) (rest := []) ⟨hx, hb, hml, hown, hts⟩ (kX1_number l D y a t hI _ s4 s10 v1 v2 v3 r8 h9) (cwV 3 hts (gAV aM_X7_99 aI_X1_number aS_X1_number aN_X1 aC_X1_number) rfl rfl rfl eX1_number ⟨Nat.le_of_ble_eq_true rfl, Nat.le_of_ble_eq_true rfl⟩) (preV_W (ci := 1) (q := (RX1, TX1, 8)) hK hP hF hS rfl (wC_1 y a s4)) rfl hl.1 rfl (Nat.le_of_ble_eq_true rfl) dX7_make_73 ⟨Nat.zero_le _, Nat.zero_le _⟩ hS (AC_le hS.1) (fun H locs hP hS hk1 => ?_)
      refine lv_istore (lv' := [(4, .int r8), (0, .ref (a 0)), (1, .int v1), (2, .int v2), (3, .int v3)]) hx hb dX7_make_76 hl (by decide) rfl (fun ls hl => ?_)
      refine lv_iload hx hb dX7_make_78 (lv_at hl 0 rfl) ?_
      refine lv_if_ge (tgt := 93) hx hb dX7_make_80 (by decide) (fun c11 => ?_) (fun c11 => ?_)
      · have hm := (if_pos c11).symm.trans hm
        refine lv_iload hx hb dX7_make_93 (lv_at hl 0 rfl) ?_
        exact W.iret (v := r8) hx hb hr (fun T hT hW => ⟨⟨r8, s10, rfl, ⟨congrArg Prod.fst (Option.some.inj hm), congrArg Prod.snd (Option.some.inj hm)⟩, by rw [posW, hT]; exact hP⟩, hS.F hT⟩) hS.2.2 dX7_make_95
      · have hm := (if_neg c11).symm.trans hm
        cases hm
    · have hm := (if_pos c7).symm.trans hm
      cases hm
  unfold mX7_make at hm
  refine lv_iload_n hx hb dX7_make_0 rfl (lv_at hl 1 rfl) ?_
  refine lv_if_lt (tgt := 9) hx hb dX7_make_1 (by decide) (fun c12 => ?_) (fun c12 => ?_)
  · have hm := (if_pos c12).symm.trans hm
    cases hm
  · have hm := (if_neg c12).symm.trans hm
    refine lv_iload_n hx hb dX7_make_4 rfl (lv_at hl 1 rfl) ?_
    refine lv_iconst (v := 5) hx hb dX7_make_5 (by decide) ?_
    refine lv_icmp_le (tgt := 19) hx hb dX7_make_6 (by decide) (fun c13 => ?_) (fun c13 => ?_)
    · have hm := (if_pos c13).symm.trans hm
      refine lv_iload_n hx hb dX7_make_19 rfl (lv_at hl 1 rfl) ?_
      refine lv_if_ne (tgt := 43) hx hb dX7_make_20 (by decide) (fun c14 => ?_) (fun c14 => ?_)
      · have hm := (if_neg c14).symm.trans hm
        exact L_43 σ p1 p2 p3 _ _ _ hP hS (lv_sub hl [0, 1, 2, 3] rfl) hm
      · have hm := (if_pos c14).symm.trans hm
        refine lv_iload_n hx hb dX7_make_23 rfl (lv_at hl 2 rfl) ?_
        refine lv_if_lt (tgt := 33) hx hb dX7_make_24 (by decide) (fun c15 => ?_) (fun c15 => ?_)
        · have hm := (if_pos c15).symm.trans hm
          cases hm
        · have hm := (if_neg c15).symm.trans hm
          refine lv_iload_n hx hb dX7_make_27 rfl (lv_at hl 2 rfl) ?_
          refine lv_bipush (v := 8) hx hb dX7_make_28 (by decide) ?_
          refine lv_icmp_lt (tgt := 43) hx hb dX7_make_30 (by decide) (fun c16 => ?_) (fun c16 => ?_)
          · have hm := (if_pos c16).symm.trans hm
            exact L_43 σ p1 p2 p3 _ _ _ hP hS (lv_sub hl [0, 1, 2, 3] rfl) hm
          · have hm := (if_neg c16).symm.trans hm
            cases hm
    · have hm := (if_neg c13).symm.trans hm
      cases hm
theorem eX7_formula : yX7_formula.cls = RX7 ∧ yX7_formula.cls ≠ "java/lang/invoke/MethodHandle" ∧ yX7_formula.cls ≠ "java/lang/invoke/VarHandle" ∧ (parseMethodDescriptor yX7_formula.desc).map (fun d => d.parameters.length) = some 2 := by decide +kernel
def mX7_formula (σ : St) (p1 : Int32) (p2 : Int32) : Option Int32 :=
(mX1_isKnown σ p1).bind fun r1 =>
if r1 = 0 then (
none)
else (
if p2 < 0 then (
none)
else (
if p2 ≤ 5 then (
if p2 = 0 then (
(mX1_sort σ p1).bind fun r7 =>
some r7)
else (
if p2 = 1 then (
(mX1_first σ p1).bind fun r10 =>
some r10)
else (
if p2 = 2 then (
(mX1_second σ p1).bind fun r13 =>
some r13)
else (
if p2 = 3 then (
(mX1_letters σ p1).bind fun r16 =>
some r16)
else (
if p2 = 4 then (
(mX1_trueSets σ p1).bind fun r19 =>
some r19)
else (
(mX1_size σ p1).bind fun r21 =>
some r21))))))
else (
none)))
set_option maxHeartbeats 4000000 in
set_option maxRecDepth 100000 in
theorem kX7_formula (l : Launch) (D : va_G) (y : Nat → ClassId) (a t : Nat → Nat) (hI : AI a 37) (sz : Nat) (σ : St) (p1 : Int32) (p2 : Int32) (r : Int32) (hm : mX7_formula σ p1 p2 = some r) : Met l yX7_formula zX7_formula { frames := 2, cells := 0, slots := 0, locals := 45 } (va_Pc [.ref (a 0), .int p1, .int p2] (preW (wC y a) a 37 D y t σ sz)) (va_Qi (fun r' u => r' = r ∧ u = σ) (posW (wC y a) D) (AC a 37 sz)) 0 0 (AC a 37 sz) := by
  refine Met.ofW (cc := cX7_formula) (maxL := 3) (ret := (some .int)) (by decide) rfl ?_
  intro p e s m args below meth c s₁ B hml hv
  obtain ⟨rfl, hsz, hP, hK, hF⟩ := hv
  have hx := B.exec
  have hb := B.bytes
  have hr := B.returns
  have hts := atoms_spec (ws := zX7_formula) B.pre
  have hown : s.vm.findClass RX7 = some m.cls := findClass_of_methodNamed B.named
  have hlocks := B.notSynchronized
  subst hsz
  have l_f10 := hts _ (List.mem_cons_of_mem _ aF_X7_10)
  have h_X7 : ∀ w ∈ wsX70, w.before _ s = true := fun w hw => hts w (List.mem_cons_of_mem _ (hwX7 w hw))
  have hS : va_S (AC a 37 s.heap.size) s.heap s.heap [] := va_S.rf
  have hl := lv_entry ([.ref (a 0), .int p1, .int p2]) (n := 3) (Nat.le_of_ble_eq_true rfl)
  rw [lg_entry_eq]
  generalize (lg_sl ([.ref (a 0), .int p1, .int p2]) ++ List.replicate (3 - (lg_sl ([.ref (a 0), .int p1, .int p2])).length) Slot.unset).toArray = ls at hl ⊢
  have hl : lv_has ls 3 [(0, .ref (a 0)), (1, .int p1), (2, .int p2)] := hl
  unfold mX7_formula at hm
  refine lv_aload_n hx hb dX7_formula_0 rfl (lv_at hl 0 rfl) ?_
  refine gfX7_formulas hx hb h_X7 hown hK hP l_f10 dX7_formula_1 ?_
  refine lv_iload_n hx hb dX7_formula_4 rfl (lv_at hl 1 rfl) ?_
  obtain ⟨r1, h2, hm⟩ := ok_bind hm
  refine calV_i (As := [.int p1]) (rest := []) ⟨hx, hb, hml, hown, hts⟩ (kX1_isKnown l D y a t hI _ σ p1 r1 h2) (cwV 1 hts (gAV aM_X7_105 aI_X1_isKnown aS_X1_isKnown aN_X1 aC_X1_isKnown) rfl rfl rfl eX1_isKnown ⟨Nat.le_of_ble_eq_true rfl, Nat.le_of_ble_eq_true rfl⟩) (preV_W (ci := 1) (q := (RX1, TX1, 8)) hK hP hF hS rfl (wC_1 y a σ)) rfl hl.1 rfl (Nat.le_of_ble_eq_true rfl) dX7_formula_5 ⟨Nat.zero_le _, Nat.zero_le _⟩ hS (AC_le hS.1) (fun H locs hP hS hk1 => ?_)
  refine lv_if_eq (tgt := 20) hx hb dX7_formula_8 (by decide) (fun c3 => ?_) (fun c3 => ?_)
  · have hm := (if_pos c3).symm.trans hm
    cases hm
  · have hm := (if_neg c3).symm.trans hm
    refine lv_iload_n hx hb dX7_formula_11 rfl (lv_at hl 2 rfl) ?_
    refine lv_if_lt (tgt := 20) hx hb dX7_formula_12 (by decide) (fun c4 => ?_) (fun c4 => ?_)
    · have hm := (if_pos c4).symm.trans hm
      cases hm
    · have hm := (if_neg c4).symm.trans hm
      refine lv_iload_n hx hb dX7_formula_15 rfl (lv_at hl 2 rfl) ?_
      refine lv_iconst (v := 5) hx hb dX7_formula_16 (by decide) ?_
      refine lv_icmp_le (tgt := 30) hx hb dX7_formula_17 (by decide) (fun c5 => ?_) (fun c5 => ?_)
      · have hm := (if_pos c5).symm.trans hm
        refine lv_iload_n hx hb dX7_formula_30 rfl (lv_at hl 2 rfl) ?_
        by_cases c6 : p2 = 0
        · have hm := (if_pos c6).symm.trans hm
          refine lv_tableIn (tgt := 64) hx hb dX7_formula_31 (by rw [c6]; decide) (by rw [c6]; decide) (by rw [c6]; rfl) (by decide) ?_
          refine lv_aload_n hx hb dX7_formula_64 rfl (lv_at hl 0 rfl) ?_
          refine gfX7_formulas hx hb h_X7 hown hK hP l_f10 dX7_formula_65 ?_
          refine lv_iload_n hx hb dX7_formula_68 rfl (lv_at hl 1 rfl) ?_
          obtain ⟨r7, h8, hm⟩ := ok_bind hm
          refine calV_i (As := [.int p1]) (rest := []) ⟨hx, hb, hml, hown, hts⟩ (kX1_sort l D y a t hI _ σ p1 r7 h8) (cwV 1 hts (gAV aM_X7_111 aI_X1_sort aS_X1_sort aN_X1 aC_X1_sort) rfl rfl rfl eX1_sort ⟨Nat.le_of_ble_eq_true rfl, Nat.le_of_ble_eq_true rfl⟩) (preV_W (ci := 1) (q := (RX1, TX1, 8)) hK hP hF hS rfl (wC_1 y a σ)) rfl hl.1 rfl (Nat.le_of_ble_eq_true rfl) dX7_formula_69 ⟨Nat.zero_le _, Nat.zero_le _⟩ hS (AC_le hS.1) (fun H locs hP hS hk1 => ?_)
          exact W.iret (v := r7) hx hb hr (fun T hT hW => ⟨⟨r7, σ, rfl, ⟨Option.some.inj hm, rfl⟩, by rw [posW, hT]; exact hP⟩, hS.F hT⟩) hS.2.2 dX7_formula_72
        · have hm := (if_neg c6).symm.trans hm
          have sc6 := sw_ne (k := 0) c6 rfl
          by_cases c9 : p2 = 1
          · have hm := (if_pos c9).symm.trans hm
            refine lv_tableIn (tgt := 73) hx hb dX7_formula_31 (by rw [c9]; decide) (by rw [c9]; decide) (by rw [c9]; rfl) (by decide) ?_
            refine lv_aload_n hx hb dX7_formula_73 rfl (lv_at hl 0 rfl) ?_
            refine gfX7_formulas hx hb h_X7 hown hK hP l_f10 dX7_formula_74 ?_
            refine lv_iload_n hx hb dX7_formula_77 rfl (lv_at hl 1 rfl) ?_
            obtain ⟨r10, h11, hm⟩ := ok_bind hm
            refine calV_i (As := [.int p1]) (rest := []) ⟨hx, hb, hml, hown, hts⟩ (kX1_first l D y a t hI _ σ p1 r10 h11) (cwV 1 hts (gAV aM_X7_115 aI_X1_first aS_X1_first aN_X1 aC_X1_first) rfl rfl rfl eX1_first ⟨Nat.le_of_ble_eq_true rfl, Nat.le_of_ble_eq_true rfl⟩) (preV_W (ci := 1) (q := (RX1, TX1, 8)) hK hP hF hS rfl (wC_1 y a σ)) rfl hl.1 rfl (Nat.le_of_ble_eq_true rfl) dX7_formula_78 ⟨Nat.zero_le _, Nat.zero_le _⟩ hS (AC_le hS.1) (fun H locs hP hS hk1 => ?_)
            exact W.iret (v := r10) hx hb hr (fun T hT hW => ⟨⟨r10, σ, rfl, ⟨Option.some.inj hm, rfl⟩, by rw [posW, hT]; exact hP⟩, hS.F hT⟩) hS.2.2 dX7_formula_81
          · have hm := (if_neg c9).symm.trans hm
            have sc9 := sw_ne (k := 1) c9 rfl
            by_cases c12 : p2 = 2
            · have hm := (if_pos c12).symm.trans hm
              refine lv_tableIn (tgt := 82) hx hb dX7_formula_31 (by rw [c12]; decide) (by rw [c12]; decide) (by rw [c12]; rfl) (by decide) ?_
              refine lv_aload_n hx hb dX7_formula_82 rfl (lv_at hl 0 rfl) ?_
              refine gfX7_formulas hx hb h_X7 hown hK hP l_f10 dX7_formula_83 ?_
              refine lv_iload_n hx hb dX7_formula_86 rfl (lv_at hl 1 rfl) ?_
              obtain ⟨r13, h14, hm⟩ := ok_bind hm
              refine calV_i (As := [.int p1]) (rest := []) ⟨hx, hb, hml, hown, hts⟩ (kX1_second l D y a t hI _ σ p1 r13 h14) (cwV 1 hts (gAV aM_X7_118 aI_X1_second aS_X1_second aN_X1 aC_X1_second) rfl rfl rfl eX1_second ⟨Nat.le_of_ble_eq_true rfl, Nat.le_of_ble_eq_true rfl⟩) (preV_W (ci := 1) (q := (RX1, TX1, 8)) hK hP hF hS rfl (wC_1 y a σ)) rfl hl.1 rfl (Nat.le_of_ble_eq_true rfl) dX7_formula_87 ⟨Nat.zero_le _, Nat.zero_le _⟩ hS (AC_le hS.1) (fun H locs hP hS hk1 => ?_)
              exact W.iret (v := r13) hx hb hr (fun T hT hW => ⟨⟨r13, σ, rfl, ⟨Option.some.inj hm, rfl⟩, by rw [posW, hT]; exact hP⟩, hS.F hT⟩) hS.2.2 dX7_formula_90
            · have hm := (if_neg c12).symm.trans hm
              have sc12 := sw_ne (k := 2) c12 rfl
              by_cases c15 : p2 = 3
              · have hm := (if_pos c15).symm.trans hm
                refine lv_tableIn (tgt := 91) hx hb dX7_formula_31 (by rw [c15]; decide) (by rw [c15]; decide) (by rw [c15]; rfl) (by decide) ?_
                refine lv_aload_n hx hb dX7_formula_91 rfl (lv_at hl 0 rfl) ?_
                refine gfX7_formulas hx hb h_X7 hown hK hP l_f10 dX7_formula_92 ?_
                refine lv_iload_n hx hb dX7_formula_95 rfl (lv_at hl 1 rfl) ?_
                obtain ⟨r16, h17, hm⟩ := ok_bind hm
                refine calV_i (As := [.int p1]) (rest := []) ⟨hx, hb, hml, hown, hts⟩ (kX1_letters l D y a t hI _ σ p1 r16 h17) (cwV 1 hts (gAV aM_X7_121 aI_X1_letters aS_X1_letters aN_X1 aC_X1_letters) rfl rfl rfl eX1_letters ⟨Nat.le_of_ble_eq_true rfl, Nat.le_of_ble_eq_true rfl⟩) (preV_W (ci := 1) (q := (RX1, TX1, 8)) hK hP hF hS rfl (wC_1 y a σ)) rfl hl.1 rfl (Nat.le_of_ble_eq_true rfl) dX7_formula_96 ⟨Nat.zero_le _, Nat.zero_le _⟩ hS (AC_le hS.1) (fun H locs hP hS hk1 => ?_)
                exact W.iret (v := r16) hx hb hr (fun T hT hW => ⟨⟨r16, σ, rfl, ⟨Option.some.inj hm, rfl⟩, by rw [posW, hT]; exact hP⟩, hS.F hT⟩) hS.2.2 dX7_formula_99
              · have hm := (if_neg c15).symm.trans hm
                have sc15 := sw_ne (k := 3) c15 rfl
                by_cases c18 : p2 = 4
                · have hm := (if_pos c18).symm.trans hm
                  refine lv_tableIn (tgt := 100) hx hb dX7_formula_31 (by rw [c18]; decide) (by rw [c18]; decide) (by rw [c18]; rfl) (by decide) ?_
                  refine lv_aload_n hx hb dX7_formula_100 rfl (lv_at hl 0 rfl) ?_
                  refine gfX7_formulas hx hb h_X7 hown hK hP l_f10 dX7_formula_101 ?_
                  refine lv_iload_n hx hb dX7_formula_104 rfl (lv_at hl 1 rfl) ?_
                  obtain ⟨r19, h20, hm⟩ := ok_bind hm
                  refine calV_i (As := [.int p1]) (rest := []) ⟨hx, hb, hml, hown, hts⟩ (kX1_trueSets l D y a t hI _ σ p1 r19 h20) (cwV 1 hts (gAV aM_X7_124 aI_X1_trueSets aS_X1_trueSets aN_X1 aC_X1_trueSets) rfl rfl rfl eX1_trueSets ⟨Nat.le_of_ble_eq_true rfl, Nat.le_of_ble_eq_true rfl⟩) (preV_W (ci := 1) (q := (RX1, TX1, 8)) hK hP hF hS rfl (wC_1 y a σ)) rfl hl.1 rfl (Nat.le_of_ble_eq_true rfl) dX7_formula_105 ⟨Nat.zero_le _, Nat.zero_le _⟩ hS (AC_le hS.1) (fun H locs hP hS hk1 => ?_)
                  exact W.iret (v := r19) hx hb hr (fun T hT hW => ⟨⟨r19, σ, rfl, ⟨Option.some.inj hm, rfl⟩, by rw [posW, hT]; exact hP⟩, hS.F hT⟩) hS.2.2 dX7_formula_108
                · have hm := (if_neg c18).symm.trans hm
                  have sc18 := sw_ne (k := 4) c18 rfl
                  refine lv_tableOut (tgt := 109) hx hb dX7_formula_31 (by omega) (by decide) ?_
                  refine lv_aload_n hx hb dX7_formula_109 rfl (lv_at hl 0 rfl) ?_
                  refine gfX7_formulas hx hb h_X7 hown hK hP l_f10 dX7_formula_110 ?_
                  refine lv_iload_n hx hb dX7_formula_113 rfl (lv_at hl 1 rfl) ?_
                  obtain ⟨r21, h22, hm⟩ := ok_bind hm
                  refine calV_i (As := [.int p1]) (rest := []) ⟨hx, hb, hml, hown, hts⟩ (kX1_size l D y a t hI _ σ p1 r21 h22) (cwV 1 hts (gAV aM_X7_127 aI_X1_size aS_X1_size aN_X1 aC_X1_size) rfl rfl rfl eX1_size ⟨Nat.le_of_ble_eq_true rfl, Nat.le_of_ble_eq_true rfl⟩) (preV_W (ci := 1) (q := (RX1, TX1, 8)) hK hP hF hS rfl (wC_1 y a σ)) rfl hl.1 rfl (Nat.le_of_ble_eq_true rfl) dX7_formula_114 ⟨Nat.zero_le _, Nat.zero_le _⟩ hS (AC_le hS.1) (fun H locs hP hS hk1 => ?_)
                  exact W.iret (v := r21) hx hb hr (fun T hT hW => ⟨⟨r21, σ, rfl, ⟨Option.some.inj hm, rfl⟩, by rw [posW, hT]; exact hP⟩, hS.F hT⟩) hS.2.2 dX7_formula_117
      · have hm := (if_neg c5).symm.trans hm
        cases hm
theorem eX7_begin : yX7_begin.cls = RX7 ∧ yX7_begin.cls ≠ "java/lang/invoke/MethodHandle" ∧ yX7_begin.cls ≠ "java/lang/invoke/VarHandle" ∧ (parseMethodDescriptor yX7_begin.desc).map (fun d => d.parameters.length) = some 0 := by decide +kernel
def mX7_begin (σ : St) : Option (Int32 × St) :=
(mX3_lineCount σ).bind fun r1 =>
(mX3_clear σ).bind fun s4 =>
some (r1, s4)
set_option maxHeartbeats 4000000 in
set_option maxRecDepth 100000 in
theorem kX7_begin (l : Launch) (D : va_G) (y : Nat → ClassId) (a t : Nat → Nat) (hI : AI a 37) (sz : Nat) (σ τ : St) (r : Int32) (hm : mX7_begin σ = some (r, τ)) : Met l yX7_begin zX7_begin { frames := 2, cells := 0, slots := 0, locals := 40 } (va_Pc [.ref (a 0)] (preW (wC y a) a 37 D y t σ sz)) (va_Qi (fun r' u => r' = r ∧ u = τ) (posW (wC y a) D) (AC a 37 sz)) 0 0 (AC a 37 sz) := by
  refine Met.ofW (cc := cX7_begin) (maxL := 2) (ret := (some .int)) (by decide) rfl ?_
  intro p e s m args below meth c s₁ B hml hv
  obtain ⟨rfl, hsz, hP, hK, hF⟩ := hv
  have hx := B.exec
  have hb := B.bytes
  have hr := B.returns
  have hts := atoms_spec (ws := zX7_begin) B.pre
  have hown : s.vm.findClass RX7 = some m.cls := findClass_of_methodNamed B.named
  have hlocks := B.notSynchronized
  subst hsz
  have l_f44 := hts _ (List.mem_cons_of_mem _ aF_X7_44)
  have h_X7 : ∀ w ∈ wsX70, w.before _ s = true := fun w hw => hts w (List.mem_cons_of_mem _ (hwX7 w hw))
  have hS : va_S (AC a 37 s.heap.size) s.heap s.heap [] := va_S.rf
  have hl := lv_entry ([.ref (a 0)]) (n := 2) (Nat.le_of_ble_eq_true rfl)
  rw [lg_entry_eq]
  generalize (lg_sl ([.ref (a 0)]) ++ List.replicate (2 - (lg_sl ([.ref (a 0)])).length) Slot.unset).toArray = ls at hl ⊢
  have hl : lv_has ls 2 [(0, .ref (a 0))] := hl
  unfold mX7_begin at hm
  refine lv_aload_n hx hb dX7_begin_0 rfl (lv_at hl 0 rfl) ?_
  refine gfX7_proof hx hb h_X7 hown hK hP l_f44 dX7_begin_1 ?_
  obtain ⟨r1, h2, hm⟩ := ok_bind hm
  refine calV_i (As := []) (rest := []) ⟨hx, hb, hml, hown, hts⟩ (kX3_lineCount l D y a t hI _ σ r1 h2) (cwV 0 hts (gAV aM_X7_151 aI_X3_lineCount aS_X3_lineCount aN_X3 aC_X3_lineCount) rfl rfl rfl eX3_lineCount ⟨Nat.le_of_ble_eq_true rfl, Nat.le_of_ble_eq_true rfl⟩) (preV_W (ci := 3) (q := (RX3, TX3, 12)) hK hP hF hS rfl (wC_5 y a σ)) rfl hl.1 rfl (Nat.le_of_ble_eq_true rfl) dX7_begin_4 ⟨Nat.zero_le _, Nat.zero_le _⟩ hS (AC_le hS.1) (fun H locs hP hS hk1 => ?_)
  refine lv_istore_n (lv' := [(1, .int r1), (0, .ref (a 0))]) hx hb dX7_begin_7 rfl hl (by decide) rfl (fun ls hl => ?_)
  refine lv_aload_n hx hb dX7_begin_8 rfl (lv_at hl 1 rfl) ?_
  refine gfX7_proof hx hb h_X7 hown hK hP l_f44 dX7_begin_9 ?_
  obtain ⟨s4, h3, hm⟩ := ok_bind hm
  refine calV_v (As := []) (rest := []) ⟨hx, hb, hml, hown, hts⟩ (kX3_clear l D y a t hI _ σ s4  h3) (cwV 0 hts (gAV aM_X7_154 aI_X3_clear aS_X3_clear aN_X3 aC_X3_clear) rfl rfl rfl eX3_clear ⟨Nat.le_of_ble_eq_true rfl, Nat.le_of_ble_eq_true rfl⟩) (preV_W (ci := 3) (q := (RX3, TX3, 12)) hK hP hF hS rfl (wC_5 y a σ)) rfl hl.1 rfl (Nat.le_of_ble_eq_true rfl) dX7_begin_12 ⟨Nat.zero_le _, Nat.zero_le _⟩ hS (AC_le hS.1) (fun H locs hP hS hk1 => ?_)
  refine lv_iload_n hx hb dX7_begin_15 rfl (lv_at hl 0 rfl) ?_
  exact W.iret (v := r1) hx hb hr (fun T hT hW => ⟨⟨r1, s4, rfl, ⟨congrArg Prod.fst (Option.some.inj hm), congrArg Prod.snd (Option.some.inj hm)⟩, by rw [posW, hT]; exact hP⟩, hS.F hT⟩) hS.2.2 dX7_begin_16
theorem eX7_premise : yX7_premise.cls = RX7 ∧ yX7_premise.cls ≠ "java/lang/invoke/MethodHandle" ∧ yX7_premise.cls ≠ "java/lang/invoke/VarHandle" ∧ (parseMethodDescriptor yX7_premise.desc).map (fun d => d.parameters.length) = some 1 := by decide +kernel
def mX7_premise (σ : St) (p1 : Int32) : Option (Int32 × St) :=
(mX1_isKnown σ p1).bind fun r1 =>
if r1 = 0 then (
none)
else (
(mX3_premiseCount σ).bind fun r4 =>
(mX3_lineCount σ).bind fun r6 =>
if r4 < r6 then (
none)
else (
if r4 < 2 then (
(mX3_add σ p1 15 0 0 0).bind fun ⟨r10, s12⟩ =>
some (r10, s12))
else (
none)))
set_option maxHeartbeats 4000000 in
set_option maxRecDepth 100000 in
theorem kX7_premise (l : Launch) (D : va_G) (y : Nat → ClassId) (a t : Nat → Nat) (hI : AI a 37) (sz : Nat) (σ τ : St) (p1 : Int32) (r : Int32) (hm : mX7_premise σ p1 = some (r, τ)) : Met l yX7_premise zX7_premise { frames := 3, cells := 0, slots := 0, locals := 71 } (va_Pc [.ref (a 0), .int p1] (preW (wC y a) a 37 D y t σ sz)) (va_Qi (fun r' u => r' = r ∧ u = τ) (posW (wC y a) D) (AC a 37 sz)) 0 0 (AC a 37 sz) := by
  refine Met.ofW (cc := cX7_premise) (maxL := 3) (ret := (some .int)) (by decide) rfl ?_
  intro p e s m args below meth c s₁ B hml hv
  obtain ⟨rfl, hsz, hP, hK, hF⟩ := hv
  have hx := B.exec
  have hb := B.bytes
  have hr := B.returns
  have hts := atoms_spec (ws := zX7_premise) B.pre
  have hown : s.vm.findClass RX7 = some m.cls := findClass_of_methodNamed B.named
  have hlocks := B.notSynchronized
  subst hsz
  have l_f10 := hts _ (List.mem_cons_of_mem _ aF_X7_10)
  have l_f44 := hts _ (List.mem_cons_of_mem _ aF_X7_44)
  have h_X7 : ∀ w ∈ wsX70, w.before _ s = true := fun w hw => hts w (List.mem_cons_of_mem _ (hwX7 w hw))
  have hS : va_S (AC a 37 s.heap.size) s.heap s.heap [] := va_S.rf
  have hl := lv_entry ([.ref (a 0), .int p1]) (n := 3) (Nat.le_of_ble_eq_true rfl)
  rw [lg_entry_eq]
  generalize (lg_sl ([.ref (a 0), .int p1]) ++ List.replicate (3 - (lg_sl ([.ref (a 0), .int p1])).length) Slot.unset).toArray = ls at hl ⊢
  have hl : lv_has ls 3 [(0, .ref (a 0)), (1, .int p1)] := hl
  unfold mX7_premise at hm
  refine lv_aload_n hx hb dX7_premise_0 rfl (lv_at hl 0 rfl) ?_
  refine gfX7_formulas hx hb h_X7 hown hK hP l_f10 dX7_premise_1 ?_
  refine lv_iload_n hx hb dX7_premise_4 rfl (lv_at hl 1 rfl) ?_
  obtain ⟨r1, h2, hm⟩ := ok_bind hm
  refine calV_i (As := [.int p1]) (rest := []) ⟨hx, hb, hml, hown, hts⟩ (kX1_isKnown l D y a t hI _ σ p1 r1 h2) (cwV 1 hts (gAV aM_X7_105 aI_X1_isKnown aS_X1_isKnown aN_X1 aC_X1_isKnown) rfl rfl rfl eX1_isKnown ⟨Nat.le_of_ble_eq_true rfl, Nat.le_of_ble_eq_true rfl⟩) (preV_W (ci := 1) (q := (RX1, TX1, 8)) hK hP hF hS rfl (wC_1 y a σ)) rfl hl.1 rfl (Nat.le_of_ble_eq_true rfl) dX7_premise_5 ⟨Nat.zero_le _, Nat.zero_le _⟩ hS (AC_le hS.1) (fun H locs hP hS hk1 => ?_)
  refine lv_if_ne (tgt := 21) hx hb dX7_premise_8 (by decide) (fun c3 => ?_) (fun c3 => ?_)
  · have hm := (if_neg c3).symm.trans hm
    refine lv_aload_n hx hb dX7_premise_21 rfl (lv_at hl 0 rfl) ?_
    refine gfX7_proof hx hb h_X7 hown hK hP l_f44 dX7_premise_22 ?_
    obtain ⟨r4, h5, hm⟩ := ok_bind hm
    refine calV_i (As := []) (rest := []) ⟨hx, hb, hml, hown, hts⟩ (kX3_premiseCount l D y a t hI _ σ r4 h5) (cwV 0 hts (gAV aM_X7_157 aI_X3_premiseCount aS_X3_premiseCount aN_X3 aC_X3_premiseCount) rfl rfl rfl eX3_premiseCount ⟨Nat.le_of_ble_eq_true rfl, Nat.le_of_ble_eq_true rfl⟩) (preV_W (ci := 3) (q := (RX3, TX3, 12)) hK hP hF hS rfl (wC_5 y a σ)) rfl hl.1 rfl (Nat.le_of_ble_eq_true rfl) dX7_premise_25 ⟨Nat.zero_le _, Nat.zero_le _⟩ hS (AC_le hS.1) (fun H locs hP hS hk1 => ?_)
    refine lv_istore_n (lv' := [(2, .int r4), (0, .ref (a 0)), (1, .int p1)]) hx hb dX7_premise_28 rfl hl (by decide) rfl (fun ls hl => ?_)
    refine lv_iload_n hx hb dX7_premise_29 rfl (lv_at hl 0 rfl) ?_
    refine lv_aload_n hx hb dX7_premise_30 rfl (lv_at hl 1 rfl) ?_
    refine gfX7_proof hx hb h_X7 hown hK hP l_f44 dX7_premise_31 ?_
    obtain ⟨r6, h7, hm⟩ := ok_bind hm
    refine calV_i (As := []) (rest := [.int r4]) ⟨hx, hb, hml, hown, hts⟩ (kX3_lineCount l D y a t hI _ σ r6 h7) (cwV 0 hts (gAV aM_X7_151 aI_X3_lineCount aS_X3_lineCount aN_X3 aC_X3_lineCount) rfl rfl rfl eX3_lineCount ⟨Nat.le_of_ble_eq_true rfl, Nat.le_of_ble_eq_true rfl⟩) (preV_W (ci := 3) (q := (RX3, TX3, 12)) hK hP hF hS rfl (wC_5 y a σ)) rfl hl.1 rfl (Nat.le_of_ble_eq_true rfl) dX7_premise_34 ⟨Nat.zero_le _, Nat.zero_le _⟩ hS (AC_le hS.1) (fun H locs hP hS hk1 => ?_)
    refine lv_icmp_lt (tgt := 45) hx hb dX7_premise_37 (by decide) (fun c8 => ?_) (fun c8 => ?_)
    · have hm := (if_pos c8).symm.trans hm
      cases hm
    · have hm := (if_neg c8).symm.trans hm
      refine lv_iload_n hx hb dX7_premise_40 rfl (lv_at hl 0 rfl) ?_
      refine lv_iconst (v := 2) hx hb dX7_premise_41 (by decide) ?_
      refine lv_icmp_lt (tgt := 55) hx hb dX7_premise_42 (by decide) (fun c9 => ?_) (fun c9 => ?_)
      · have hm := (if_pos c9).symm.trans hm
        refine lv_aload_n hx hb dX7_premise_55 rfl (lv_at hl 1 rfl) ?_
        refine gfX7_proof hx hb h_X7 hown hK hP l_f44 dX7_premise_56 ?_
        refine lv_iload_n hx hb dX7_premise_59 rfl (lv_at hl 2 rfl) ?_
        refine lv_bipush (v := 15) hx hb dX7_premise_60 (by decide) ?_
        refine lv_iconst (v := 0) hx hb dX7_premise_62 (by decide) ?_
        refine lv_iconst (v := 0) hx hb dX7_premise_63 (by decide) ?_
        refine lv_iconst (v := 0) hx hb dX7_premise_64 (by decide) ?_
        obtain ⟨⟨r10, s12⟩, h11, hm⟩ := ok_bind hm
        refine calV_i (As := [.int p1, .int 15, .int 0, .int 0, .int 0]) (rest := []) ⟨hx, hb, hml, hown, hts⟩ (kX3_add l D y a t hI _ σ s12 p1 15 0 0 0 r10 h11) (cwV 5 hts (gAV aM_X7_162 aI_X3_add aS_X3_add aN_X3 aC_X3_add) rfl rfl rfl eX3_add ⟨Nat.le_of_ble_eq_true rfl, Nat.le_of_ble_eq_true rfl⟩) (preV_W (ci := 3) (q := (RX3, TX3, 12)) hK hP hF hS rfl (wC_5 y a σ)) rfl hl.1 rfl (Nat.le_of_ble_eq_true rfl) dX7_premise_65 ⟨Nat.zero_le _, Nat.zero_le _⟩ hS (AC_le hS.1) (fun H locs hP hS hk1 => ?_)
        exact W.iret (v := r10) hx hb hr (fun T hT hW => ⟨⟨r10, s12, rfl, ⟨congrArg Prod.fst (Option.some.inj hm), congrArg Prod.snd (Option.some.inj hm)⟩, by rw [posW, hT]; exact hP⟩, hS.F hT⟩) hS.2.2 dX7_premise_68
      · have hm := (if_neg c9).symm.trans hm
        cases hm
  · have hm := (if_pos c3).symm.trans hm
    cases hm
theorem eX7_assume : yX7_assume.cls = RX7 ∧ yX7_assume.cls ≠ "java/lang/invoke/MethodHandle" ∧ yX7_assume.cls ≠ "java/lang/invoke/VarHandle" ∧ (parseMethodDescriptor yX7_assume.desc).map (fun d => d.parameters.length) = some 1 := by decide +kernel
def mX7_assume (σ : St) (p1 : Int32) : Option (Int32 × St) :=
(mX1_isKnown σ p1).bind fun r1 =>
if r1 = 0 then (
none)
else (
(mX3_openCount σ).bind fun r4 =>
if 6 ≤ r4 then (
none)
else (
(mX3_lineCount σ).bind fun r7 =>
if r7 < 60 then (
(mX3_openBox σ).bind fun s11 =>
(mX3_add s11 p1 14 0 0 0).bind fun ⟨r12, s14⟩ =>
some (r12, s14))
else (
none)))
set_option maxHeartbeats 4000000 in
set_option maxRecDepth 100000 in
theorem kX7_assume (l : Launch) (D : va_G) (y : Nat → ClassId) (a t : Nat → Nat) (hI : AI a 37) (sz : Nat) (σ τ : St) (p1 : Int32) (r : Int32) (hm : mX7_assume σ p1 = some (r, τ)) : Met l yX7_assume zX7_assume { frames := 3, cells := 0, slots := 0, locals := 71 } (va_Pc [.ref (a 0), .int p1] (preW (wC y a) a 37 D y t σ sz)) (va_Qi (fun r' u => r' = r ∧ u = τ) (posW (wC y a) D) (AC a 37 sz)) 0 0 (AC a 37 sz) := by
  refine Met.ofW (cc := cX7_assume) (maxL := 2) (ret := (some .int)) (by decide) rfl ?_
  intro p e s m args below meth c s₁ B hml hv
  obtain ⟨rfl, hsz, hP, hK, hF⟩ := hv
  have hx := B.exec
  have hb := B.bytes
  have hr := B.returns
  have hts := atoms_spec (ws := zX7_assume) B.pre
  have hown : s.vm.findClass RX7 = some m.cls := findClass_of_methodNamed B.named
  have hlocks := B.notSynchronized
  subst hsz
  have l_f10 := hts _ (List.mem_cons_of_mem _ aF_X7_10)
  have l_f44 := hts _ (List.mem_cons_of_mem _ aF_X7_44)
  have h_X7 : ∀ w ∈ wsX70, w.before _ s = true := fun w hw => hts w (List.mem_cons_of_mem _ (hwX7 w hw))
  have hS : va_S (AC a 37 s.heap.size) s.heap s.heap [] := va_S.rf
  have hl := lv_entry ([.ref (a 0), .int p1]) (n := 2) (Nat.le_of_ble_eq_true rfl)
  rw [lg_entry_eq]
  generalize (lg_sl ([.ref (a 0), .int p1]) ++ List.replicate (2 - (lg_sl ([.ref (a 0), .int p1])).length) Slot.unset).toArray = ls at hl ⊢
  have hl : lv_has ls 2 [(0, .ref (a 0)), (1, .int p1)] := hl
  unfold mX7_assume at hm
  refine lv_aload_n hx hb dX7_assume_0 rfl (lv_at hl 0 rfl) ?_
  refine gfX7_formulas hx hb h_X7 hown hK hP l_f10 dX7_assume_1 ?_
  refine lv_iload_n hx hb dX7_assume_4 rfl (lv_at hl 1 rfl) ?_
  obtain ⟨r1, h2, hm⟩ := ok_bind hm
  refine calV_i (As := [.int p1]) (rest := []) ⟨hx, hb, hml, hown, hts⟩ (kX1_isKnown l D y a t hI _ σ p1 r1 h2) (cwV 1 hts (gAV aM_X7_105 aI_X1_isKnown aS_X1_isKnown aN_X1 aC_X1_isKnown) rfl rfl rfl eX1_isKnown ⟨Nat.le_of_ble_eq_true rfl, Nat.le_of_ble_eq_true rfl⟩) (preV_W (ci := 1) (q := (RX1, TX1, 8)) hK hP hF hS rfl (wC_1 y a σ)) rfl hl.1 rfl (Nat.le_of_ble_eq_true rfl) dX7_assume_5 ⟨Nat.zero_le _, Nat.zero_le _⟩ hS (AC_le hS.1) (fun H locs hP hS hk1 => ?_)
  refine lv_if_ne (tgt := 21) hx hb dX7_assume_8 (by decide) (fun c3 => ?_) (fun c3 => ?_)
  · have hm := (if_neg c3).symm.trans hm
    refine lv_aload_n hx hb dX7_assume_21 rfl (lv_at hl 0 rfl) ?_
    refine gfX7_proof hx hb h_X7 hown hK hP l_f44 dX7_assume_22 ?_
    obtain ⟨r4, h5, hm⟩ := ok_bind hm
    refine calV_i (As := []) (rest := []) ⟨hx, hb, hml, hown, hts⟩ (kX3_openCount l D y a t hI _ σ r4 h5) (cwV 0 hts (gAV aM_X7_166 aI_X3_openCount aS_X3_openCount aN_X3 aC_X3_openCount) rfl rfl rfl eX3_openCount ⟨Nat.le_of_ble_eq_true rfl, Nat.le_of_ble_eq_true rfl⟩) (preV_W (ci := 3) (q := (RX3, TX3, 12)) hK hP hF hS rfl (wC_5 y a σ)) rfl hl.1 rfl (Nat.le_of_ble_eq_true rfl) dX7_assume_25 ⟨Nat.zero_le _, Nat.zero_le _⟩ hS (AC_le hS.1) (fun H locs hP hS hk1 => ?_)
    refine lv_bipush (v := 6) hx hb dX7_assume_28 (by decide) ?_
    refine lv_icmp_ge (tgt := 45) hx hb dX7_assume_30 (by decide) (fun c6 => ?_) (fun c6 => ?_)
    · have hm := (if_pos c6).symm.trans hm
      cases hm
    · have hm := (if_neg c6).symm.trans hm
      refine lv_aload_n hx hb dX7_assume_33 rfl (lv_at hl 0 rfl) ?_
      refine gfX7_proof hx hb h_X7 hown hK hP l_f44 dX7_assume_34 ?_
      obtain ⟨r7, h8, hm⟩ := ok_bind hm
      refine calV_i (As := []) (rest := []) ⟨hx, hb, hml, hown, hts⟩ (kX3_lineCount l D y a t hI _ σ r7 h8) (cwV 0 hts (gAV aM_X7_151 aI_X3_lineCount aS_X3_lineCount aN_X3 aC_X3_lineCount) rfl rfl rfl eX3_lineCount ⟨Nat.le_of_ble_eq_true rfl, Nat.le_of_ble_eq_true rfl⟩) (preV_W (ci := 3) (q := (RX3, TX3, 12)) hK hP hF hS rfl (wC_5 y a σ)) rfl hl.1 rfl (Nat.le_of_ble_eq_true rfl) dX7_assume_37 ⟨Nat.zero_le _, Nat.zero_le _⟩ hS (AC_le hS.1) (fun H locs hP hS hk1 => ?_)
      refine lv_bipush (v := 60) hx hb dX7_assume_40 (by decide) ?_
      refine lv_icmp_lt (tgt := 55) hx hb dX7_assume_42 (by decide) (fun c9 => ?_) (fun c9 => ?_)
      · have hm := (if_pos c9).symm.trans hm
        refine lv_aload_n hx hb dX7_assume_55 rfl (lv_at hl 0 rfl) ?_
        refine gfX7_proof hx hb h_X7 hown hK hP l_f44 dX7_assume_56 ?_
        obtain ⟨s11, h10, hm⟩ := ok_bind hm
        refine calV_v (As := []) (rest := []) ⟨hx, hb, hml, hown, hts⟩ (kX3_openBox l D y a t hI _ σ s11  h10) (cwV 0 hts (gAV aM_X7_171 aI_X3_openBox aS_X3_openBox aN_X3 aC_X3_openBox) rfl rfl rfl eX3_openBox ⟨Nat.le_of_ble_eq_true rfl, Nat.le_of_ble_eq_true rfl⟩) (preV_W (ci := 3) (q := (RX3, TX3, 12)) hK hP hF hS rfl (wC_5 y a σ)) rfl hl.1 rfl (Nat.le_of_ble_eq_true rfl) dX7_assume_59 ⟨Nat.zero_le _, Nat.zero_le _⟩ hS (AC_le hS.1) (fun H locs hP hS hk1 => ?_)
        refine lv_aload_n hx hb dX7_assume_62 rfl (lv_at hl 0 rfl) ?_
        refine gfX7_proof hx hb h_X7 hown hK hP l_f44 dX7_assume_63 ?_
        refine lv_iload_n hx hb dX7_assume_66 rfl (lv_at hl 1 rfl) ?_
        refine lv_bipush (v := 14) hx hb dX7_assume_67 (by decide) ?_
        refine lv_iconst (v := 0) hx hb dX7_assume_69 (by decide) ?_
        refine lv_iconst (v := 0) hx hb dX7_assume_70 (by decide) ?_
        refine lv_iconst (v := 0) hx hb dX7_assume_71 (by decide) ?_
        obtain ⟨⟨r12, s14⟩, h13, hm⟩ := ok_bind hm
        refine calV_i (As := [.int p1, .int 14, .int 0, .int 0, .int 0]) (rest := []) ⟨hx, hb, hml, hown, hts⟩ (kX3_add l D y a t hI _ s11 s14 p1 14 0 0 0 r12 h13) (cwV 5 hts (gAV aM_X7_162 aI_X3_add aS_X3_add aN_X3 aC_X3_add) rfl rfl rfl eX3_add ⟨Nat.le_of_ble_eq_true rfl, Nat.le_of_ble_eq_true rfl⟩) (preV_W (ci := 3) (q := (RX3, TX3, 12)) hK hP hF hS rfl (wC_5 y a s11)) rfl hl.1 rfl (Nat.le_of_ble_eq_true rfl) dX7_assume_72 ⟨Nat.zero_le _, Nat.zero_le _⟩ hS (AC_le hS.1) (fun H locs hP hS hk1 => ?_)
        exact W.iret (v := r12) hx hb hr (fun T hT hW => ⟨⟨r12, s14, rfl, ⟨congrArg Prod.fst (Option.some.inj hm), congrArg Prod.snd (Option.some.inj hm)⟩, by rw [posW, hT]; exact hP⟩, hS.F hT⟩) hS.2.2 dX7_assume_75
      · have hm := (if_neg c9).symm.trans hm
        cases hm
  · have hm := (if_pos c3).symm.trans hm
    cases hm
theorem eX7_close : yX7_close.cls = RX7 ∧ yX7_close.cls ≠ "java/lang/invoke/MethodHandle" ∧ yX7_close.cls ≠ "java/lang/invoke/VarHandle" ∧ (parseMethodDescriptor yX7_close.desc).map (fun d => d.parameters.length) = some 0 := by decide +kernel
def mX7_close (σ : St) : Option (Int32 × St) :=
(mX3_openCount σ).bind fun r1 =>
if 0 < r1 then (
(mX3_shutBox σ).bind fun ⟨r4, s6⟩ =>
some (r4, s6))
else (
none)
set_option maxHeartbeats 4000000 in
set_option maxRecDepth 100000 in
theorem kX7_close (l : Launch) (D : va_G) (y : Nat → ClassId) (a t : Nat → Nat) (hI : AI a 37) (sz : Nat) (σ τ : St) (r : Int32) (hm : mX7_close σ = some (r, τ)) : Met l yX7_close zX7_close { frames := 3, cells := 0, slots := 0, locals := 64 } (va_Pc [.ref (a 0)] (preW (wC y a) a 37 D y t σ sz)) (va_Qi (fun r' u => r' = r ∧ u = τ) (posW (wC y a) D) (AC a 37 sz)) 0 0 (AC a 37 sz) := by
  refine Met.ofW (cc := cX7_close) (maxL := 1) (ret := (some .int)) (by decide) rfl ?_
  intro p e s m args below meth c s₁ B hml hv
  obtain ⟨rfl, hsz, hP, hK, hF⟩ := hv
  have hx := B.exec
  have hb := B.bytes
  have hr := B.returns
  have hts := atoms_spec (ws := zX7_close) B.pre
  have hown : s.vm.findClass RX7 = some m.cls := findClass_of_methodNamed B.named
  have hlocks := B.notSynchronized
  subst hsz
  have l_f44 := hts _ (List.mem_cons_of_mem _ aF_X7_44)
  have h_X7 : ∀ w ∈ wsX70, w.before _ s = true := fun w hw => hts w (List.mem_cons_of_mem _ (hwX7 w hw))
  have hS : va_S (AC a 37 s.heap.size) s.heap s.heap [] := va_S.rf
  have hl := lv_entry ([.ref (a 0)]) (n := 1) (Nat.le_of_ble_eq_true rfl)
  rw [lg_entry_eq]
  generalize (lg_sl ([.ref (a 0)]) ++ List.replicate (1 - (lg_sl ([.ref (a 0)])).length) Slot.unset).toArray = ls at hl ⊢
  have hl : lv_has ls 1 [(0, .ref (a 0))] := hl
  unfold mX7_close at hm
  refine lv_aload_n hx hb dX7_close_0 rfl (lv_at hl 0 rfl) ?_
  refine gfX7_proof hx hb h_X7 hown hK hP l_f44 dX7_close_1 ?_
  obtain ⟨r1, h2, hm⟩ := ok_bind hm
  refine calV_i (As := []) (rest := []) ⟨hx, hb, hml, hown, hts⟩ (kX3_openCount l D y a t hI _ σ r1 h2) (cwV 0 hts (gAV aM_X7_166 aI_X3_openCount aS_X3_openCount aN_X3 aC_X3_openCount) rfl rfl rfl eX3_openCount ⟨Nat.le_of_ble_eq_true rfl, Nat.le_of_ble_eq_true rfl⟩) (preV_W (ci := 3) (q := (RX3, TX3, 12)) hK hP hF hS rfl (wC_5 y a σ)) rfl hl.1 rfl (Nat.le_of_ble_eq_true rfl) dX7_close_4 ⟨Nat.zero_le _, Nat.zero_le _⟩ hS (AC_le hS.1) (fun H locs hP hS hk1 => ?_)
  refine lv_if_gt (tgt := 20) hx hb dX7_close_7 (by decide) (fun c3 => ?_) (fun c3 => ?_)
  · have hm := (if_pos c3).symm.trans hm
    refine lv_aload_n hx hb dX7_close_20 rfl (lv_at hl 0 rfl) ?_
    refine gfX7_proof hx hb h_X7 hown hK hP l_f44 dX7_close_21 ?_
    obtain ⟨⟨r4, s6⟩, h5, hm⟩ := ok_bind hm
    refine calV_i (As := []) (rest := []) ⟨hx, hb, hml, hown, hts⟩ (kX3_shutBox l D y a t hI _ σ s6 r4 h5) (cwV 0 hts (gAV aM_X7_176 aI_X3_shutBox aS_X3_shutBox aN_X3 aC_X3_shutBox) rfl rfl rfl eX3_shutBox ⟨Nat.le_of_ble_eq_true rfl, Nat.le_of_ble_eq_true rfl⟩) (preV_W (ci := 3) (q := (RX3, TX3, 12)) hK hP hF hS rfl (wC_5 y a σ)) rfl hl.1 rfl (Nat.le_of_ble_eq_true rfl) dX7_close_24 ⟨Nat.zero_le _, Nat.zero_le _⟩ hS (AC_le hS.1) (fun H locs hP hS hk1 => ?_)
    exact W.iret (v := r4) hx hb hr (fun T hT hW => ⟨⟨r4, s6, rfl, ⟨congrArg Prod.fst (Option.some.inj hm), congrArg Prod.snd (Option.some.inj hm)⟩, by rw [posW, hT]; exact hP⟩, hS.F hT⟩) hS.2.2 dX7_close_27
  · have hm := (if_neg c3).symm.trans hm
    cases hm
theorem eX7_step : yX7_step.cls = RX7 ∧ yX7_step.cls ≠ "java/lang/invoke/MethodHandle" ∧ yX7_step.cls ≠ "java/lang/invoke/VarHandle" ∧ (parseMethodDescriptor yX7_step.desc).map (fun d => d.parameters.length) = some 5 := by decide +kernel
def mX7_step (σ : St) (p1 : Int32) (p2 : Int32) (p3 : Int32) (p4 : Int32) (p5 : Int32) : Option (Int32 × St) :=
if p1 < 0 then (
none)
else (
if p1 ≤ 13 then (
(mX1_isKnown σ p2).bind fun r3 =>
if r3 = 0 then (
none)
else (
(mX3_lineCount σ).bind fun r6 =>
if r6 < 60 then (
(mX4_refusal σ p1 p2 p3 p4 p5).bind fun ⟨r9, s11⟩ =>
if r9 = 0 then (
(mX3_add s11 p2 p1 p3 p4 p5).bind fun ⟨r13, s15⟩ =>
if p1 = 13 then (
(mX6_noteUse s15 p3).bind fun s18 =>
some (r9, s18))
else (
some (r9, s15)))
else (
some (r9, s11)))
else (
none)))
else (
none))
set_option maxHeartbeats 4000000 in
set_option maxRecDepth 100000 in
theorem kX7_step (l : Launch) (D : va_G) (y : Nat → ClassId) (a t : Nat → Nat) (hI : AI a 37) (sz : Nat) (σ τ : St) (p1 : Int32) (p2 : Int32) (p3 : Int32) (p4 : Int32) (p5 : Int32) (r : Int32) (hm : mX7_step σ p1 p2 p3 p4 p5 = some (r, τ)) : Met l yX7_step zX7_step { frames := 5, cells := 0, slots := 0, locals := 124 } (va_Pc [.ref (a 0), .int p1, .int p2, .int p3, .int p4, .int p5] (preW (wC y a) a 37 D y t σ sz)) (va_Qi (fun r' u => r' = r ∧ u = τ) (posW (wC y a) D) (AC a 37 sz)) 0 0 (AC a 37 sz) := by
  refine Met.ofW (cc := cX7_step) (maxL := 7) (ret := (some .int)) (by decide) rfl ?_
  intro p e s m args below meth c s₁ B hml hv
  obtain ⟨rfl, hsz, hP, hK, hF⟩ := hv
  have hx := B.exec
  have hb := B.bytes
  have hr := B.returns
  have hts := atoms_spec (ws := zX7_step) B.pre
  have hown : s.vm.findClass RX7 = some m.cls := findClass_of_methodNamed B.named
  have hlocks := B.notSynchronized
  subst hsz
  have l_f10 := hts _ (List.mem_cons_of_mem _ aF_X7_10)
  have l_f44 := hts _ (List.mem_cons_of_mem _ aF_X7_44)
  have l_f53 := hts _ (List.mem_cons_of_mem _ aF_X7_53)
  have l_f35 := hts _ (List.mem_cons_of_mem _ aF_X7_35)
  have h_X7 : ∀ w ∈ wsX70, w.before _ s = true := fun w hw => hts w (List.mem_cons_of_mem _ (hwX7 w hw))
  have hS : va_S (AC a 37 s.heap.size) s.heap s.heap [] := va_S.rf
  have hl := lv_entry ([.ref (a 0), .int p1, .int p2, .int p3, .int p4, .int p5]) (n := 7) (Nat.le_of_ble_eq_true rfl)
  rw [lg_entry_eq]
  generalize (lg_sl ([.ref (a 0), .int p1, .int p2, .int p3, .int p4, .int p5]) ++ List.replicate (7 - (lg_sl ([.ref (a 0), .int p1, .int p2, .int p3, .int p4, .int p5])).length) Slot.unset).toArray = ls at hl ⊢
  have hl : lv_has ls 7 [(0, .ref (a 0)), (1, .int p1), (2, .int p2), (3, .int p3), (4, .int p4), (5, .int p5)] := hl
  unfold mX7_step at hm
  refine lv_iload_n hx hb dX7_step_0 rfl (lv_at hl 1 rfl) ?_
  refine lv_if_lt (tgt := 10) hx hb dX7_step_1 (by decide) (fun c1 => ?_) (fun c1 => ?_)
  · have hm := (if_pos c1).symm.trans hm
    cases hm
  · have hm := (if_neg c1).symm.trans hm
    refine lv_iload_n hx hb dX7_step_4 rfl (lv_at hl 1 rfl) ?_
    refine lv_bipush (v := 13) hx hb dX7_step_5 (by decide) ?_
    refine lv_icmp_le (tgt := 20) hx hb dX7_step_7 (by decide) (fun c2 => ?_) (fun c2 => ?_)
    · have hm := (if_pos c2).symm.trans hm
      refine lv_aload_n hx hb dX7_step_20 rfl (lv_at hl 0 rfl) ?_
      refine gfX7_formulas hx hb h_X7 hown hK hP l_f10 dX7_step_21 ?_
      refine lv_iload_n hx hb dX7_step_24 rfl (lv_at hl 2 rfl) ?_
      obtain ⟨r3, h4, hm⟩ := ok_bind hm
      refine calV_i (As := [.int p2]) (rest := []) ⟨hx, hb, hml, hown, hts⟩ (kX1_isKnown l D y a t hI _ σ p2 r3 h4) (cwV 1 hts (gAV aM_X7_105 aI_X1_isKnown aS_X1_isKnown aN_X1 aC_X1_isKnown) rfl rfl rfl eX1_isKnown ⟨Nat.le_of_ble_eq_true rfl, Nat.le_of_ble_eq_true rfl⟩) (preV_W (ci := 1) (q := (RX1, TX1, 8)) hK hP hF hS rfl (wC_1 y a σ)) rfl hl.1 rfl (Nat.le_of_ble_eq_true rfl) dX7_step_25 ⟨Nat.zero_le _, Nat.zero_le _⟩ hS (AC_le hS.1) (fun H locs hP hS hk1 => ?_)
      refine lv_if_ne (tgt := 41) hx hb dX7_step_28 (by decide) (fun c5 => ?_) (fun c5 => ?_)
      · have hm := (if_neg c5).symm.trans hm
        refine lv_aload_n hx hb dX7_step_41 rfl (lv_at hl 0 rfl) ?_
        refine gfX7_proof hx hb h_X7 hown hK hP l_f44 dX7_step_42 ?_
        obtain ⟨r6, h7, hm⟩ := ok_bind hm
        refine calV_i (As := []) (rest := []) ⟨hx, hb, hml, hown, hts⟩ (kX3_lineCount l D y a t hI _ σ r6 h7) (cwV 0 hts (gAV aM_X7_151 aI_X3_lineCount aS_X3_lineCount aN_X3 aC_X3_lineCount) rfl rfl rfl eX3_lineCount ⟨Nat.le_of_ble_eq_true rfl, Nat.le_of_ble_eq_true rfl⟩) (preV_W (ci := 3) (q := (RX3, TX3, 12)) hK hP hF hS rfl (wC_5 y a σ)) rfl hl.1 rfl (Nat.le_of_ble_eq_true rfl) dX7_step_45 ⟨Nat.zero_le _, Nat.zero_le _⟩ hS (AC_le hS.1) (fun H locs hP hS hk1 => ?_)
        refine lv_bipush (v := 60) hx hb dX7_step_48 (by decide) ?_
        refine lv_icmp_lt (tgt := 63) hx hb dX7_step_50 (by decide) (fun c8 => ?_) (fun c8 => ?_)
        · have hm := (if_pos c8).symm.trans hm
          refine lv_aload_n hx hb dX7_step_63 rfl (lv_at hl 0 rfl) ?_
          refine gfX7_rules hx hb h_X7 hown hK hP l_f53 dX7_step_64 ?_
          refine lv_iload_n hx hb dX7_step_67 rfl (lv_at hl 1 rfl) ?_
          refine lv_iload_n hx hb dX7_step_68 rfl (lv_at hl 2 rfl) ?_
          refine lv_iload_n hx hb dX7_step_69 rfl (lv_at hl 3 rfl) ?_
          refine lv_iload hx hb dX7_step_70 (lv_at hl 4 rfl) ?_
          refine lv_iload hx hb dX7_step_72 (lv_at hl 5 rfl) ?_
          obtain ⟨⟨r9, s11⟩, h10, hm⟩ := ok_bind hm
          refine calV_i (As := [.int p1, .int p2, .int p3, .int p4, .int p5]) (rest := []) ⟨hx, hb, hml, hown, hts⟩ (kX4_refusal l D y a t hI _ σ s11 p1 p2 p3 p4 p5 r9 h10) (cwV 5 hts (gAV aM_X7_183 aI_X4_refusal aS_X4_refusal aN_X4 aC_X4_refusal) rfl rfl rfl eX4_refusal ⟨Nat.le_of_ble_eq_true rfl, Nat.le_of_ble_eq_true rfl⟩) (preV_W (ci := 4) (q := (RX4, TX4, 4)) hK hP hF hS rfl (wC_7 y a σ)) rfl hl.1 rfl (Nat.le_of_ble_eq_true rfl) dX7_step_74 ⟨Nat.zero_le _, Nat.zero_le _⟩ hS (AC_le hS.1) (fun H locs hP hS hk1 => ?_)
          refine lv_istore (lv' := [(6, .int r9), (0, .ref (a 0)), (1, .int p1), (2, .int p2), (3, .int p3), (4, .int p4), (5, .int p5)]) hx hb dX7_step_77 hl (by decide) rfl (fun ls hl => ?_)
          refine lv_iload hx hb dX7_step_79 (lv_at hl 0 rfl) ?_
          refine lv_if_ne (tgt := 113) hx hb dX7_step_81 (by decide) (fun c12 => ?_) (fun c12 => ?_)
          · have hm := (if_neg c12).symm.trans hm
            refine lv_iload hx hb dX7_step_113 (lv_at hl 0 rfl) ?_
            exact W.iret (v := r9) hx hb hr (fun T hT hW => ⟨⟨r9, s11, rfl, ⟨congrArg Prod.fst (Option.some.inj hm), congrArg Prod.snd (Option.some.inj hm)⟩, by rw [posW, hT]; exact hP⟩, hS.F hT⟩) hS.2.2 dX7_step_115
          · have hm := (if_pos c12).symm.trans hm
            refine lv_aload_n hx hb dX7_step_84 rfl (lv_at hl 1 rfl) ?_
            refine gfX7_proof hx hb h_X7 hown hK hP l_f44 dX7_step_85 ?_
            refine lv_iload_n hx hb dX7_step_88 rfl (lv_at hl 3 rfl) ?_
            refine lv_iload_n hx hb dX7_step_89 rfl (lv_at hl 2 rfl) ?_
            refine lv_iload_n hx hb dX7_step_90 rfl (lv_at hl 4 rfl) ?_
            refine lv_iload hx hb dX7_step_91 (lv_at hl 5 rfl) ?_
            refine lv_iload hx hb dX7_step_93 (lv_at hl 6 rfl) ?_
            obtain ⟨⟨r13, s15⟩, h14, hm⟩ := ok_bind hm
            refine calV_i (As := [.int p2, .int p1, .int p3, .int p4, .int p5]) (rest := []) ⟨hx, hb, hml, hown, hts⟩ (kX3_add l D y a t hI _ s11 s15 p2 p1 p3 p4 p5 r13 h14) (cwV 5 hts (gAV aM_X7_162 aI_X3_add aS_X3_add aN_X3 aC_X3_add) rfl rfl rfl eX3_add ⟨Nat.le_of_ble_eq_true rfl, Nat.le_of_ble_eq_true rfl⟩) (preV_W (ci := 3) (q := (RX3, TX3, 12)) hK hP hF hS rfl (wC_5 y a s11)) rfl hl.1 rfl (Nat.le_of_ble_eq_true rfl) dX7_step_95 ⟨Nat.zero_le _, Nat.zero_le _⟩ hS (AC_le hS.1) (fun H locs hP hS hk1 => ?_)
            refine lv_pop hx hb dX7_step_98 rfl ?_
            refine lv_iload_n hx hb dX7_step_99 rfl (lv_at hl 2 rfl) ?_
            refine lv_bipush (v := 13) hx hb dX7_step_100 (by decide) ?_
            refine lv_icmp_ne (tgt := 113) hx hb dX7_step_102 (by decide) (fun c16 => ?_) (fun c16 => ?_)
            · have hm := (if_neg c16).symm.trans hm
              refine lv_iload hx hb dX7_step_113 (lv_at hl 0 rfl) ?_
              exact W.iret (v := r9) hx hb hr (fun T hT hW => ⟨⟨r9, s15, rfl, ⟨congrArg Prod.fst (Option.some.inj hm), congrArg Prod.snd (Option.some.inj hm)⟩, by rw [posW, hT]; exact hP⟩, hS.F hT⟩) hS.2.2 dX7_step_115
            · have hm := (if_pos c16).symm.trans hm
              refine lv_aload_n hx hb dX7_step_105 rfl (lv_at hl 1 rfl) ?_
              refine gfX7_theorems hx hb h_X7 hown hK hP l_f35 dX7_step_106 ?_
              refine lv_iload_n hx hb dX7_step_109 rfl (lv_at hl 4 rfl) ?_
              obtain ⟨s18, h17, hm⟩ := ok_bind hm
              refine calV_v (As := [.int p3]) (rest := []) ⟨hx, hb, hml, hown, hts⟩ (kX6_noteUse l D y a t hI _ s15 s18 p3 h17) (cwV 1 hts (gAV aM_X7_186 aI_X6_noteUse aS_X6_noteUse aN_X6 aC_X6_noteUse) rfl rfl rfl eX6_noteUse ⟨Nat.le_of_ble_eq_true rfl, Nat.le_of_ble_eq_true rfl⟩) (preV_W (ci := 6) (q := (RX6, TX6, 9)) hK hP hF hS rfl (wC_4 y a s15)) rfl hl.1 rfl (Nat.le_of_ble_eq_true rfl) dX7_step_110 ⟨Nat.zero_le _, Nat.zero_le _⟩ hS (AC_le hS.1) (fun H locs hP hS hk1 => ?_)
              refine lv_iload hx hb dX7_step_113 (lv_at hl 0 rfl) ?_
              exact W.iret (v := r9) hx hb hr (fun T hT hW => ⟨⟨r9, s18, rfl, ⟨congrArg Prod.fst (Option.some.inj hm), congrArg Prod.snd (Option.some.inj hm)⟩, by rw [posW, hT]; exact hP⟩, hS.F hT⟩) hS.2.2 dX7_step_115
        · have hm := (if_neg c8).symm.trans hm
          cases hm
      · have hm := (if_pos c5).symm.trans hm
        cases hm
    · have hm := (if_neg c2).symm.trans hm
      cases hm
theorem eX7_undo : yX7_undo.cls = RX7 ∧ yX7_undo.cls ≠ "java/lang/invoke/MethodHandle" ∧ yX7_undo.cls ≠ "java/lang/invoke/VarHandle" ∧ (parseMethodDescriptor yX7_undo.desc).map (fun d => d.parameters.length) = some 0 := by decide +kernel
def mX7_undo (σ : St) : Option (Int32 × St) :=
(mX3_wasBegun σ).bind fun r1 =>
if r1 = 0 then (
none)
else (
(mX3_takeBack σ).bind fun s5 =>
(mX3_lineCount s5).bind fun r6 =>
some (r6, s5))
set_option maxHeartbeats 4000000 in
set_option maxRecDepth 100000 in
theorem kX7_undo (l : Launch) (D : va_G) (y : Nat → ClassId) (a t : Nat → Nat) (hI : AI a 37) (sz : Nat) (σ τ : St) (r : Int32) (hm : mX7_undo σ = some (r, τ)) : Met l yX7_undo zX7_undo { frames := 2, cells := 0, slots := 0, locals := 42 } (va_Pc [.ref (a 0)] (preW (wC y a) a 37 D y t σ sz)) (va_Qi (fun r' u => r' = r ∧ u = τ) (posW (wC y a) D) (AC a 37 sz)) 0 0 (AC a 37 sz) := by
  refine Met.ofW (cc := cX7_undo) (maxL := 1) (ret := (some .int)) (by decide) rfl ?_
  intro p e s m args below meth c s₁ B hml hv
  obtain ⟨rfl, hsz, hP, hK, hF⟩ := hv
  have hx := B.exec
  have hb := B.bytes
  have hr := B.returns
  have hts := atoms_spec (ws := zX7_undo) B.pre
  have hown : s.vm.findClass RX7 = some m.cls := findClass_of_methodNamed B.named
  have hlocks := B.notSynchronized
  subst hsz
  have l_f44 := hts _ (List.mem_cons_of_mem _ aF_X7_44)
  have h_X7 : ∀ w ∈ wsX70, w.before _ s = true := fun w hw => hts w (List.mem_cons_of_mem _ (hwX7 w hw))
  have hS : va_S (AC a 37 s.heap.size) s.heap s.heap [] := va_S.rf
  have hl := lv_entry ([.ref (a 0)]) (n := 1) (Nat.le_of_ble_eq_true rfl)
  rw [lg_entry_eq]
  generalize (lg_sl ([.ref (a 0)]) ++ List.replicate (1 - (lg_sl ([.ref (a 0)])).length) Slot.unset).toArray = ls at hl ⊢
  have hl : lv_has ls 1 [(0, .ref (a 0))] := hl
  unfold mX7_undo at hm
  refine lv_aload_n hx hb dX7_undo_0 rfl (lv_at hl 0 rfl) ?_
  refine gfX7_proof hx hb h_X7 hown hK hP l_f44 dX7_undo_1 ?_
  obtain ⟨r1, h2, hm⟩ := ok_bind hm
  refine calV_i (As := []) (rest := []) ⟨hx, hb, hml, hown, hts⟩ (kX3_wasBegun l D y a t hI _ σ r1 h2) (cwV 0 hts (gAV aM_X7_189 aI_X3_wasBegun aS_X3_wasBegun aN_X3 aC_X3_wasBegun) rfl rfl rfl eX3_wasBegun ⟨Nat.le_of_ble_eq_true rfl, Nat.le_of_ble_eq_true rfl⟩) (preV_W (ci := 3) (q := (RX3, TX3, 12)) hK hP hF hS rfl (wC_5 y a σ)) rfl hl.1 rfl (Nat.le_of_ble_eq_true rfl) dX7_undo_4 ⟨Nat.zero_le _, Nat.zero_le _⟩ hS (AC_le hS.1) (fun H locs hP hS hk1 => ?_)
  refine lv_if_ne (tgt := 20) hx hb dX7_undo_7 (by decide) (fun c3 => ?_) (fun c3 => ?_)
  · have hm := (if_neg c3).symm.trans hm
    refine lv_aload_n hx hb dX7_undo_20 rfl (lv_at hl 0 rfl) ?_
    refine gfX7_proof hx hb h_X7 hown hK hP l_f44 dX7_undo_21 ?_
    obtain ⟨s5, h4, hm⟩ := ok_bind hm
    refine calV_v (As := []) (rest := []) ⟨hx, hb, hml, hown, hts⟩ (kX3_takeBack l D y a t hI _ σ s5  h4) (cwV 0 hts (gAV aM_X7_195 aI_X3_takeBack aS_X3_takeBack aN_X3 aC_X3_takeBack) rfl rfl rfl eX3_takeBack ⟨Nat.le_of_ble_eq_true rfl, Nat.le_of_ble_eq_true rfl⟩) (preV_W (ci := 3) (q := (RX3, TX3, 12)) hK hP hF hS rfl (wC_5 y a σ)) rfl hl.1 rfl (Nat.le_of_ble_eq_true rfl) dX7_undo_24 ⟨Nat.zero_le _, Nat.zero_le _⟩ hS (AC_le hS.1) (fun H locs hP hS hk1 => ?_)
    refine lv_aload_n hx hb dX7_undo_27 rfl (lv_at hl 0 rfl) ?_
    refine gfX7_proof hx hb h_X7 hown hK hP l_f44 dX7_undo_28 ?_
    obtain ⟨r6, h7, hm⟩ := ok_bind hm
    refine calV_i (As := []) (rest := []) ⟨hx, hb, hml, hown, hts⟩ (kX3_lineCount l D y a t hI _ s5 r6 h7) (cwV 0 hts (gAV aM_X7_151 aI_X3_lineCount aS_X3_lineCount aN_X3 aC_X3_lineCount) rfl rfl rfl eX3_lineCount ⟨Nat.le_of_ble_eq_true rfl, Nat.le_of_ble_eq_true rfl⟩) (preV_W (ci := 3) (q := (RX3, TX3, 12)) hK hP hF hS rfl (wC_5 y a s5)) rfl hl.1 rfl (Nat.le_of_ble_eq_true rfl) dX7_undo_31 ⟨Nat.zero_le _, Nat.zero_le _⟩ hS (AC_le hS.1) (fun H locs hP hS hk1 => ?_)
    exact W.iret (v := r6) hx hb hr (fun T hT hW => ⟨⟨r6, s5, rfl, ⟨congrArg Prod.fst (Option.some.inj hm), congrArg Prod.snd (Option.some.inj hm)⟩, by rw [posW, hT]; exact hP⟩, hS.F hT⟩) hS.2.2 dX7_undo_34
  · have hm := (if_pos c3).symm.trans hm
    cases hm
theorem eX7_count : yX7_count.cls = RX7 ∧ yX7_count.cls ≠ "java/lang/invoke/MethodHandle" ∧ yX7_count.cls ≠ "java/lang/invoke/VarHandle" ∧ (parseMethodDescriptor yX7_count.desc).map (fun d => d.parameters.length) = some 1 := by decide +kernel
def mX7_count (σ : St) (p1 : Int32) : Option (Int32 × St) :=
if p1 = 0 then (
(mX1_known σ).bind fun r2 =>
some (r2, σ))
else (
if p1 = 1 then (
(mX5_size σ).bind fun r5 =>
some (r5, σ))
else (
if p1 = 2 then (
(mX2_size σ).bind fun r8 =>
some (r8, σ))
else (
if p1 = 3 then (
(mX3_lineCount σ).bind fun r11 =>
some (r11, σ))
else (
if p1 = 4 then (
(mX3_boxCount σ).bind fun r14 =>
some (r14, σ))
else (
if p1 = 5 then (
(mX3_openCount σ).bind fun r17 =>
some (r17, σ))
else (
if p1 = 6 then (
(mX3_premiseCount σ).bind fun r20 =>
some (r20, σ))
else (
if p1 = 7 then (
(mX6_known σ).bind fun r23 =>
some (r23, σ))
else (
if p1 = 8 then (
(mX3_neededCount σ).bind fun ⟨r26, s28⟩ =>
some (r26, s28))
else (
none)))))))))
set_option maxHeartbeats 4000000 in
set_option maxRecDepth 100000 in
theorem kX7_count (l : Launch) (D : va_G) (y : Nat → ClassId) (a t : Nat → Nat) (hI : AI a 37) (sz : Nat) (σ τ : St) (p1 : Int32) (r : Int32) (hm : mX7_count σ p1 = some (r, τ)) : Met l yX7_count zX7_count { frames := 3, cells := 0, slots := 0, locals := 66 } (va_Pc [.ref (a 0), .int p1] (preW (wC y a) a 37 D y t σ sz)) (va_Qi (fun r' u => r' = r ∧ u = τ) (posW (wC y a) D) (AC a 37 sz)) 0 0 (AC a 37 sz) := by
  refine Met.ofW (cc := cX7_count) (maxL := 2) (ret := (some .int)) (by decide) rfl ?_
  intro p e s m args below meth c s₁ B hml hv
  obtain ⟨rfl, hsz, hP, hK, hF⟩ := hv
  have hx := B.exec
  have hb := B.bytes
  have hr := B.returns
  have hts := atoms_spec (ws := zX7_count) B.pre
  have hown : s.vm.findClass RX7 = some m.cls := findClass_of_methodNamed B.named
  have hlocks := B.notSynchronized
  subst hsz
  have l_f10 := hts _ (List.mem_cons_of_mem _ aF_X7_10)
  have l_f21 := hts _ (List.mem_cons_of_mem _ aF_X7_21)
  have l_f28 := hts _ (List.mem_cons_of_mem _ aF_X7_28)
  have l_f44 := hts _ (List.mem_cons_of_mem _ aF_X7_44)
  have l_f35 := hts _ (List.mem_cons_of_mem _ aF_X7_35)
  have h_X7 : ∀ w ∈ wsX70, w.before _ s = true := fun w hw => hts w (List.mem_cons_of_mem _ (hwX7 w hw))
  have hS : va_S (AC a 37 s.heap.size) s.heap s.heap [] := va_S.rf
  have hl := lv_entry ([.ref (a 0), .int p1]) (n := 2) (Nat.le_of_ble_eq_true rfl)
  rw [lg_entry_eq]
  generalize (lg_sl ([.ref (a 0), .int p1]) ++ List.replicate (2 - (lg_sl ([.ref (a 0), .int p1])).length) Slot.unset).toArray = ls at hl ⊢
  have hl : lv_has ls 2 [(0, .ref (a 0)), (1, .int p1)] := hl
  unfold mX7_count at hm
  refine lv_iload_n hx hb dX7_count_0 rfl (lv_at hl 1 rfl) ?_
  by_cases c1 : p1 = 0
  · have hm := (if_pos c1).symm.trans hm
    refine lv_tableIn (tgt := 52) hx hb dX7_count_1 (by rw [c1]; decide) (by rw [c1]; decide) (by rw [c1]; rfl) (by decide) ?_
    refine lv_aload_n hx hb dX7_count_52 rfl (lv_at hl 0 rfl) ?_
    refine gfX7_formulas hx hb h_X7 hown hK hP l_f10 dX7_count_53 ?_
    obtain ⟨r2, h3, hm⟩ := ok_bind hm
    refine calV_i (As := []) (rest := []) ⟨hx, hb, hml, hown, hts⟩ (kX1_known l D y a t hI _ σ r2 h3) (cwV 0 hts (gAV aM_X7_198 aI_X1_known aS_X1_known aN_X1 aC_X1_known) rfl rfl rfl eX1_known ⟨Nat.le_of_ble_eq_true rfl, Nat.le_of_ble_eq_true rfl⟩) (preV_W (ci := 1) (q := (RX1, TX1, 8)) hK hP hF hS rfl (wC_1 y a σ)) rfl hl.1 rfl (Nat.le_of_ble_eq_true rfl) dX7_count_56 ⟨Nat.zero_le _, Nat.zero_le _⟩ hS (AC_le hS.1) (fun H locs hP hS hk1 => ?_)
    exact W.iret (v := r2) hx hb hr (fun T hT hW => ⟨⟨r2, σ, rfl, ⟨congrArg Prod.fst (Option.some.inj hm), congrArg Prod.snd (Option.some.inj hm)⟩, by rw [posW, hT]; exact hP⟩, hS.F hT⟩) hS.2.2 dX7_count_59
  · have hm := (if_neg c1).symm.trans hm
    have sc1 := sw_ne (k := 0) c1 rfl
    by_cases c4 : p1 = 1
    · have hm := (if_pos c4).symm.trans hm
      refine lv_tableIn (tgt := 60) hx hb dX7_count_1 (by rw [c4]; decide) (by rw [c4]; decide) (by rw [c4]; rfl) (by decide) ?_
      refine lv_aload_n hx hb dX7_count_60 rfl (lv_at hl 0 rfl) ?_
      refine gfX7_tape hx hb h_X7 hown hK hP l_f21 dX7_count_61 ?_
      obtain ⟨r5, h6, hm⟩ := ok_bind hm
      refine calV_i (As := []) (rest := []) ⟨hx, hb, hml, hown, hts⟩ (kX5_size l D y a t hI _ σ r5 h6) (cwV 0 hts (gAV aM_X7_57 aI_X5_size aS_X5_size aN_X5 aC_X5_size) rfl rfl rfl eX5_size ⟨Nat.le_of_ble_eq_true rfl, Nat.le_of_ble_eq_true rfl⟩) (preV_W (ci := 5) (q := (RX5, TX5, 5)) hK hP hF hS rfl (wC_2 y a σ)) rfl hl.1 rfl (Nat.le_of_ble_eq_true rfl) dX7_count_64 ⟨Nat.zero_le _, Nat.zero_le _⟩ hS (AC_le hS.1) (fun H locs hP hS hk1 => ?_)
      exact W.iret (v := r5) hx hb hr (fun T hT hW => ⟨⟨r5, σ, rfl, ⟨congrArg Prod.fst (Option.some.inj hm), congrArg Prod.snd (Option.some.inj hm)⟩, by rw [posW, hT]; exact hP⟩, hS.F hT⟩) hS.2.2 dX7_count_67
    · have hm := (if_neg c4).symm.trans hm
      have sc4 := sw_ne (k := 1) c4 rfl
      by_cases c7 : p1 = 2
      · have hm := (if_pos c7).symm.trans hm
        refine lv_tableIn (tgt := 68) hx hb dX7_count_1 (by rw [c7]; decide) (by rw [c7]; decide) (by rw [c7]; rfl) (by decide) ?_
        refine lv_aload_n hx hb dX7_count_68 rfl (lv_at hl 0 rfl) ?_
        refine gfX7_paper hx hb h_X7 hown hK hP l_f28 dX7_count_69 ?_
        obtain ⟨r8, h9, hm⟩ := ok_bind hm
        refine calV_i (As := []) (rest := []) ⟨hx, hb, hml, hown, hts⟩ (kX2_size l D y a t hI _ σ r8 h9) (cwV 0 hts (gAV aM_X7_145 aI_X2_size aS_X2_size aN_X2 aC_X2_size) rfl rfl rfl eX2_size ⟨Nat.le_of_ble_eq_true rfl, Nat.le_of_ble_eq_true rfl⟩) (preV_W (ci := 2) (q := (RX2, TX2, 6)) hK hP hF hS rfl (wC_3 y a σ)) rfl hl.1 rfl (Nat.le_of_ble_eq_true rfl) dX7_count_72 ⟨Nat.zero_le _, Nat.zero_le _⟩ hS (AC_le hS.1) (fun H locs hP hS hk1 => ?_)
        exact W.iret (v := r8) hx hb hr (fun T hT hW => ⟨⟨r8, σ, rfl, ⟨congrArg Prod.fst (Option.some.inj hm), congrArg Prod.snd (Option.some.inj hm)⟩, by rw [posW, hT]; exact hP⟩, hS.F hT⟩) hS.2.2 dX7_count_75
      · have hm := (if_neg c7).symm.trans hm
        have sc7 := sw_ne (k := 2) c7 rfl
        by_cases c10 : p1 = 3
        · have hm := (if_pos c10).symm.trans hm
          refine lv_tableIn (tgt := 76) hx hb dX7_count_1 (by rw [c10]; decide) (by rw [c10]; decide) (by rw [c10]; rfl) (by decide) ?_
          refine lv_aload_n hx hb dX7_count_76 rfl (lv_at hl 0 rfl) ?_
          refine gfX7_proof hx hb h_X7 hown hK hP l_f44 dX7_count_77 ?_
          obtain ⟨r11, h12, hm⟩ := ok_bind hm
          refine calV_i (As := []) (rest := []) ⟨hx, hb, hml, hown, hts⟩ (kX3_lineCount l D y a t hI _ σ r11 h12) (cwV 0 hts (gAV aM_X7_151 aI_X3_lineCount aS_X3_lineCount aN_X3 aC_X3_lineCount) rfl rfl rfl eX3_lineCount ⟨Nat.le_of_ble_eq_true rfl, Nat.le_of_ble_eq_true rfl⟩) (preV_W (ci := 3) (q := (RX3, TX3, 12)) hK hP hF hS rfl (wC_5 y a σ)) rfl hl.1 rfl (Nat.le_of_ble_eq_true rfl) dX7_count_80 ⟨Nat.zero_le _, Nat.zero_le _⟩ hS (AC_le hS.1) (fun H locs hP hS hk1 => ?_)
          exact W.iret (v := r11) hx hb hr (fun T hT hW => ⟨⟨r11, σ, rfl, ⟨congrArg Prod.fst (Option.some.inj hm), congrArg Prod.snd (Option.some.inj hm)⟩, by rw [posW, hT]; exact hP⟩, hS.F hT⟩) hS.2.2 dX7_count_83
        · have hm := (if_neg c10).symm.trans hm
          have sc10 := sw_ne (k := 3) c10 rfl
          by_cases c13 : p1 = 4
          · have hm := (if_pos c13).symm.trans hm
            refine lv_tableIn (tgt := 84) hx hb dX7_count_1 (by rw [c13]; decide) (by rw [c13]; decide) (by rw [c13]; rfl) (by decide) ?_
            refine lv_aload_n hx hb dX7_count_84 rfl (lv_at hl 0 rfl) ?_
            refine gfX7_proof hx hb h_X7 hown hK hP l_f44 dX7_count_85 ?_
            obtain ⟨r14, h15, hm⟩ := ok_bind hm
            refine calV_i (As := []) (rest := []) ⟨hx, hb, hml, hown, hts⟩ (kX3_boxCount l D y a t hI _ σ r14 h15) (cwV 0 hts (gAV aM_X7_201 aI_X3_boxCount aS_X3_boxCount aN_X3 aC_X3_boxCount) rfl rfl rfl eX3_boxCount ⟨Nat.le_of_ble_eq_true rfl, Nat.le_of_ble_eq_true rfl⟩) (preV_W (ci := 3) (q := (RX3, TX3, 12)) hK hP hF hS rfl (wC_5 y a σ)) rfl hl.1 rfl (Nat.le_of_ble_eq_true rfl) dX7_count_88 ⟨Nat.zero_le _, Nat.zero_le _⟩ hS (AC_le hS.1) (fun H locs hP hS hk1 => ?_)
            exact W.iret (v := r14) hx hb hr (fun T hT hW => ⟨⟨r14, σ, rfl, ⟨congrArg Prod.fst (Option.some.inj hm), congrArg Prod.snd (Option.some.inj hm)⟩, by rw [posW, hT]; exact hP⟩, hS.F hT⟩) hS.2.2 dX7_count_91
          · have hm := (if_neg c13).symm.trans hm
            have sc13 := sw_ne (k := 4) c13 rfl
            by_cases c16 : p1 = 5
            · have hm := (if_pos c16).symm.trans hm
              refine lv_tableIn (tgt := 92) hx hb dX7_count_1 (by rw [c16]; decide) (by rw [c16]; decide) (by rw [c16]; rfl) (by decide) ?_
              refine lv_aload_n hx hb dX7_count_92 rfl (lv_at hl 0 rfl) ?_
              refine gfX7_proof hx hb h_X7 hown hK hP l_f44 dX7_count_93 ?_
              obtain ⟨r17, h18, hm⟩ := ok_bind hm
              refine calV_i (As := []) (rest := []) ⟨hx, hb, hml, hown, hts⟩ (kX3_openCount l D y a t hI _ σ r17 h18) (cwV 0 hts (gAV aM_X7_166 aI_X3_openCount aS_X3_openCount aN_X3 aC_X3_openCount) rfl rfl rfl eX3_openCount ⟨Nat.le_of_ble_eq_true rfl, Nat.le_of_ble_eq_true rfl⟩) (preV_W (ci := 3) (q := (RX3, TX3, 12)) hK hP hF hS rfl (wC_5 y a σ)) rfl hl.1 rfl (Nat.le_of_ble_eq_true rfl) dX7_count_96 ⟨Nat.zero_le _, Nat.zero_le _⟩ hS (AC_le hS.1) (fun H locs hP hS hk1 => ?_)
              exact W.iret (v := r17) hx hb hr (fun T hT hW => ⟨⟨r17, σ, rfl, ⟨congrArg Prod.fst (Option.some.inj hm), congrArg Prod.snd (Option.some.inj hm)⟩, by rw [posW, hT]; exact hP⟩, hS.F hT⟩) hS.2.2 dX7_count_99
            · have hm := (if_neg c16).symm.trans hm
              have sc16 := sw_ne (k := 5) c16 rfl
              by_cases c19 : p1 = 6
              · have hm := (if_pos c19).symm.trans hm
                refine lv_tableIn (tgt := 100) hx hb dX7_count_1 (by rw [c19]; decide) (by rw [c19]; decide) (by rw [c19]; rfl) (by decide) ?_
                refine lv_aload_n hx hb dX7_count_100 rfl (lv_at hl 0 rfl) ?_
                refine gfX7_proof hx hb h_X7 hown hK hP l_f44 dX7_count_101 ?_
                obtain ⟨r20, h21, hm⟩ := ok_bind hm
                refine calV_i (As := []) (rest := []) ⟨hx, hb, hml, hown, hts⟩ (kX3_premiseCount l D y a t hI _ σ r20 h21) (cwV 0 hts (gAV aM_X7_157 aI_X3_premiseCount aS_X3_premiseCount aN_X3 aC_X3_premiseCount) rfl rfl rfl eX3_premiseCount ⟨Nat.le_of_ble_eq_true rfl, Nat.le_of_ble_eq_true rfl⟩) (preV_W (ci := 3) (q := (RX3, TX3, 12)) hK hP hF hS rfl (wC_5 y a σ)) rfl hl.1 rfl (Nat.le_of_ble_eq_true rfl) dX7_count_104 ⟨Nat.zero_le _, Nat.zero_le _⟩ hS (AC_le hS.1) (fun H locs hP hS hk1 => ?_)
                exact W.iret (v := r20) hx hb hr (fun T hT hW => ⟨⟨r20, σ, rfl, ⟨congrArg Prod.fst (Option.some.inj hm), congrArg Prod.snd (Option.some.inj hm)⟩, by rw [posW, hT]; exact hP⟩, hS.F hT⟩) hS.2.2 dX7_count_107
              · have hm := (if_neg c19).symm.trans hm
                have sc19 := sw_ne (k := 6) c19 rfl
                by_cases c22 : p1 = 7
                · have hm := (if_pos c22).symm.trans hm
                  refine lv_tableIn (tgt := 108) hx hb dX7_count_1 (by rw [c22]; decide) (by rw [c22]; decide) (by rw [c22]; rfl) (by decide) ?_
                  refine lv_aload_n hx hb dX7_count_108 rfl (lv_at hl 0 rfl) ?_
                  refine gfX7_theorems hx hb h_X7 hown hK hP l_f35 dX7_count_109 ?_
                  obtain ⟨r23, h24, hm⟩ := ok_bind hm
                  refine calV_i (As := []) (rest := []) ⟨hx, hb, hml, hown, hts⟩ (kX6_known l D y a t hI _ σ r23 h24) (cwV 0 hts (gAV aM_X7_204 aI_X6_known aS_X6_known aN_X6 aC_X6_known) rfl rfl rfl eX6_known ⟨Nat.le_of_ble_eq_true rfl, Nat.le_of_ble_eq_true rfl⟩) (preV_W (ci := 6) (q := (RX6, TX6, 9)) hK hP hF hS rfl (wC_4 y a σ)) rfl hl.1 rfl (Nat.le_of_ble_eq_true rfl) dX7_count_112 ⟨Nat.zero_le _, Nat.zero_le _⟩ hS (AC_le hS.1) (fun H locs hP hS hk1 => ?_)
                  exact W.iret (v := r23) hx hb hr (fun T hT hW => ⟨⟨r23, σ, rfl, ⟨congrArg Prod.fst (Option.some.inj hm), congrArg Prod.snd (Option.some.inj hm)⟩, by rw [posW, hT]; exact hP⟩, hS.F hT⟩) hS.2.2 dX7_count_115
                · have hm := (if_neg c22).symm.trans hm
                  have sc22 := sw_ne (k := 7) c22 rfl
                  by_cases c25 : p1 = 8
                  · have hm := (if_pos c25).symm.trans hm
                    refine lv_tableIn (tgt := 116) hx hb dX7_count_1 (by rw [c25]; decide) (by rw [c25]; decide) (by rw [c25]; rfl) (by decide) ?_
                    refine lv_aload_n hx hb dX7_count_116 rfl (lv_at hl 0 rfl) ?_
                    refine gfX7_proof hx hb h_X7 hown hK hP l_f44 dX7_count_117 ?_
                    obtain ⟨⟨r26, s28⟩, h27, hm⟩ := ok_bind hm
                    refine calV_i (As := []) (rest := []) ⟨hx, hb, hml, hown, hts⟩ (kX3_neededCount l D y a t hI _ σ s28 r26 h27) (cwV 0 hts (gAV aM_X7_205 aI_X3_neededCount aS_X3_neededCount aN_X3 aC_X3_neededCount) rfl rfl rfl eX3_neededCount ⟨Nat.le_of_ble_eq_true rfl, Nat.le_of_ble_eq_true rfl⟩) (preV_W (ci := 3) (q := (RX3, TX3, 12)) hK hP hF hS rfl (wC_5 y a σ)) rfl hl.1 rfl (Nat.le_of_ble_eq_true rfl) dX7_count_120 ⟨Nat.zero_le _, Nat.zero_le _⟩ hS (AC_le hS.1) (fun H locs hP hS hk1 => ?_)
                    exact W.iret (v := r26) hx hb hr (fun T hT hW => ⟨⟨r26, s28, rfl, ⟨congrArg Prod.fst (Option.some.inj hm), congrArg Prod.snd (Option.some.inj hm)⟩, by rw [posW, hT]; exact hP⟩, hS.F hT⟩) hS.2.2 dX7_count_123
                  · have hm := (if_neg c25).symm.trans hm
                    have sc25 := sw_ne (k := 8) c25 rfl
                    refine lv_tableOut (tgt := 124) hx hb dX7_count_1 (by omega) (by decide) ?_
                    cases hm
theorem eX7_line : yX7_line.cls = RX7 ∧ yX7_line.cls ≠ "java/lang/invoke/MethodHandle" ∧ yX7_line.cls ≠ "java/lang/invoke/VarHandle" ∧ (parseMethodDescriptor yX7_line.desc).map (fun d => d.parameters.length) = some 2 := by decide +kernel
def mX7_line (σ : St) (p1 : Int32) (p2 : Int32) : Option (Int32 × St) :=
if p1 < 0 then (
none)
else (
(mX3_lineCount σ).bind fun r2 =>
if r2 ≤ p1 then (
none)
else (
if p2 < 0 then (
none)
else (
if p2 ≤ 7 then (
if p2 = 0 then (
(mX3_formulaOf σ p1).bind fun r8 =>
some (r8, σ))
else (
if p2 = 1 then (
(mX3_ruleOf σ p1).bind fun r11 =>
some (r11, σ))
else (
if p2 = 2 then (
(mX3_reference σ p1 (p2 - 2)).bind fun r14 =>
some (r14, σ))
else (
if p2 = 3 then (
(mX3_reference σ p1 (p2 - 2)).bind fun r17 =>
some (r17, σ))
else (
if p2 = 4 then (
(mX3_reference σ p1 (p2 - 2)).bind fun r20 =>
some (r20, σ))
else (
if p2 = 5 then (
(mX3_boxOf σ p1).bind fun r23 =>
some (r23, σ))
else (
if p2 = 6 then (
(mX3_seesLine σ p1).bind fun r26 =>
if r26 = 0 then (
some (0, σ))
else (
some (1, σ)))
else (
if p2 = 7 then (
(mX3_isNeeded σ p1).bind fun ⟨r30, s32⟩ =>
if r30 = 0 then (
some (0, s32))
else (
some (1, s32)))
else (
(mX3_reference σ p1 (p2 - 2)).bind fun r34 =>
some (r34, σ))))))))))
else (
none))))
set_option maxHeartbeats 4000000 in
set_option maxRecDepth 100000 in
theorem kX7_line (l : Launch) (D : va_G) (y : Nat → ClassId) (a t : Nat → Nat) (hI : AI a 37) (sz : Nat) (σ τ : St) (p1 : Int32) (p2 : Int32) (r : Int32) (hm : mX7_line σ p1 p2 = some (r, τ)) : Met l yX7_line zX7_line { frames := 4, cells := 0, slots := 0, locals := 87 } (va_Pc [.ref (a 0), .int p1, .int p2] (preW (wC y a) a 37 D y t σ sz)) (va_Qi (fun r' u => r' = r ∧ u = τ) (posW (wC y a) D) (AC a 37 sz)) 0 0 (AC a 37 sz) := by
  refine Met.ofW (cc := cX7_line) (maxL := 3) (ret := (some .int)) (by decide) rfl ?_
  intro p e s m args below meth c s₁ B hml hv
  obtain ⟨rfl, hsz, hP, hK, hF⟩ := hv
  have hx := B.exec
  have hb := B.bytes
  have hr := B.returns
  have hts := atoms_spec (ws := zX7_line) B.pre
  have hown : s.vm.findClass RX7 = some m.cls := findClass_of_methodNamed B.named
  have hlocks := B.notSynchronized
  subst hsz
  have l_f44 := hts _ (List.mem_cons_of_mem _ aF_X7_44)
  have h_X7 : ∀ w ∈ wsX70, w.before _ s = true := fun w hw => hts w (List.mem_cons_of_mem _ (hwX7 w hw))
  have hS : va_S (AC a 37 s.heap.size) s.heap s.heap [] := va_S.rf
  have hl := lv_entry ([.ref (a 0), .int p1, .int p2]) (n := 3) (Nat.le_of_ble_eq_true rfl)
  rw [lg_entry_eq]
  generalize (lg_sl ([.ref (a 0), .int p1, .int p2]) ++ List.replicate (3 - (lg_sl ([.ref (a 0), .int p1, .int p2])).length) Slot.unset).toArray = ls at hl ⊢
  have hl : lv_has ls 3 [(0, .ref (a 0)), (1, .int p1), (2, .int p2)] := hl
  unfold mX7_line at hm
  refine lv_iload_n hx hb dX7_line_0 rfl (lv_at hl 1 rfl) ?_
  refine lv_if_lt (tgt := 25) hx hb dX7_line_1 (by decide) (fun c1 => ?_) (fun c1 => ?_)
  · have hm := (if_pos c1).symm.trans hm
    cases hm
  · have hm := (if_neg c1).symm.trans hm
    refine lv_iload_n hx hb dX7_line_4 rfl (lv_at hl 1 rfl) ?_
    refine lv_aload_n hx hb dX7_line_5 rfl (lv_at hl 0 rfl) ?_
    refine gfX7_proof hx hb h_X7 hown hK hP l_f44 dX7_line_6 ?_
    obtain ⟨r2, h3, hm⟩ := ok_bind hm
    refine calV_i (As := []) (rest := [.int p1]) ⟨hx, hb, hml, hown, hts⟩ (kX3_lineCount l D y a t hI _ σ r2 h3) (cwV 0 hts (gAV aM_X7_151 aI_X3_lineCount aS_X3_lineCount aN_X3 aC_X3_lineCount) rfl rfl rfl eX3_lineCount ⟨Nat.le_of_ble_eq_true rfl, Nat.le_of_ble_eq_true rfl⟩) (preV_W (ci := 3) (q := (RX3, TX3, 12)) hK hP hF hS rfl (wC_5 y a σ)) rfl hl.1 rfl (Nat.le_of_ble_eq_true rfl) dX7_line_9 ⟨Nat.zero_le _, Nat.zero_le _⟩ hS (AC_le hS.1) (fun H locs hP hS hk1 => ?_)
    refine lv_icmp_ge (tgt := 25) hx hb dX7_line_12 (by decide) (fun c4 => ?_) (fun c4 => ?_)
    · have hm := (if_pos c4).symm.trans hm
      cases hm
    · have hm := (if_neg c4).symm.trans hm
      refine lv_iload_n hx hb dX7_line_15 rfl (lv_at hl 2 rfl) ?_
      refine lv_if_lt (tgt := 25) hx hb dX7_line_16 (by decide) (fun c5 => ?_) (fun c5 => ?_)
      · have hm := (if_pos c5).symm.trans hm
        cases hm
      · have hm := (if_neg c5).symm.trans hm
        refine lv_iload_n hx hb dX7_line_19 rfl (lv_at hl 2 rfl) ?_
        refine lv_bipush (v := 7) hx hb dX7_line_20 (by decide) ?_
        refine lv_icmp_le (tgt := 35) hx hb dX7_line_22 (by decide) (fun c6 => ?_) (fun c6 => ?_)
        · have hm := (if_pos c6).symm.trans hm
          refine lv_iload_n hx hb dX7_line_35 rfl (lv_at hl 2 rfl) ?_
          by_cases c7 : p2 = 0
          · have hm := (if_pos c7).symm.trans hm
            refine lv_tableIn (tgt := 84) hx hb dX7_line_36 (by rw [c7]; decide) (by rw [c7]; decide) (by rw [c7]; rfl) (by decide) ?_
            refine lv_aload_n hx hb dX7_line_84 rfl (lv_at hl 0 rfl) ?_
            refine gfX7_proof hx hb h_X7 hown hK hP l_f44 dX7_line_85 ?_
            refine lv_iload_n hx hb dX7_line_88 rfl (lv_at hl 1 rfl) ?_
            obtain ⟨r8, h9, hm⟩ := ok_bind hm
            refine calV_i (As := [.int p1]) (rest := []) ⟨hx, hb, hml, hown, hts⟩ (kX3_formulaOf l D y a t hI _ σ p1 r8 h9) (cwV 1 hts (gAV aM_X7_212 aI_X3_formulaOf aS_X3_formulaOf aN_X3 aC_X3_formulaOf) rfl rfl rfl eX3_formulaOf ⟨Nat.le_of_ble_eq_true rfl, Nat.le_of_ble_eq_true rfl⟩) (preV_W (ci := 3) (q := (RX3, TX3, 12)) hK hP hF hS rfl (wC_5 y a σ)) rfl hl.1 rfl (Nat.le_of_ble_eq_true rfl) dX7_line_89 ⟨Nat.zero_le _, Nat.zero_le _⟩ hS (AC_le hS.1) (fun H locs hP hS hk1 => ?_)
            exact W.iret (v := r8) hx hb hr (fun T hT hW => ⟨⟨r8, σ, rfl, ⟨congrArg Prod.fst (Option.some.inj hm), congrArg Prod.snd (Option.some.inj hm)⟩, by rw [posW, hT]; exact hP⟩, hS.F hT⟩) hS.2.2 dX7_line_92
          · have hm := (if_neg c7).symm.trans hm
            have sc7 := sw_ne (k := 0) c7 rfl
            by_cases c10 : p2 = 1
            · have hm := (if_pos c10).symm.trans hm
              refine lv_tableIn (tgt := 93) hx hb dX7_line_36 (by rw [c10]; decide) (by rw [c10]; decide) (by rw [c10]; rfl) (by decide) ?_
              refine lv_aload_n hx hb dX7_line_93 rfl (lv_at hl 0 rfl) ?_
              refine gfX7_proof hx hb h_X7 hown hK hP l_f44 dX7_line_94 ?_
              refine lv_iload_n hx hb dX7_line_97 rfl (lv_at hl 1 rfl) ?_
              obtain ⟨r11, h12, hm⟩ := ok_bind hm
              refine calV_i (As := [.int p1]) (rest := []) ⟨hx, hb, hml, hown, hts⟩ (kX3_ruleOf l D y a t hI _ σ p1 r11 h12) (cwV 1 hts (gAV aM_X7_215 aI_X3_ruleOf aS_X3_ruleOf aN_X3 aC_X3_ruleOf) rfl rfl rfl eX3_ruleOf ⟨Nat.le_of_ble_eq_true rfl, Nat.le_of_ble_eq_true rfl⟩) (preV_W (ci := 3) (q := (RX3, TX3, 12)) hK hP hF hS rfl (wC_5 y a σ)) rfl hl.1 rfl (Nat.le_of_ble_eq_true rfl) dX7_line_98 ⟨Nat.zero_le _, Nat.zero_le _⟩ hS (AC_le hS.1) (fun H locs hP hS hk1 => ?_)
              exact W.iret (v := r11) hx hb hr (fun T hT hW => ⟨⟨r11, σ, rfl, ⟨congrArg Prod.fst (Option.some.inj hm), congrArg Prod.snd (Option.some.inj hm)⟩, by rw [posW, hT]; exact hP⟩, hS.F hT⟩) hS.2.2 dX7_line_101
            · have hm := (if_neg c10).symm.trans hm
              have sc10 := sw_ne (k := 1) c10 rfl
              by_cases c13 : p2 = 2
              · have hm := (if_pos c13).symm.trans hm
                refine lv_tableIn (tgt := 145) hx hb dX7_line_36 (by rw [c13]; decide) (by rw [c13]; decide) (by rw [c13]; rfl) (by decide) ?_
                refine lv_aload_n hx hb dX7_line_145 rfl (lv_at hl 0 rfl) ?_
                refine gfX7_proof hx hb h_X7 hown hK hP l_f44 dX7_line_146 ?_
                refine lv_iload_n hx hb dX7_line_149 rfl (lv_at hl 1 rfl) ?_
                refine lv_iload_n hx hb dX7_line_150 rfl (lv_at hl 2 rfl) ?_
                refine lv_iconst (v := 2) hx hb dX7_line_151 (by decide) ?_
                refine lv_isub hx hb dX7_line_152 ?_
                obtain ⟨r14, h15, hm⟩ := ok_bind hm
                refine calV_i (As := [.int p1, .int (p2 - 2)]) (rest := []) ⟨hx, hb, hml, hown, hts⟩ (kX3_reference l D y a t hI _ σ p1 (p2 - 2) r14 h15) (cwV 2 hts (gAV aM_X7_227 aI_X3_reference aS_X3_reference aN_X3 aC_X3_reference) rfl rfl rfl eX3_reference ⟨Nat.le_of_ble_eq_true rfl, Nat.le_of_ble_eq_true rfl⟩) (preV_W (ci := 3) (q := (RX3, TX3, 12)) hK hP hF hS rfl (wC_5 y a σ)) rfl hl.1 rfl (Nat.le_of_ble_eq_true rfl) dX7_line_153 ⟨Nat.zero_le _, Nat.zero_le _⟩ hS (AC_le hS.1) (fun H locs hP hS hk1 => ?_)
                exact W.iret (v := r14) hx hb hr (fun T hT hW => ⟨⟨r14, σ, rfl, ⟨congrArg Prod.fst (Option.some.inj hm), congrArg Prod.snd (Option.some.inj hm)⟩, by rw [posW, hT]; exact hP⟩, hS.F hT⟩) hS.2.2 dX7_line_156
              · have hm := (if_neg c13).symm.trans hm
                have sc13 := sw_ne (k := 2) c13 rfl
                by_cases c16 : p2 = 3
                · have hm := (if_pos c16).symm.trans hm
                  refine lv_tableIn (tgt := 145) hx hb dX7_line_36 (by rw [c16]; decide) (by rw [c16]; decide) (by rw [c16]; rfl) (by decide) ?_
                  refine lv_aload_n hx hb dX7_line_145 rfl (lv_at hl 0 rfl) ?_
                  refine gfX7_proof hx hb h_X7 hown hK hP l_f44 dX7_line_146 ?_
                  refine lv_iload_n hx hb dX7_line_149 rfl (lv_at hl 1 rfl) ?_
                  refine lv_iload_n hx hb dX7_line_150 rfl (lv_at hl 2 rfl) ?_
                  refine lv_iconst (v := 2) hx hb dX7_line_151 (by decide) ?_
                  refine lv_isub hx hb dX7_line_152 ?_
                  obtain ⟨r17, h18, hm⟩ := ok_bind hm
                  refine calV_i (As := [.int p1, .int (p2 - 2)]) (rest := []) ⟨hx, hb, hml, hown, hts⟩ (kX3_reference l D y a t hI _ σ p1 (p2 - 2) r17 h18) (cwV 2 hts (gAV aM_X7_227 aI_X3_reference aS_X3_reference aN_X3 aC_X3_reference) rfl rfl rfl eX3_reference ⟨Nat.le_of_ble_eq_true rfl, Nat.le_of_ble_eq_true rfl⟩) (preV_W (ci := 3) (q := (RX3, TX3, 12)) hK hP hF hS rfl (wC_5 y a σ)) rfl hl.1 rfl (Nat.le_of_ble_eq_true rfl) dX7_line_153 ⟨Nat.zero_le _, Nat.zero_le _⟩ hS (AC_le hS.1) (fun H locs hP hS hk1 => ?_)
                  exact W.iret (v := r17) hx hb hr (fun T hT hW => ⟨⟨r17, σ, rfl, ⟨congrArg Prod.fst (Option.some.inj hm), congrArg Prod.snd (Option.some.inj hm)⟩, by rw [posW, hT]; exact hP⟩, hS.F hT⟩) hS.2.2 dX7_line_156
                · have hm := (if_neg c16).symm.trans hm
                  have sc16 := sw_ne (k := 3) c16 rfl
                  by_cases c19 : p2 = 4
                  · have hm := (if_pos c19).symm.trans hm
                    refine lv_tableIn (tgt := 145) hx hb dX7_line_36 (by rw [c19]; decide) (by rw [c19]; decide) (by rw [c19]; rfl) (by decide) ?_
                    refine lv_aload_n hx hb dX7_line_145 rfl (lv_at hl 0 rfl) ?_
                    refine gfX7_proof hx hb h_X7 hown hK hP l_f44 dX7_line_146 ?_
                    refine lv_iload_n hx hb dX7_line_149 rfl (lv_at hl 1 rfl) ?_
                    refine lv_iload_n hx hb dX7_line_150 rfl (lv_at hl 2 rfl) ?_
                    refine lv_iconst (v := 2) hx hb dX7_line_151 (by decide) ?_
                    refine lv_isub hx hb dX7_line_152 ?_
                    obtain ⟨r20, h21, hm⟩ := ok_bind hm
                    refine calV_i (As := [.int p1, .int (p2 - 2)]) (rest := []) ⟨hx, hb, hml, hown, hts⟩ (kX3_reference l D y a t hI _ σ p1 (p2 - 2) r20 h21) (cwV 2 hts (gAV aM_X7_227 aI_X3_reference aS_X3_reference aN_X3 aC_X3_reference) rfl rfl rfl eX3_reference ⟨Nat.le_of_ble_eq_true rfl, Nat.le_of_ble_eq_true rfl⟩) (preV_W (ci := 3) (q := (RX3, TX3, 12)) hK hP hF hS rfl (wC_5 y a σ)) rfl hl.1 rfl (Nat.le_of_ble_eq_true rfl) dX7_line_153 ⟨Nat.zero_le _, Nat.zero_le _⟩ hS (AC_le hS.1) (fun H locs hP hS hk1 => ?_)
                    exact W.iret (v := r20) hx hb hr (fun T hT hW => ⟨⟨r20, σ, rfl, ⟨congrArg Prod.fst (Option.some.inj hm), congrArg Prod.snd (Option.some.inj hm)⟩, by rw [posW, hT]; exact hP⟩, hS.F hT⟩) hS.2.2 dX7_line_156
                  · have hm := (if_neg c19).symm.trans hm
                    have sc19 := sw_ne (k := 4) c19 rfl
                    by_cases c22 : p2 = 5
                    · have hm := (if_pos c22).symm.trans hm
                      refine lv_tableIn (tgt := 102) hx hb dX7_line_36 (by rw [c22]; decide) (by rw [c22]; decide) (by rw [c22]; rfl) (by decide) ?_
                      refine lv_aload_n hx hb dX7_line_102 rfl (lv_at hl 0 rfl) ?_
                      refine gfX7_proof hx hb h_X7 hown hK hP l_f44 dX7_line_103 ?_
                      refine lv_iload_n hx hb dX7_line_106 rfl (lv_at hl 1 rfl) ?_
                      obtain ⟨r23, h24, hm⟩ := ok_bind hm
                      refine calV_i (As := [.int p1]) (rest := []) ⟨hx, hb, hml, hown, hts⟩ (kX3_boxOf l D y a t hI _ σ p1 r23 h24) (cwV 1 hts (gAV aM_X7_218 aI_X3_boxOf aS_X3_boxOf aN_X3 aC_X3_boxOf) rfl rfl rfl eX3_boxOf ⟨Nat.le_of_ble_eq_true rfl, Nat.le_of_ble_eq_true rfl⟩) (preV_W (ci := 3) (q := (RX3, TX3, 12)) hK hP hF hS rfl (wC_5 y a σ)) rfl hl.1 rfl (Nat.le_of_ble_eq_true rfl) dX7_line_107 ⟨Nat.zero_le _, Nat.zero_le _⟩ hS (AC_le hS.1) (fun H locs hP hS hk1 => ?_)
                      exact W.iret (v := r23) hx hb hr (fun T hT hW => ⟨⟨r23, σ, rfl, ⟨congrArg Prod.fst (Option.some.inj hm), congrArg Prod.snd (Option.some.inj hm)⟩, by rw [posW, hT]; exact hP⟩, hS.F hT⟩) hS.2.2 dX7_line_110
                    · have hm := (if_neg c22).symm.trans hm
                      have sc22 := sw_ne (k := 5) c22 rfl
                      by_cases c25 : p2 = 6
                      · have hm := (if_pos c25).symm.trans hm
                        refine lv_tableIn (tgt := 111) hx hb dX7_line_36 (by rw [c25]; decide) (by rw [c25]; decide) (by rw [c25]; rfl) (by decide) ?_
                        refine lv_aload_n hx hb dX7_line_111 rfl (lv_at hl 0 rfl) ?_
                        refine gfX7_proof hx hb h_X7 hown hK hP l_f44 dX7_line_112 ?_
                        refine lv_iload_n hx hb dX7_line_115 rfl (lv_at hl 1 rfl) ?_
                        obtain ⟨r26, h27, hm⟩ := ok_bind hm
                        refine calV_i (As := [.int p1]) (rest := []) ⟨hx, hb, hml, hown, hts⟩ (kX3_seesLine l D y a t hI _ σ p1 r26 h27) (cwV 1 hts (gAV aM_X7_221 aI_X3_seesLine aS_X3_seesLine aN_X3 aC_X3_seesLine) rfl rfl rfl eX3_seesLine ⟨Nat.le_of_ble_eq_true rfl, Nat.le_of_ble_eq_true rfl⟩) (preV_W (ci := 3) (q := (RX3, TX3, 12)) hK hP hF hS rfl (wC_5 y a σ)) rfl hl.1 rfl (Nat.le_of_ble_eq_true rfl) dX7_line_116 ⟨Nat.zero_le _, Nat.zero_le _⟩ hS (AC_le hS.1) (fun H locs hP hS hk1 => ?_)
                        refine lv_if_eq (tgt := 126) hx hb dX7_line_119 (by decide) (fun c28 => ?_) (fun c28 => ?_)
                        · have hm := (if_pos c28).symm.trans hm
                          refine lv_iconst (v := 0) hx hb dX7_line_126 (by decide) ?_
                          exact W.iret (v := 0) hx hb hr (fun T hT hW => ⟨⟨0, σ, rfl, ⟨congrArg Prod.fst (Option.some.inj hm), congrArg Prod.snd (Option.some.inj hm)⟩, by rw [posW, hT]; exact hP⟩, hS.F hT⟩) hS.2.2 dX7_line_127
                        · have hm := (if_neg c28).symm.trans hm
                          refine lv_iconst (v := 1) hx hb dX7_line_122 (by decide) ?_
                          refine lv_goto (tgt := 127) hx hb dX7_line_123 (by decide) ?_
                          exact W.iret (v := 1) hx hb hr (fun T hT hW => ⟨⟨1, σ, rfl, ⟨congrArg Prod.fst (Option.some.inj hm), congrArg Prod.snd (Option.some.inj hm)⟩, by rw [posW, hT]; exact hP⟩, hS.F hT⟩) hS.2.2 dX7_line_127
                      · have hm := (if_neg c25).symm.trans hm
                        have sc25 := sw_ne (k := 6) c25 rfl
                        by_cases c29 : p2 = 7
                        · have hm := (if_pos c29).symm.trans hm
                          refine lv_tableIn (tgt := 128) hx hb dX7_line_36 (by rw [c29]; decide) (by rw [c29]; decide) (by rw [c29]; rfl) (by decide) ?_
                          refine lv_aload_n hx hb dX7_line_128 rfl (lv_at hl 0 rfl) ?_
                          refine gfX7_proof hx hb h_X7 hown hK hP l_f44 dX7_line_129 ?_
                          refine lv_iload_n hx hb dX7_line_132 rfl (lv_at hl 1 rfl) ?_
                          obtain ⟨⟨r30, s32⟩, h31, hm⟩ := ok_bind hm
                          refine calV_i (As := [.int p1]) (rest := []) ⟨hx, hb, hml, hown, hts⟩ (kX3_isNeeded l D y a t hI _ σ s32 p1 r30 h31) (cwV 1 hts (gAV aM_X7_224 aI_X3_isNeeded aS_X3_isNeeded aN_X3 aC_X3_isNeeded) rfl rfl rfl eX3_isNeeded ⟨Nat.le_of_ble_eq_true rfl, Nat.le_of_ble_eq_true rfl⟩) (preV_W (ci := 3) (q := (RX3, TX3, 12)) hK hP hF hS rfl (wC_5 y a σ)) rfl hl.1 rfl (Nat.le_of_ble_eq_true rfl) dX7_line_133 ⟨Nat.zero_le _, Nat.zero_le _⟩ hS (AC_le hS.1) (fun H locs hP hS hk1 => ?_)
                          refine lv_if_eq (tgt := 143) hx hb dX7_line_136 (by decide) (fun c33 => ?_) (fun c33 => ?_)
                          · have hm := (if_pos c33).symm.trans hm
                            refine lv_iconst (v := 0) hx hb dX7_line_143 (by decide) ?_
                            exact W.iret (v := 0) hx hb hr (fun T hT hW => ⟨⟨0, s32, rfl, ⟨congrArg Prod.fst (Option.some.inj hm), congrArg Prod.snd (Option.some.inj hm)⟩, by rw [posW, hT]; exact hP⟩, hS.F hT⟩) hS.2.2 dX7_line_144
                          · have hm := (if_neg c33).symm.trans hm
                            refine lv_iconst (v := 1) hx hb dX7_line_139 (by decide) ?_
                            refine lv_goto (tgt := 144) hx hb dX7_line_140 (by decide) ?_
                            exact W.iret (v := 1) hx hb hr (fun T hT hW => ⟨⟨1, s32, rfl, ⟨congrArg Prod.fst (Option.some.inj hm), congrArg Prod.snd (Option.some.inj hm)⟩, by rw [posW, hT]; exact hP⟩, hS.F hT⟩) hS.2.2 dX7_line_144
                        · have hm := (if_neg c29).symm.trans hm
                          have sc29 := sw_ne (k := 7) c29 rfl
                          refine lv_tableOut (tgt := 145) hx hb dX7_line_36 (by omega) (by decide) ?_
                          refine lv_aload_n hx hb dX7_line_145 rfl (lv_at hl 0 rfl) ?_
                          refine gfX7_proof hx hb h_X7 hown hK hP l_f44 dX7_line_146 ?_
                          refine lv_iload_n hx hb dX7_line_149 rfl (lv_at hl 1 rfl) ?_
                          refine lv_iload_n hx hb dX7_line_150 rfl (lv_at hl 2 rfl) ?_
                          refine lv_iconst (v := 2) hx hb dX7_line_151 (by decide) ?_
                          refine lv_isub hx hb dX7_line_152 ?_
                          obtain ⟨r34, h35, hm⟩ := ok_bind hm
                          refine calV_i (As := [.int p1, .int (p2 - 2)]) (rest := []) ⟨hx, hb, hml, hown, hts⟩ (kX3_reference l D y a t hI _ σ p1 (p2 - 2) r34 h35) (cwV 2 hts (gAV aM_X7_227 aI_X3_reference aS_X3_reference aN_X3 aC_X3_reference) rfl rfl rfl eX3_reference ⟨Nat.le_of_ble_eq_true rfl, Nat.le_of_ble_eq_true rfl⟩) (preV_W (ci := 3) (q := (RX3, TX3, 12)) hK hP hF hS rfl (wC_5 y a σ)) rfl hl.1 rfl (Nat.le_of_ble_eq_true rfl) dX7_line_153 ⟨Nat.zero_le _, Nat.zero_le _⟩ hS (AC_le hS.1) (fun H locs hP hS hk1 => ?_)
                          exact W.iret (v := r34) hx hb hr (fun T hT hW => ⟨⟨r34, σ, rfl, ⟨congrArg Prod.fst (Option.some.inj hm), congrArg Prod.snd (Option.some.inj hm)⟩, by rw [posW, hT]; exact hP⟩, hS.F hT⟩) hS.2.2 dX7_line_156
        · have hm := (if_neg c6).symm.trans hm
          cases hm
theorem eX7_box : yX7_box.cls = RX7 ∧ yX7_box.cls ≠ "java/lang/invoke/MethodHandle" ∧ yX7_box.cls ≠ "java/lang/invoke/VarHandle" ∧ (parseMethodDescriptor yX7_box.desc).map (fun d => d.parameters.length) = some 2 := by decide +kernel
def mX7_box (σ : St) (p1 : Int32) (p2 : Int32) : Option Int32 :=
if p1 < 0 then (
none)
else (
(mX3_boxCount σ).bind fun r2 =>
if r2 ≤ p1 then (
none)
else (
if p2 < 0 then (
none)
else (
if p2 ≤ 3 then (
if p2 = 0 then (
(mX3_firstLine σ p1).bind fun r8 =>
some r8)
else (
if p2 = 1 then (
(mX3_lastLine σ p1).bind fun r11 =>
some r11)
else (
if p2 = 2 then (
(mX3_outerBox σ p1).bind fun r14 =>
some r14)
else (
(mX3_seesBox σ p1).bind fun r16 =>
if r16 = 0 then (
some 0)
else (
some 1)))))
else (
none))))
set_option maxHeartbeats 4000000 in
set_option maxRecDepth 100000 in
theorem kX7_box (l : Launch) (D : va_G) (y : Nat → ClassId) (a t : Nat → Nat) (hI : AI a 37) (sz : Nat) (σ : St) (p1 : Int32) (p2 : Int32) (r : Int32) (hm : mX7_box σ p1 p2 = some r) : Met l yX7_box zX7_box { frames := 3, cells := 0, slots := 0, locals := 63 } (va_Pc [.ref (a 0), .int p1, .int p2] (preW (wC y a) a 37 D y t σ sz)) (va_Qi (fun r' u => r' = r ∧ u = σ) (posW (wC y a) D) (AC a 37 sz)) 0 0 (AC a 37 sz) := by
  refine Met.ofW (cc := cX7_box) (maxL := 3) (ret := (some .int)) (by decide) rfl ?_
  intro p e s m args below meth c s₁ B hml hv
  obtain ⟨rfl, hsz, hP, hK, hF⟩ := hv
  have hx := B.exec
  have hb := B.bytes
  have hr := B.returns
  have hts := atoms_spec (ws := zX7_box) B.pre
  have hown : s.vm.findClass RX7 = some m.cls := findClass_of_methodNamed B.named
  have hlocks := B.notSynchronized
  subst hsz
  have l_f44 := hts _ (List.mem_cons_of_mem _ aF_X7_44)
  have h_X7 : ∀ w ∈ wsX70, w.before _ s = true := fun w hw => hts w (List.mem_cons_of_mem _ (hwX7 w hw))
  have hS : va_S (AC a 37 s.heap.size) s.heap s.heap [] := va_S.rf
  have hl := lv_entry ([.ref (a 0), .int p1, .int p2]) (n := 3) (Nat.le_of_ble_eq_true rfl)
  rw [lg_entry_eq]
  generalize (lg_sl ([.ref (a 0), .int p1, .int p2]) ++ List.replicate (3 - (lg_sl ([.ref (a 0), .int p1, .int p2])).length) Slot.unset).toArray = ls at hl ⊢
  have hl : lv_has ls 3 [(0, .ref (a 0)), (1, .int p1), (2, .int p2)] := hl
  unfold mX7_box at hm
  refine lv_iload_n hx hb dX7_box_0 rfl (lv_at hl 1 rfl) ?_
  refine lv_if_lt (tgt := 24) hx hb dX7_box_1 (by decide) (fun c1 => ?_) (fun c1 => ?_)
  · have hm := (if_pos c1).symm.trans hm
    cases hm
  · have hm := (if_neg c1).symm.trans hm
    refine lv_iload_n hx hb dX7_box_4 rfl (lv_at hl 1 rfl) ?_
    refine lv_aload_n hx hb dX7_box_5 rfl (lv_at hl 0 rfl) ?_
    refine gfX7_proof hx hb h_X7 hown hK hP l_f44 dX7_box_6 ?_
    obtain ⟨r2, h3, hm⟩ := ok_bind hm
    refine calV_i (As := []) (rest := [.int p1]) ⟨hx, hb, hml, hown, hts⟩ (kX3_boxCount l D y a t hI _ σ r2 h3) (cwV 0 hts (gAV aM_X7_201 aI_X3_boxCount aS_X3_boxCount aN_X3 aC_X3_boxCount) rfl rfl rfl eX3_boxCount ⟨Nat.le_of_ble_eq_true rfl, Nat.le_of_ble_eq_true rfl⟩) (preV_W (ci := 3) (q := (RX3, TX3, 12)) hK hP hF hS rfl (wC_5 y a σ)) rfl hl.1 rfl (Nat.le_of_ble_eq_true rfl) dX7_box_9 ⟨Nat.zero_le _, Nat.zero_le _⟩ hS (AC_le hS.1) (fun H locs hP hS hk1 => ?_)
    refine lv_icmp_ge (tgt := 24) hx hb dX7_box_12 (by decide) (fun c4 => ?_) (fun c4 => ?_)
    · have hm := (if_pos c4).symm.trans hm
      cases hm
    · have hm := (if_neg c4).symm.trans hm
      refine lv_iload_n hx hb dX7_box_15 rfl (lv_at hl 2 rfl) ?_
      refine lv_if_lt (tgt := 24) hx hb dX7_box_16 (by decide) (fun c5 => ?_) (fun c5 => ?_)
      · have hm := (if_pos c5).symm.trans hm
        cases hm
      · have hm := (if_neg c5).symm.trans hm
        refine lv_iload_n hx hb dX7_box_19 rfl (lv_at hl 2 rfl) ?_
        refine lv_iconst (v := 3) hx hb dX7_box_20 (by decide) ?_
        refine lv_icmp_le (tgt := 34) hx hb dX7_box_21 (by decide) (fun c6 => ?_) (fun c6 => ?_)
        · have hm := (if_pos c6).symm.trans hm
          refine lv_iload_n hx hb dX7_box_34 rfl (lv_at hl 2 rfl) ?_
          by_cases c7 : p2 = 0
          · have hm := (if_pos c7).symm.trans hm
            refine lv_tableIn (tgt := 60) hx hb dX7_box_35 (by rw [c7]; decide) (by rw [c7]; decide) (by rw [c7]; rfl) (by decide) ?_
            refine lv_aload_n hx hb dX7_box_60 rfl (lv_at hl 0 rfl) ?_
            refine gfX7_proof hx hb h_X7 hown hK hP l_f44 dX7_box_61 ?_
            refine lv_iload_n hx hb dX7_box_64 rfl (lv_at hl 1 rfl) ?_
            obtain ⟨r8, h9, hm⟩ := ok_bind hm
            refine calV_i (As := [.int p1]) (rest := []) ⟨hx, hb, hml, hown, hts⟩ (kX3_firstLine l D y a t hI _ σ p1 r8 h9) (cwV 1 hts (gAV aM_X7_233 aI_X3_firstLine aS_X3_firstLine aN_X3 aC_X3_firstLine) rfl rfl rfl eX3_firstLine ⟨Nat.le_of_ble_eq_true rfl, Nat.le_of_ble_eq_true rfl⟩) (preV_W (ci := 3) (q := (RX3, TX3, 12)) hK hP hF hS rfl (wC_5 y a σ)) rfl hl.1 rfl (Nat.le_of_ble_eq_true rfl) dX7_box_65 ⟨Nat.zero_le _, Nat.zero_le _⟩ hS (AC_le hS.1) (fun H locs hP hS hk1 => ?_)
            exact W.iret (v := r8) hx hb hr (fun T hT hW => ⟨⟨r8, σ, rfl, ⟨Option.some.inj hm, rfl⟩, by rw [posW, hT]; exact hP⟩, hS.F hT⟩) hS.2.2 dX7_box_68
          · have hm := (if_neg c7).symm.trans hm
            have sc7 := sw_ne (k := 0) c7 rfl
            by_cases c10 : p2 = 1
            · have hm := (if_pos c10).symm.trans hm
              refine lv_tableIn (tgt := 69) hx hb dX7_box_35 (by rw [c10]; decide) (by rw [c10]; decide) (by rw [c10]; rfl) (by decide) ?_
              refine lv_aload_n hx hb dX7_box_69 rfl (lv_at hl 0 rfl) ?_
              refine gfX7_proof hx hb h_X7 hown hK hP l_f44 dX7_box_70 ?_
              refine lv_iload_n hx hb dX7_box_73 rfl (lv_at hl 1 rfl) ?_
              obtain ⟨r11, h12, hm⟩ := ok_bind hm
              refine calV_i (As := [.int p1]) (rest := []) ⟨hx, hb, hml, hown, hts⟩ (kX3_lastLine l D y a t hI _ σ p1 r11 h12) (cwV 1 hts (gAV aM_X7_236 aI_X3_lastLine aS_X3_lastLine aN_X3 aC_X3_lastLine) rfl rfl rfl eX3_lastLine ⟨Nat.le_of_ble_eq_true rfl, Nat.le_of_ble_eq_true rfl⟩) (preV_W (ci := 3) (q := (RX3, TX3, 12)) hK hP hF hS rfl (wC_5 y a σ)) rfl hl.1 rfl (Nat.le_of_ble_eq_true rfl) dX7_box_74 ⟨Nat.zero_le _, Nat.zero_le _⟩ hS (AC_le hS.1) (fun H locs hP hS hk1 => ?_)
              exact W.iret (v := r11) hx hb hr (fun T hT hW => ⟨⟨r11, σ, rfl, ⟨Option.some.inj hm, rfl⟩, by rw [posW, hT]; exact hP⟩, hS.F hT⟩) hS.2.2 dX7_box_77
            · have hm := (if_neg c10).symm.trans hm
              have sc10 := sw_ne (k := 1) c10 rfl
              by_cases c13 : p2 = 2
              · have hm := (if_pos c13).symm.trans hm
                refine lv_tableIn (tgt := 78) hx hb dX7_box_35 (by rw [c13]; decide) (by rw [c13]; decide) (by rw [c13]; rfl) (by decide) ?_
                refine lv_aload_n hx hb dX7_box_78 rfl (lv_at hl 0 rfl) ?_
                refine gfX7_proof hx hb h_X7 hown hK hP l_f44 dX7_box_79 ?_
                refine lv_iload_n hx hb dX7_box_82 rfl (lv_at hl 1 rfl) ?_
                obtain ⟨r14, h15, hm⟩ := ok_bind hm
                refine calV_i (As := [.int p1]) (rest := []) ⟨hx, hb, hml, hown, hts⟩ (kX3_outerBox l D y a t hI _ σ p1 r14 h15) (cwV 1 hts (gAV aM_X7_239 aI_X3_outerBox aS_X3_outerBox aN_X3 aC_X3_outerBox) rfl rfl rfl eX3_outerBox ⟨Nat.le_of_ble_eq_true rfl, Nat.le_of_ble_eq_true rfl⟩) (preV_W (ci := 3) (q := (RX3, TX3, 12)) hK hP hF hS rfl (wC_5 y a σ)) rfl hl.1 rfl (Nat.le_of_ble_eq_true rfl) dX7_box_83 ⟨Nat.zero_le _, Nat.zero_le _⟩ hS (AC_le hS.1) (fun H locs hP hS hk1 => ?_)
                exact W.iret (v := r14) hx hb hr (fun T hT hW => ⟨⟨r14, σ, rfl, ⟨Option.some.inj hm, rfl⟩, by rw [posW, hT]; exact hP⟩, hS.F hT⟩) hS.2.2 dX7_box_86
              · have hm := (if_neg c13).symm.trans hm
                have sc13 := sw_ne (k := 2) c13 rfl
                refine lv_tableOut (tgt := 87) hx hb dX7_box_35 (by omega) (by decide) ?_
                refine lv_aload_n hx hb dX7_box_87 rfl (lv_at hl 0 rfl) ?_
                refine gfX7_proof hx hb h_X7 hown hK hP l_f44 dX7_box_88 ?_
                refine lv_iload_n hx hb dX7_box_91 rfl (lv_at hl 1 rfl) ?_
                obtain ⟨r16, h17, hm⟩ := ok_bind hm
                refine calV_i (As := [.int p1]) (rest := []) ⟨hx, hb, hml, hown, hts⟩ (kX3_seesBox l D y a t hI _ σ p1 r16 h17) (cwV 1 hts (gAV aM_X7_242 aI_X3_seesBox aS_X3_seesBox aN_X3 aC_X3_seesBox) rfl rfl rfl eX3_seesBox ⟨Nat.le_of_ble_eq_true rfl, Nat.le_of_ble_eq_true rfl⟩) (preV_W (ci := 3) (q := (RX3, TX3, 12)) hK hP hF hS rfl (wC_5 y a σ)) rfl hl.1 rfl (Nat.le_of_ble_eq_true rfl) dX7_box_92 ⟨Nat.zero_le _, Nat.zero_le _⟩ hS (AC_le hS.1) (fun H locs hP hS hk1 => ?_)
                refine lv_if_eq (tgt := 102) hx hb dX7_box_95 (by decide) (fun c18 => ?_) (fun c18 => ?_)
                · have hm := (if_pos c18).symm.trans hm
                  refine lv_iconst (v := 0) hx hb dX7_box_102 (by decide) ?_
                  exact W.iret (v := 0) hx hb hr (fun T hT hW => ⟨⟨0, σ, rfl, ⟨Option.some.inj hm, rfl⟩, by rw [posW, hT]; exact hP⟩, hS.F hT⟩) hS.2.2 dX7_box_103
                · have hm := (if_neg c18).symm.trans hm
                  refine lv_iconst (v := 1) hx hb dX7_box_98 (by decide) ?_
                  refine lv_goto (tgt := 103) hx hb dX7_box_99 (by decide) ?_
                  exact W.iret (v := 1) hx hb hr (fun T hT hW => ⟨⟨1, σ, rfl, ⟨Option.some.inj hm, rfl⟩, by rw [posW, hT]; exact hP⟩, hS.F hT⟩) hS.2.2 dX7_box_103
        · have hm := (if_neg c6).symm.trans hm
          cases hm
theorem eX7_fails : yX7_fails.cls = RX7 ∧ yX7_fails.cls ≠ "java/lang/invoke/MethodHandle" ∧ yX7_fails.cls ≠ "java/lang/invoke/VarHandle" ∧ (parseMethodDescriptor yX7_fails.desc).map (fun d => d.parameters.length) = some 1 := by decide +kernel
def mX7_fails (σ : St) (p1 : Int32) : Option Int32 :=
if p1 < 0 then (
none)
else (
(mX3_lineCount σ).bind fun r2 =>
if p1 < r2 then (
(mX3_failures σ p1).bind fun r5 =>
some r5)
else (
none))
set_option maxHeartbeats 4000000 in
set_option maxRecDepth 100000 in
theorem kX7_fails (l : Launch) (D : va_G) (y : Nat → ClassId) (a t : Nat → Nat) (hI : AI a 37) (sz : Nat) (σ : St) (p1 : Int32) (r : Int32) (hm : mX7_fails σ p1 = some r) : Met l yX7_fails zX7_fails { frames := 4, cells := 0, slots := 0, locals := 92 } (va_Pc [.ref (a 0), .int p1] (preW (wC y a) a 37 D y t σ sz)) (va_Qi (fun r' u => r' = r ∧ u = σ) (posW (wC y a) D) (AC a 37 sz)) 0 0 (AC a 37 sz) := by
  refine Met.ofW (cc := cX7_fails) (maxL := 2) (ret := (some .int)) (by decide) rfl ?_
  intro p e s m args below meth c s₁ B hml hv
  obtain ⟨rfl, hsz, hP, hK, hF⟩ := hv
  have hx := B.exec
  have hb := B.bytes
  have hr := B.returns
  have hts := atoms_spec (ws := zX7_fails) B.pre
  have hown : s.vm.findClass RX7 = some m.cls := findClass_of_methodNamed B.named
  have hlocks := B.notSynchronized
  subst hsz
  have l_f44 := hts _ (List.mem_cons_of_mem _ aF_X7_44)
  have h_X7 : ∀ w ∈ wsX70, w.before _ s = true := fun w hw => hts w (List.mem_cons_of_mem _ (hwX7 w hw))
  have hS : va_S (AC a 37 s.heap.size) s.heap s.heap [] := va_S.rf
  have hl := lv_entry ([.ref (a 0), .int p1]) (n := 2) (Nat.le_of_ble_eq_true rfl)
  rw [lg_entry_eq]
  generalize (lg_sl ([.ref (a 0), .int p1]) ++ List.replicate (2 - (lg_sl ([.ref (a 0), .int p1])).length) Slot.unset).toArray = ls at hl ⊢
  have hl : lv_has ls 2 [(0, .ref (a 0)), (1, .int p1)] := hl
  unfold mX7_fails at hm
  refine lv_iload_n hx hb dX7_fails_0 rfl (lv_at hl 1 rfl) ?_
  refine lv_if_lt (tgt := 15) hx hb dX7_fails_1 (by decide) (fun c1 => ?_) (fun c1 => ?_)
  · have hm := (if_pos c1).symm.trans hm
    cases hm
  · have hm := (if_neg c1).symm.trans hm
    refine lv_iload_n hx hb dX7_fails_4 rfl (lv_at hl 1 rfl) ?_
    refine lv_aload_n hx hb dX7_fails_5 rfl (lv_at hl 0 rfl) ?_
    refine gfX7_proof hx hb h_X7 hown hK hP l_f44 dX7_fails_6 ?_
    obtain ⟨r2, h3, hm⟩ := ok_bind hm
    refine calV_i (As := []) (rest := [.int p1]) ⟨hx, hb, hml, hown, hts⟩ (kX3_lineCount l D y a t hI _ σ r2 h3) (cwV 0 hts (gAV aM_X7_151 aI_X3_lineCount aS_X3_lineCount aN_X3 aC_X3_lineCount) rfl rfl rfl eX3_lineCount ⟨Nat.le_of_ble_eq_true rfl, Nat.le_of_ble_eq_true rfl⟩) (preV_W (ci := 3) (q := (RX3, TX3, 12)) hK hP hF hS rfl (wC_5 y a σ)) rfl hl.1 rfl (Nat.le_of_ble_eq_true rfl) dX7_fails_9 ⟨Nat.zero_le _, Nat.zero_le _⟩ hS (AC_le hS.1) (fun H locs hP hS hk1 => ?_)
    refine lv_icmp_lt (tgt := 25) hx hb dX7_fails_12 (by decide) (fun c4 => ?_) (fun c4 => ?_)
    · have hm := (if_pos c4).symm.trans hm
      refine lv_aload_n hx hb dX7_fails_25 rfl (lv_at hl 0 rfl) ?_
      refine gfX7_proof hx hb h_X7 hown hK hP l_f44 dX7_fails_26 ?_
      refine lv_iload_n hx hb dX7_fails_29 rfl (lv_at hl 1 rfl) ?_
      obtain ⟨r5, h6, hm⟩ := ok_bind hm
      refine calV_i (As := [.int p1]) (rest := []) ⟨hx, hb, hml, hown, hts⟩ (kX3_failures l D y a t hI _ σ p1 r5 h6) (cwV 1 hts (gAV aM_X7_247 aI_X3_failures aS_X3_failures aN_X3 aC_X3_failures) rfl rfl rfl eX3_failures ⟨Nat.le_of_ble_eq_true rfl, Nat.le_of_ble_eq_true rfl⟩) (preV_W (ci := 3) (q := (RX3, TX3, 12)) hK hP hF hS rfl (wC_5 y a σ)) rfl hl.1 rfl (Nat.le_of_ble_eq_true rfl) dX7_fails_30 ⟨Nat.zero_le _, Nat.zero_le _⟩ hS (AC_le hS.1) (fun H locs hP hS hk1 => ?_)
      exact W.iret (v := r5) hx hb hr (fun T hT hW => ⟨⟨r5, σ, rfl, ⟨Option.some.inj hm, rfl⟩, by rw [posW, hT]; exact hP⟩, hS.F hT⟩) hS.2.2 dX7_fails_33
    · have hm := (if_neg c4).symm.trans hm
      cases hm
theorem eX7_hint : yX7_hint.cls = RX7 ∧ yX7_hint.cls ≠ "java/lang/invoke/MethodHandle" ∧ yX7_hint.cls ≠ "java/lang/invoke/VarHandle" ∧ (parseMethodDescriptor yX7_hint.desc).map (fun d => d.parameters.length) = some 2 := by decide +kernel
def mX7_hint_50 (s2 : St) (v1 : Int32) : Option (Int32 × St) :=
(mX4_found s2 v1).bind fun r3 =>
some (r3, s2)
def bX7_hint_32 (kh32 : St → Int32 → Int32 → Int32 → Option (Int32 × St)) (s8 : St) (v5 : Int32) (v6 : Int32) (v7 : Int32) : Option (Int32 × St) :=
if 13 ≤ v7 then (
some ((-1), s8))
else (
(mX4_search s8 v7 v5).bind fun ⟨r10, s12⟩ =>
if r10 = 0 then (
bnd (v7 + 1) fun x14 =>
kh32 s12 v5 v6 x14)
else (
mX7_hint_50 s12 v6))
abbrev mX7_hint_32 (n : Nat) : St → Int32 → Int32 → Int32 → Option (Int32 × St) := fx (fun _ _ _ _ => none) (bX7_hint_32) n
def mX7_hint (σ : St) (p1 : Int32) (p2 : Int32) : Option (Int32 × St) :=
(mX1_isKnown σ p1).bind fun r15 =>
if r15 = 0 then (
none)
else (
if p2 < 0 then (
none)
else (
if p2 ≤ 3 then (
mX7_hint_32 NF σ p1 p2 0)
else (
none)))
set_option maxHeartbeats 4000000 in
set_option maxRecDepth 100000 in
theorem kX7_hint (l : Launch) (D : va_G) (y : Nat → ClassId) (a t : Nat → Nat) (hI : AI a 37) (sz : Nat) (σ τ : St) (p1 : Int32) (p2 : Int32) (r : Int32) (hm : mX7_hint σ p1 p2 = some (r, τ)) : Met l yX7_hint zX7_hint { frames := 6, cells := 0, slots := 0, locals := 149 } (va_Pc [.ref (a 0), .int p1, .int p2] (preW (wC y a) a 37 D y t σ sz)) (va_Qi (fun r' u => r' = r ∧ u = τ) (posW (wC y a) D) (AC a 37 sz)) 0 0 (AC a 37 sz) := by
  refine Met.ofW (cc := cX7_hint) (maxL := 4) (ret := (some .int)) (by decide) rfl ?_
  intro p e s m args below meth c s₁ B hml hv
  obtain ⟨rfl, hsz, hP, hK, hF⟩ := hv
  have hx := B.exec
  have hb := B.bytes
  have hr := B.returns
  have hts := atoms_spec (ws := zX7_hint) B.pre
  have hown : s.vm.findClass RX7 = some m.cls := findClass_of_methodNamed B.named
  have hlocks := B.notSynchronized
  subst hsz
  have l_f10 := hts _ (List.mem_cons_of_mem _ aF_X7_10)
  have l_f53 := hts _ (List.mem_cons_of_mem _ aF_X7_53)
  have h_X7 : ∀ w ∈ wsX70, w.before _ s = true := fun w hw => hts w (List.mem_cons_of_mem _ (hwX7 w hw))
  have hS : va_S (AC a 37 s.heap.size) s.heap s.heap [] := va_S.rf
  have hl := lv_entry ([.ref (a 0), .int p1, .int p2]) (n := 4) (Nat.le_of_ble_eq_true rfl)
  rw [lg_entry_eq]
  generalize (lg_sl ([.ref (a 0), .int p1, .int p2]) ++ List.replicate (4 - (lg_sl ([.ref (a 0), .int p1, .int p2])).length) Slot.unset).toArray = ls at hl ⊢
  have hl : lv_has ls 4 [(0, .ref (a 0)), (1, .int p1), (2, .int p2)] := hl
  have L_50 : ∀ (s2 : St) (v1 : Int32) (H : Heap) (locs : List Loc) (ls : Array Slot), va_P D vwCl (wC y a s2) H → va_S (AC a 37 s.heap.size) s.heap H locs → lv_has ls 4 [(0, .ref (a 0)), (2, .int v1)] → mX7_hint_50 s2 v1 = some (r, τ) → W p l e (headSpec zX7_hint ({ frames := 6, cells := 0, slots := 0, locals := 149 })).room s m ([.ref (a 0), .int p1, .int p2] : List Value).toArray below meth c H locs 0 0 (MQ below (va_Qi (fun r' u => r' = r ∧ u = τ) (posW (wC y a) D) (AC a 37 s.heap.size)) ([.ref (a 0), .int p1, .int p2] : List Value).toArray s 0 0 (AC a 37 s.heap.size)) (F0 m 50 ls []) := by
    intro s2 v1 H locs ls hP hS hl hm
    unfold mX7_hint_50 at hm
    refine lv_aload_n hx hb dX7_hint_50 rfl (lv_at hl 0 rfl) ?_
    refine gfX7_rules hx hb h_X7 hown hK hP l_f53 dX7_hint_51 ?_
    refine lv_iload_n hx hb dX7_hint_54 rfl (lv_at hl 1 rfl) ?_
    obtain ⟨r3, h4, hm⟩ := ok_bind hm
    refine calV_i (As := [.int v1]) (rest := []) ⟨hx, hb, hml, hown, hts⟩ (kX4_found l D y a t hI _ s2 v1 r3 h4) (cwV 1 hts (gAV aM_X7_254 aI_X4_found aS_X4_found aN_X4 aC_X4_found) rfl rfl rfl eX4_found ⟨Nat.le_of_ble_eq_true rfl, Nat.le_of_ble_eq_true rfl⟩) (preV_W (ci := 4) (q := (RX4, TX4, 4)) hK hP hF hS rfl (wC_7 y a s2)) rfl hl.1 rfl (Nat.le_of_ble_eq_true rfl) dX7_hint_55 ⟨Nat.zero_le _, Nat.zero_le _⟩ hS (AC_le hS.1) (fun H locs hP hS hk1 => ?_)
    exact W.iret (v := r3) hx hb hr (fun T hT hW => ⟨⟨r3, s2, rfl, ⟨congrArg Prod.fst (Option.some.inj hm), congrArg Prod.snd (Option.some.inj hm)⟩, by rw [posW, hT]; exact hP⟩, hS.F hT⟩) hS.2.2 dX7_hint_58
  have L_32 : ∀ (n : Nat) (s8 : St) (v5 : Int32) (v6 : Int32) (v7 : Int32) (H : Heap) (locs : List Loc) (ls : Array Slot), va_P D vwCl (wC y a s8) H → va_S (AC a 37 s.heap.size) s.heap H locs → lv_has ls 4 [(0, .ref (a 0)), (1, .int v5), (2, .int v6), (3, .int v7)] → mX7_hint_32 n s8 v5 v6 v7 = some (r, τ) → W p l e (headSpec zX7_hint ({ frames := 6, cells := 0, slots := 0, locals := 149 })).room s m ([.ref (a 0), .int p1, .int p2] : List Value).toArray below meth c H locs 0 0 (MQ below (va_Qi (fun r' u => r' = r ∧ u = τ) (posW (wC y a) D) (AC a 37 s.heap.size)) ([.ref (a 0), .int p1, .int p2] : List Value).toArray s 0 0 (AC a 37 s.heap.size)) (F0 m 32 ls []) := by
    intro n
    induction n with
    | zero =>
      intro s8 v5 v6 v7 H locs ls hP hS hl hm
      exact absurd (show (none : Option (Int32 × St)) = some (r, τ) from hm) (by intro h; cases h)
    | succ n ih32 =>
      obtain ⟨kh32, ekh32⟩ : ∃ z, z = mX7_hint_32 n := ⟨_, rfl⟩
      have ih32 : ∀ (s8 : St) (v5 : Int32) (v6 : Int32) (v7 : Int32) (H : Heap) (locs : List Loc) (ls : Array Slot), va_P D vwCl (wC y a s8) H → va_S (AC a 37 s.heap.size) s.heap H locs → lv_has ls 4 [(0, .ref (a 0)), (1, .int v5), (2, .int v6), (3, .int v7)] → kh32 s8 v5 v6 v7 = some (r, τ) → W p l e (headSpec zX7_hint ({ frames := 6, cells := 0, slots := 0, locals := 149 })).room s m ([.ref (a 0), .int p1, .int p2] : List Value).toArray below meth c H locs 0 0 (MQ below (va_Qi (fun r' u => r' = r ∧ u = τ) (posW (wC y a) D) (AC a 37 s.heap.size)) ([.ref (a 0), .int p1, .int p2] : List Value).toArray s 0 0 (AC a 37 s.heap.size)) (F0 m 32 ls []) := by rw [ekh32]; exact ih32
      intro s8 v5 v6 v7 H locs ls hP hS hl hm
      have hm : bX7_hint_32 (mX7_hint_32 n) s8 v5 v6 v7 = some (r, τ) := hm
      rw [← ekh32] at hm
      unfold bX7_hint_32 at hm
      refine lv_iload_n hx hb dX7_hint_32 rfl (lv_at hl 3 rfl) ?_
      refine lv_bipush (v := 13) hx hb dX7_hint_33 (by decide) ?_
      refine lv_icmp_ge (tgt := 65) hx hb dX7_hint_35 (by decide) (fun c9 => ?_) (fun c9 => ?_)
      · have hm := (if_pos c9).symm.trans hm
        refine lv_iconst (v := (-1)) hx hb dX7_hint_65 (by decide) ?_
        exact W.iret (v := (-1)) hx hb hr (fun T hT hW => ⟨⟨(-1), s8, rfl, ⟨congrArg Prod.fst (Option.some.inj hm), congrArg Prod.snd (Option.some.inj hm)⟩, by rw [posW, hT]; exact hP⟩, hS.F hT⟩) hS.2.2 dX7_hint_66
      · have hm := (if_neg c9).symm.trans hm
        refine lv_aload_n hx hb dX7_hint_38 rfl (lv_at hl 0 rfl) ?_
        refine gfX7_rules hx hb h_X7 hown hK hP l_f53 dX7_hint_39 ?_
        refine lv_iload_n hx hb dX7_hint_42 rfl (lv_at hl 3 rfl) ?_
        refine lv_iload_n hx hb dX7_hint_43 rfl (lv_at hl 1 rfl) ?_
        obtain ⟨⟨r10, s12⟩, h11, hm⟩ := ok_bind hm
        refine calV_i (As := [.int v7, .int v5]) (rest := []) ⟨hx, hb, hml, hown, hts⟩ (kX4_search l D y a t hI _ s8 s12 v7 v5 r10 h11) (cwV 2 hts (gAV aM_X7_250 aI_X4_search aS_X4_search aN_X4 aC_X4_search) rfl rfl rfl eX4_search ⟨Nat.le_of_ble_eq_true rfl, Nat.le_of_ble_eq_true rfl⟩) (preV_W (ci := 4) (q := (RX4, TX4, 4)) hK hP hF hS rfl (wC_7 y a s8)) rfl hl.1 rfl (Nat.le_of_ble_eq_true rfl) dX7_hint_44 ⟨Nat.zero_le _, Nat.zero_le _⟩ hS (AC_le hS.1) (fun H locs hP hS hk1 => ?_)
        refine lv_if_eq (tgt := 59) hx hb dX7_hint_47 (by decide) (fun c13 => ?_) (fun c13 => ?_)
        · have hm := (if_pos c13).symm.trans hm
          obtain ⟨x14, ex14⟩ : ∃ z : Int32, z = v7 + 1 := ⟨_, rfl⟩
          have hm := bnd_x ex14 hm
          refine lv_iinc (v := x14) (lv' := [(3, .int x14), (0, .ref (a 0)), (1, .int v5), (2, .int v6)]) hx hb dX7_hint_59 hl (k := 3) rfl (by rw [ex14]; rfl) (by decide) rfl (fun ls hl => ?_)
          refine lv_goto (tgt := 32) hx hb dX7_hint_62 (by decide) ?_
          exact ih32 s12 v5 v6 x14 _ _ _ hP hS (lv_sub hl [1, 2, 3, 0] rfl) hm
        · have hm := (if_neg c13).symm.trans hm
          exact L_50 s12 v6 _ _ _ hP hS (lv_sub hl [0, 2] rfl) hm
  unfold mX7_hint at hm
  refine lv_aload_n hx hb dX7_hint_0 rfl (lv_at hl 0 rfl) ?_
  refine gfX7_formulas hx hb h_X7 hown hK hP l_f10 dX7_hint_1 ?_
  refine lv_iload_n hx hb dX7_hint_4 rfl (lv_at hl 1 rfl) ?_
  obtain ⟨r15, h16, hm⟩ := ok_bind hm
  refine calV_i (As := [.int p1]) (rest := []) ⟨hx, hb, hml, hown, hts⟩ (kX1_isKnown l D y a t hI _ σ p1 r15 h16) (cwV 1 hts (gAV aM_X7_105 aI_X1_isKnown aS_X1_isKnown aN_X1 aC_X1_isKnown) rfl rfl rfl eX1_isKnown ⟨Nat.le_of_ble_eq_true rfl, Nat.le_of_ble_eq_true rfl⟩) (preV_W (ci := 1) (q := (RX1, TX1, 8)) hK hP hF hS rfl (wC_1 y a σ)) rfl hl.1 rfl (Nat.le_of_ble_eq_true rfl) dX7_hint_5 ⟨Nat.zero_le _, Nat.zero_le _⟩ hS (AC_le hS.1) (fun H locs hP hS hk1 => ?_)
  refine lv_if_eq (tgt := 20) hx hb dX7_hint_8 (by decide) (fun c17 => ?_) (fun c17 => ?_)
  · have hm := (if_pos c17).symm.trans hm
    cases hm
  · have hm := (if_neg c17).symm.trans hm
    refine lv_iload_n hx hb dX7_hint_11 rfl (lv_at hl 2 rfl) ?_
    refine lv_if_lt (tgt := 20) hx hb dX7_hint_12 (by decide) (fun c18 => ?_) (fun c18 => ?_)
    · have hm := (if_pos c18).symm.trans hm
      cases hm
    · have hm := (if_neg c18).symm.trans hm
      refine lv_iload_n hx hb dX7_hint_15 rfl (lv_at hl 2 rfl) ?_
      refine lv_iconst (v := 3) hx hb dX7_hint_16 (by decide) ?_
      refine lv_icmp_le (tgt := 30) hx hb dX7_hint_17 (by decide) (fun c19 => ?_) (fun c19 => ?_)
      · have hm := (if_pos c19).symm.trans hm
        refine lv_iconst (v := 0) hx hb dX7_hint_30 (by decide) ?_
        refine lv_istore_n (lv' := [(3, .int 0), (0, .ref (a 0)), (1, .int p1), (2, .int p2)]) hx hb dX7_hint_31 rfl hl (by decide) rfl (fun ls hl => ?_)
        exact L_32 NF σ p1 p2 0 _ _ _ hP hS (lv_sub hl [1, 2, 3, 0] rfl) hm
      · have hm := (if_neg c19).symm.trans hm
        cases hm
theorem eX7_end : yX7_end.cls = RX7 ∧ yX7_end.cls ≠ "java/lang/invoke/MethodHandle" ∧ yX7_end.cls ≠ "java/lang/invoke/VarHandle" ∧ (parseMethodDescriptor yX7_end.desc).map (fun d => d.parameters.length) = some 0 := by decide +kernel
def mX7_end_111 (s4 : St) (v1 : Int32) (v2 : Int32) (v3 : Int32) : Option (Int32 × St) :=
(mX3_formulaOf s4 v1).bind fun r5 =>
(mX3_neededCount s4).bind fun ⟨r7, s9⟩ =>
(mX6_add s9 r5 v2 v3 (v1 + 1) r7).bind fun ⟨r10, s12⟩ =>
(mX3_clear s12).bind fun s14 =>
some (r10, s14)
def mX7_end_93 (s18 : St) (v15 : Int32) (v16 : Int32) (v17 : Int32) : Option (Int32 × St) :=
if v16 ≤ 1 then (
mX7_end_111 s18 v15 v17 (-1))
else (
(mX3_formulaOf s18 1).bind fun r20 =>
mX7_end_111 s18 v15 v17 r20)
def mX7_end (σ : St) : Option (Int32 × St) :=
(mX3_lineCount σ).bind fun r22 =>
bnd (r22 - 1) fun x24 =>
if x24 < 0 then (
none)
else (
(mX3_openCount σ).bind fun r26 =>
if 0 < r26 then (
none)
else (
(mX3_boxOf σ x24).bind fun r29 =>
if r29 < 0 then (
(mX6_known σ).bind fun r32 =>
if r32 < 16 then (
(mX3_premiseCount σ).bind fun r35 =>
if r35 ≤ 0 then (
mX7_end_93 σ x24 r35 (-1))
else (
(mX3_formulaOf σ 0).bind fun r38 =>
mX7_end_93 σ x24 r35 r38))
else (
none))
else (
none)))
set_option maxHeartbeats 4000000 in
set_option maxRecDepth 100000 in
theorem kX7_end (l : Launch) (D : va_G) (y : Nat → ClassId) (a t : Nat → Nat) (hI : AI a 37) (sz : Nat) (σ τ : St) (r : Int32) (hm : mX7_end σ = some (r, τ)) : Met l yX7_end zX7_end { frames := 3, cells := 0, slots := 0, locals := 66 } (va_Pc [.ref (a 0)] (preW (wC y a) a 37 D y t σ sz)) (va_Qi (fun r' u => r' = r ∧ u = τ) (posW (wC y a) D) (AC a 37 sz)) 0 0 (AC a 37 sz) := by
  refine Met.ofW (cc := cX7_end) (maxL := 6) (ret := (some .int)) (by decide) rfl ?_
  intro p e s m args below meth c s₁ B hml hv
  obtain ⟨rfl, hsz, hP, hK, hF⟩ := hv
  have hx := B.exec
  have hb := B.bytes
  have hr := B.returns
  have hts := atoms_spec (ws := zX7_end) B.pre
  have hown : s.vm.findClass RX7 = some m.cls := findClass_of_methodNamed B.named
  have hlocks := B.notSynchronized
  subst hsz
  have l_f44 := hts _ (List.mem_cons_of_mem _ aF_X7_44)
  have l_f35 := hts _ (List.mem_cons_of_mem _ aF_X7_35)
  have h_X7 : ∀ w ∈ wsX70, w.before _ s = true := fun w hw => hts w (List.mem_cons_of_mem _ (hwX7 w hw))
  have hS : va_S (AC a 37 s.heap.size) s.heap s.heap [] := va_S.rf
  have hl := lv_entry ([.ref (a 0)]) (n := 6) (Nat.le_of_ble_eq_true rfl)
  rw [lg_entry_eq]
  generalize (lg_sl ([.ref (a 0)]) ++ List.replicate (6 - (lg_sl ([.ref (a 0)])).length) Slot.unset).toArray = ls at hl ⊢
  have hl : lv_has ls 6 [(0, .ref (a 0))] := hl
  have L_111 : ∀ (s4 : St) (v1 : Int32) (v2 : Int32) (v3 : Int32) (H : Heap) (locs : List Loc) (ls : Array Slot), va_P D vwCl (wC y a s4) H → va_S (AC a 37 s.heap.size) s.heap H locs → lv_has ls 6 [(0, .ref (a 0)), (1, .int v1), (3, .int v2)] → mX7_end_111 s4 v1 v2 v3 = some (r, τ) → W p l e (headSpec zX7_end ({ frames := 3, cells := 0, slots := 0, locals := 66 })).room s m ([.ref (a 0)] : List Value).toArray below meth c H locs 0 0 (MQ below (va_Qi (fun r' u => r' = r ∧ u = τ) (posW (wC y a) D) (AC a 37 s.heap.size)) ([.ref (a 0)] : List Value).toArray s 0 0 (AC a 37 s.heap.size)) (F0 m 111 ls [.int v3]) := by
    intro s4 v1 v2 v3 H locs ls hP hS hl hm
    unfold mX7_end_111 at hm
    refine lv_istore (lv' := [(4, .int v3), (0, .ref (a 0)), (1, .int v1), (3, .int v2)]) hx hb dX7_end_111 hl (by decide) rfl (fun ls hl => ?_)
    refine lv_aload_n hx hb dX7_end_113 rfl (lv_at hl 1 rfl) ?_
    refine gfX7_theorems hx hb h_X7 hown hK hP l_f35 dX7_end_114 ?_
    refine lv_aload_n hx hb dX7_end_117 rfl (lv_at hl 1 rfl) ?_
    refine gfX7_proof hx hb h_X7 hown hK hP l_f44 dX7_end_118 ?_
    refine lv_iload_n hx hb dX7_end_121 rfl (lv_at hl 2 rfl) ?_
    obtain ⟨r5, h6, hm⟩ := ok_bind hm
    refine calV_i (As := [.int v1]) (rest := [.ref (a 4)]) ⟨hx, hb, hml, hown, hts⟩ (kX3_formulaOf l D y a t hI _ s4 v1 r5 h6) (cwV 1 hts (gAV aM_X7_212 aI_X3_formulaOf aS_X3_formulaOf aN_X3 aC_X3_formulaOf) rfl rfl rfl eX3_formulaOf ⟨Nat.le_of_ble_eq_true rfl, Nat.le_of_ble_eq_true rfl⟩) (preV_W (ci := 3) (q := (RX3, TX3, 12)) hK hP hF hS rfl (wC_5 y a s4)) rfl hl.1 rfl (Nat.le_of_ble_eq_true rfl) dX7_end_122 ⟨Nat.zero_le _, Nat.zero_le _⟩ hS (AC_le hS.1) (fun H locs hP hS hk1 => ?_)
    refine lv_iload_n hx hb dX7_end_125 rfl (lv_at hl 3 rfl) ?_
    refine lv_iload hx hb dX7_end_126 (lv_at hl 0 rfl) ?_
    refine lv_iload_n hx hb dX7_end_128 rfl (lv_at hl 2 rfl) ?_
    refine lv_iconst (v := 1) hx hb dX7_end_129 (by decide) ?_
    refine lv_iadd hx hb dX7_end_130 ?_
    refine lv_aload_n hx hb dX7_end_131 rfl (lv_at hl 1 rfl) ?_
    refine gfX7_proof hx hb h_X7 hown hK hP l_f44 dX7_end_132 ?_
    obtain ⟨⟨r7, s9⟩, h8, hm⟩ := ok_bind hm
    refine calV_i (As := []) (rest := [.int (v1 + 1), .int v3, .int v2, .int r5, .ref (a 4)]) ⟨hx, hb, hml, hown, hts⟩ (kX3_neededCount l D y a t hI _ s4 s9 r7 h8) (cwV 0 hts (gAV aM_X7_205 aI_X3_neededCount aS_X3_neededCount aN_X3 aC_X3_neededCount) rfl rfl rfl eX3_neededCount ⟨Nat.le_of_ble_eq_true rfl, Nat.le_of_ble_eq_true rfl⟩) (preV_W (ci := 3) (q := (RX3, TX3, 12)) hK hP hF hS rfl (wC_5 y a s4)) rfl hl.1 rfl (Nat.le_of_ble_eq_true rfl) dX7_end_135 ⟨Nat.zero_le _, Nat.zero_le _⟩ hS (AC_le hS.1) (fun H locs hP hS hk1 => ?_)
    obtain ⟨⟨r10, s12⟩, h11, hm⟩ := ok_bind hm
    refine calV_i (As := [.int r5, .int v2, .int v3, .int (v1 + 1), .int r7]) (rest := []) ⟨hx, hb, hml, hown, hts⟩ (kX6_add l D y a t hI _ s9 s12 r5 v2 v3 (v1 + 1) r7 r10 h11) (cwV 5 hts (gAV aM_X7_261 aI_X6_add aS_X6_add aN_X6 aC_X6_add) rfl rfl rfl eX6_add ⟨Nat.le_of_ble_eq_true rfl, Nat.le_of_ble_eq_true rfl⟩) (preV_W (ci := 6) (q := (RX6, TX6, 9)) hK hP hF hS rfl (wC_4 y a s9)) rfl hl.1 rfl (Nat.le_of_ble_eq_true rfl) dX7_end_138 ⟨Nat.zero_le _, Nat.zero_le _⟩ hS (AC_le hS.1) (fun H locs hP hS hk1 => ?_)
    refine lv_istore (lv' := [(5, .int r10), (4, .int v3), (0, .ref (a 0)), (1, .int v1), (3, .int v2)]) hx hb dX7_end_141 hl (by decide) rfl (fun ls hl => ?_)
    refine lv_aload_n hx hb dX7_end_143 rfl (lv_at hl 2 rfl) ?_
    refine gfX7_proof hx hb h_X7 hown hK hP l_f44 dX7_end_144 ?_
    obtain ⟨s14, h13, hm⟩ := ok_bind hm
    refine calV_v (As := []) (rest := []) ⟨hx, hb, hml, hown, hts⟩ (kX3_clear l D y a t hI _ s12 s14  h13) (cwV 0 hts (gAV aM_X7_154 aI_X3_clear aS_X3_clear aN_X3 aC_X3_clear) rfl rfl rfl eX3_clear ⟨Nat.le_of_ble_eq_true rfl, Nat.le_of_ble_eq_true rfl⟩) (preV_W (ci := 3) (q := (RX3, TX3, 12)) hK hP hF hS rfl (wC_5 y a s12)) rfl hl.1 rfl (Nat.le_of_ble_eq_true rfl) dX7_end_147 ⟨Nat.zero_le _, Nat.zero_le _⟩ hS (AC_le hS.1) (fun H locs hP hS hk1 => ?_)
    refine lv_iload hx hb dX7_end_150 (lv_at hl 0 rfl) ?_
    exact W.iret (v := r10) hx hb hr (fun T hT hW => ⟨⟨r10, s14, rfl, ⟨congrArg Prod.fst (Option.some.inj hm), congrArg Prod.snd (Option.some.inj hm)⟩, by rw [posW, hT]; exact hP⟩, hS.F hT⟩) hS.2.2 dX7_end_152
  have L_93 : ∀ (s18 : St) (v15 : Int32) (v16 : Int32) (v17 : Int32) (H : Heap) (locs : List Loc) (ls : Array Slot), va_P D vwCl (wC y a s18) H → va_S (AC a 37 s.heap.size) s.heap H locs → lv_has ls 6 [(0, .ref (a 0)), (1, .int v15), (2, .int v16)] → mX7_end_93 s18 v15 v16 v17 = some (r, τ) → W p l e (headSpec zX7_end ({ frames := 3, cells := 0, slots := 0, locals := 66 })).room s m ([.ref (a 0)] : List Value).toArray below meth c H locs 0 0 (MQ below (va_Qi (fun r' u => r' = r ∧ u = τ) (posW (wC y a) D) (AC a 37 s.heap.size)) ([.ref (a 0)] : List Value).toArray s 0 0 (AC a 37 s.heap.size)) (F0 m 93 ls [.int v17]) := by
    intro s18 v15 v16 v17 H locs ls hP hS hl hm
    unfold mX7_end_93 at hm
    refine lv_istore_n (lv' := [(3, .int v17), (0, .ref (a 0)), (1, .int v15), (2, .int v16)]) hx hb dX7_end_93 rfl hl (by decide) rfl (fun ls hl => ?_)
    refine lv_iload_n hx hb dX7_end_94 rfl (lv_at hl 3 rfl) ?_
    refine lv_iconst (v := 1) hx hb dX7_end_95 (by decide) ?_
    refine lv_icmp_le (tgt := 110) hx hb dX7_end_96 (by decide) (fun c19 => ?_) (fun c19 => ?_)
    · have hm := (if_pos c19).symm.trans hm
      refine lv_iconst (v := (-1)) hx hb dX7_end_110 (by decide) ?_
      exact L_111 s18 v15 v17 (-1) _ _ _ hP hS (lv_sub hl [1, 2, 0] rfl) hm
    · have hm := (if_neg c19).symm.trans hm
      refine lv_aload_n hx hb dX7_end_99 rfl (lv_at hl 1 rfl) ?_
      refine gfX7_proof hx hb h_X7 hown hK hP l_f44 dX7_end_100 ?_
      refine lv_iconst (v := 1) hx hb dX7_end_103 (by decide) ?_
      obtain ⟨r20, h21, hm⟩ := ok_bind hm
      refine calV_i (As := [.int 1]) (rest := []) ⟨hx, hb, hml, hown, hts⟩ (kX3_formulaOf l D y a t hI _ s18 1 r20 h21) (cwV 1 hts (gAV aM_X7_212 aI_X3_formulaOf aS_X3_formulaOf aN_X3 aC_X3_formulaOf) rfl rfl rfl eX3_formulaOf ⟨Nat.le_of_ble_eq_true rfl, Nat.le_of_ble_eq_true rfl⟩) (preV_W (ci := 3) (q := (RX3, TX3, 12)) hK hP hF hS rfl (wC_5 y a s18)) rfl hl.1 rfl (Nat.le_of_ble_eq_true rfl) dX7_end_104 ⟨Nat.zero_le _, Nat.zero_le _⟩ hS (AC_le hS.1) (fun H locs hP hS hk1 => ?_)
      refine lv_goto (tgt := 111) hx hb dX7_end_107 (by decide) ?_
      exact L_111 s18 v15 v17 r20 _ _ _ hP hS (lv_sub hl [1, 2, 0] rfl) hm
  unfold mX7_end at hm
  refine lv_aload_n hx hb dX7_end_0 rfl (lv_at hl 0 rfl) ?_
  refine gfX7_proof hx hb h_X7 hown hK hP l_f44 dX7_end_1 ?_
  obtain ⟨r22, h23, hm⟩ := ok_bind hm
  refine calV_i (As := []) (rest := []) ⟨hx, hb, hml, hown, hts⟩ (kX3_lineCount l D y a t hI _ σ r22 h23) (cwV 0 hts (gAV aM_X7_151 aI_X3_lineCount aS_X3_lineCount aN_X3 aC_X3_lineCount) rfl rfl rfl eX3_lineCount ⟨Nat.le_of_ble_eq_true rfl, Nat.le_of_ble_eq_true rfl⟩) (preV_W (ci := 3) (q := (RX3, TX3, 12)) hK hP hF hS rfl (wC_5 y a σ)) rfl hl.1 rfl (Nat.le_of_ble_eq_true rfl) dX7_end_4 ⟨Nat.zero_le _, Nat.zero_le _⟩ hS (AC_le hS.1) (fun H locs hP hS hk1 => ?_)
  refine lv_iconst (v := 1) hx hb dX7_end_7 (by decide) ?_
  refine lv_isub hx hb dX7_end_8 ?_
  refine lv_topi (fun x24 ex24 => ?_)
  have hm := bnd_x ex24 hm
  refine lv_istore_n (lv' := [(1, .int x24), (0, .ref (a 0))]) hx hb dX7_end_9 rfl hl (by decide) rfl (fun ls hl => ?_)
  refine lv_iload_n hx hb dX7_end_10 rfl (lv_at hl 0 rfl) ?_
  refine lv_if_lt (tgt := 35) hx hb dX7_end_11 (by decide) (fun c25 => ?_) (fun c25 => ?_)
  · have hm := (if_pos c25).symm.trans hm
    cases hm
  · have hm := (if_neg c25).symm.trans hm
    refine lv_aload_n hx hb dX7_end_14 rfl (lv_at hl 1 rfl) ?_
    refine gfX7_proof hx hb h_X7 hown hK hP l_f44 dX7_end_15 ?_
    obtain ⟨r26, h27, hm⟩ := ok_bind hm
    refine calV_i (As := []) (rest := []) ⟨hx, hb, hml, hown, hts⟩ (kX3_openCount l D y a t hI _ σ r26 h27) (cwV 0 hts (gAV aM_X7_166 aI_X3_openCount aS_X3_openCount aN_X3 aC_X3_openCount) rfl rfl rfl eX3_openCount ⟨Nat.le_of_ble_eq_true rfl, Nat.le_of_ble_eq_true rfl⟩) (preV_W (ci := 3) (q := (RX3, TX3, 12)) hK hP hF hS rfl (wC_5 y a σ)) rfl hl.1 rfl (Nat.le_of_ble_eq_true rfl) dX7_end_18 ⟨Nat.zero_le _, Nat.zero_le _⟩ hS (AC_le hS.1) (fun H locs hP hS hk1 => ?_)
    refine lv_if_gt (tgt := 35) hx hb dX7_end_21 (by decide) (fun c28 => ?_) (fun c28 => ?_)
    · have hm := (if_pos c28).symm.trans hm
      cases hm
    · have hm := (if_neg c28).symm.trans hm
      refine lv_aload_n hx hb dX7_end_24 rfl (lv_at hl 1 rfl) ?_
      refine gfX7_proof hx hb h_X7 hown hK hP l_f44 dX7_end_25 ?_
      refine lv_iload_n hx hb dX7_end_28 rfl (lv_at hl 0 rfl) ?_
      obtain ⟨r29, h30, hm⟩ := ok_bind hm
      refine calV_i (As := [.int x24]) (rest := []) ⟨hx, hb, hml, hown, hts⟩ (kX3_boxOf l D y a t hI _ σ x24 r29 h30) (cwV 1 hts (gAV aM_X7_218 aI_X3_boxOf aS_X3_boxOf aN_X3 aC_X3_boxOf) rfl rfl rfl eX3_boxOf ⟨Nat.le_of_ble_eq_true rfl, Nat.le_of_ble_eq_true rfl⟩) (preV_W (ci := 3) (q := (RX3, TX3, 12)) hK hP hF hS rfl (wC_5 y a σ)) rfl hl.1 rfl (Nat.le_of_ble_eq_true rfl) dX7_end_29 ⟨Nat.zero_le _, Nat.zero_le _⟩ hS (AC_le hS.1) (fun H locs hP hS hk1 => ?_)
      refine lv_if_lt (tgt := 46) hx hb dX7_end_32 (by decide) (fun c31 => ?_) (fun c31 => ?_)
      · have hm := (if_pos c31).symm.trans hm
        refine lv_aload_n hx hb dX7_end_46 rfl (lv_at hl 1 rfl) ?_
        refine gfX7_theorems hx hb h_X7 hown hK hP l_f35 dX7_end_47 ?_
        obtain ⟨r32, h33, hm⟩ := ok_bind hm
        refine calV_i (As := []) (rest := []) ⟨hx, hb, hml, hown, hts⟩ (kX6_known l D y a t hI _ σ r32 h33) (cwV 0 hts (gAV aM_X7_204 aI_X6_known aS_X6_known aN_X6 aC_X6_known) rfl rfl rfl eX6_known ⟨Nat.le_of_ble_eq_true rfl, Nat.le_of_ble_eq_true rfl⟩) (preV_W (ci := 6) (q := (RX6, TX6, 9)) hK hP hF hS rfl (wC_4 y a σ)) rfl hl.1 rfl (Nat.le_of_ble_eq_true rfl) dX7_end_50 ⟨Nat.zero_le _, Nat.zero_le _⟩ hS (AC_le hS.1) (fun H locs hP hS hk1 => ?_)
        refine lv_bipush (v := 16) hx hb dX7_end_53 (by decide) ?_
        refine lv_icmp_lt (tgt := 69) hx hb dX7_end_55 (by decide) (fun c34 => ?_) (fun c34 => ?_)
        · have hm := (if_pos c34).symm.trans hm
          refine lv_aload_n hx hb dX7_end_69 rfl (lv_at hl 1 rfl) ?_
          refine gfX7_proof hx hb h_X7 hown hK hP l_f44 dX7_end_70 ?_
          obtain ⟨r35, h36, hm⟩ := ok_bind hm
          refine calV_i (As := []) (rest := []) ⟨hx, hb, hml, hown, hts⟩ (kX3_premiseCount l D y a t hI _ σ r35 h36) (cwV 0 hts (gAV aM_X7_157 aI_X3_premiseCount aS_X3_premiseCount aN_X3 aC_X3_premiseCount) rfl rfl rfl eX3_premiseCount ⟨Nat.le_of_ble_eq_true rfl, Nat.le_of_ble_eq_true rfl⟩) (preV_W (ci := 3) (q := (RX3, TX3, 12)) hK hP hF hS rfl (wC_5 y a σ)) rfl hl.1 rfl (Nat.le_of_ble_eq_true rfl) dX7_end_73 ⟨Nat.zero_le _, Nat.zero_le _⟩ hS (AC_le hS.1) (fun H locs hP hS hk1 => ?_)
          refine lv_istore_n (lv' := [(2, .int r35), (1, .int x24), (0, .ref (a 0))]) hx hb dX7_end_76 rfl hl (by decide) rfl (fun ls hl => ?_)
          refine lv_iload_n hx hb dX7_end_77 rfl (lv_at hl 0 rfl) ?_
          refine lv_if_le (tgt := 92) hx hb dX7_end_78 (by decide) (fun c37 => ?_) (fun c37 => ?_)
          · have hm := (if_pos c37).symm.trans hm
            refine lv_iconst (v := (-1)) hx hb dX7_end_92 (by decide) ?_
            exact L_93 σ x24 r35 (-1) _ _ _ hP hS (lv_sub hl [2, 1, 0] rfl) hm
          · have hm := (if_neg c37).symm.trans hm
            refine lv_aload_n hx hb dX7_end_81 rfl (lv_at hl 2 rfl) ?_
            refine gfX7_proof hx hb h_X7 hown hK hP l_f44 dX7_end_82 ?_
            refine lv_iconst (v := 0) hx hb dX7_end_85 (by decide) ?_
            obtain ⟨r38, h39, hm⟩ := ok_bind hm
            refine calV_i (As := [.int 0]) (rest := []) ⟨hx, hb, hml, hown, hts⟩ (kX3_formulaOf l D y a t hI _ σ 0 r38 h39) (cwV 1 hts (gAV aM_X7_212 aI_X3_formulaOf aS_X3_formulaOf aN_X3 aC_X3_formulaOf) rfl rfl rfl eX3_formulaOf ⟨Nat.le_of_ble_eq_true rfl, Nat.le_of_ble_eq_true rfl⟩) (preV_W (ci := 3) (q := (RX3, TX3, 12)) hK hP hF hS rfl (wC_5 y a σ)) rfl hl.1 rfl (Nat.le_of_ble_eq_true rfl) dX7_end_86 ⟨Nat.zero_le _, Nat.zero_le _⟩ hS (AC_le hS.1) (fun H locs hP hS hk1 => ?_)
            refine lv_goto (tgt := 93) hx hb dX7_end_89 (by decide) ?_
            exact L_93 σ x24 r35 r38 _ _ _ hP hS (lv_sub hl [2, 1, 0] rfl) hm
        · have hm := (if_neg c34).symm.trans hm
          cases hm
      · have hm := (if_neg c31).symm.trans hm
        cases hm
theorem eX7_theorem : yX7_theorem.cls = RX7 ∧ yX7_theorem.cls ≠ "java/lang/invoke/MethodHandle" ∧ yX7_theorem.cls ≠ "java/lang/invoke/VarHandle" ∧ (parseMethodDescriptor yX7_theorem.desc).map (fun d => d.parameters.length) = some 2 := by decide +kernel
def mX7_theorem (σ : St) (p1 : Int32) (p2 : Int32) : Option Int32 :=
(mX6_isKnown σ p1).bind fun r1 =>
if r1 = 0 then (
none)
else (
if p2 < 0 then (
none)
else (
if p2 ≤ 6 then (
if p2 = 0 then (
(mX6_conclusion σ p1).bind fun r7 =>
some r7)
else (
if p2 = 1 then (
(mX6_premises σ p1).bind fun r10 =>
some r10)
else (
if p2 = 2 then (
(mX6_firstPremise σ p1).bind fun r13 =>
some r13)
else (
if p2 = 3 then (
(mX6_secondPremise σ p1).bind fun r16 =>
some r16)
else (
if p2 = 4 then (
(mX6_lines σ p1).bind fun r19 =>
some r19)
else (
if p2 = 5 then (
(mX6_needed σ p1).bind fun r22 =>
some r22)
else (
(mX6_uses σ p1).bind fun r24 =>
some r24)))))))
else (
none)))
set_option maxHeartbeats 4000000 in
set_option maxRecDepth 100000 in
theorem kX7_theorem (l : Launch) (D : va_G) (y : Nat → ClassId) (a t : Nat → Nat) (hI : AI a 37) (sz : Nat) (σ : St) (p1 : Int32) (p2 : Int32) (r : Int32) (hm : mX7_theorem σ p1 p2 = some r) : Met l yX7_theorem zX7_theorem { frames := 1, cells := 0, slots := 0, locals := 21 } (va_Pc [.ref (a 0), .int p1, .int p2] (preW (wC y a) a 37 D y t σ sz)) (va_Qi (fun r' u => r' = r ∧ u = σ) (posW (wC y a) D) (AC a 37 sz)) 0 0 (AC a 37 sz) := by
  refine Met.ofW (cc := cX7_theorem) (maxL := 3) (ret := (some .int)) (by decide) rfl ?_
  intro p e s m args below meth c s₁ B hml hv
  obtain ⟨rfl, hsz, hP, hK, hF⟩ := hv
  have hx := B.exec
  have hb := B.bytes
  have hr := B.returns
  have hts := atoms_spec (ws := zX7_theorem) B.pre
  have hown : s.vm.findClass RX7 = some m.cls := findClass_of_methodNamed B.named
  have hlocks := B.notSynchronized
  subst hsz
  have l_f35 := hts _ (List.mem_cons_of_mem _ aF_X7_35)
  have h_X7 : ∀ w ∈ wsX70, w.before _ s = true := fun w hw => hts w (List.mem_cons_of_mem _ (hwX7 w hw))
  have hS : va_S (AC a 37 s.heap.size) s.heap s.heap [] := va_S.rf
  have hl := lv_entry ([.ref (a 0), .int p1, .int p2]) (n := 3) (Nat.le_of_ble_eq_true rfl)
  rw [lg_entry_eq]
  generalize (lg_sl ([.ref (a 0), .int p1, .int p2]) ++ List.replicate (3 - (lg_sl ([.ref (a 0), .int p1, .int p2])).length) Slot.unset).toArray = ls at hl ⊢
  have hl : lv_has ls 3 [(0, .ref (a 0)), (1, .int p1), (2, .int p2)] := hl
  unfold mX7_theorem at hm
  refine lv_aload_n hx hb dX7_theorem_0 rfl (lv_at hl 0 rfl) ?_
  refine gfX7_theorems hx hb h_X7 hown hK hP l_f35 dX7_theorem_1 ?_
  refine lv_iload_n hx hb dX7_theorem_4 rfl (lv_at hl 1 rfl) ?_
  obtain ⟨r1, h2, hm⟩ := ok_bind hm
  refine calV_i (As := [.int p1]) (rest := []) ⟨hx, hb, hml, hown, hts⟩ (kX6_isKnown l D y a t hI _ σ p1 r1 h2) (cwV 1 hts (gAV aM_X7_262 aI_X6_isKnown aS_X6_isKnown aN_X6 aC_X6_isKnown) rfl rfl rfl eX6_isKnown ⟨Nat.le_of_ble_eq_true rfl, Nat.le_of_ble_eq_true rfl⟩) (preV_W (ci := 6) (q := (RX6, TX6, 9)) hK hP hF hS rfl (wC_4 y a σ)) rfl hl.1 rfl (Nat.le_of_ble_eq_true rfl) dX7_theorem_5 ⟨Nat.zero_le _, Nat.zero_le _⟩ hS (AC_le hS.1) (fun H locs hP hS hk1 => ?_)
  refine lv_if_eq (tgt := 21) hx hb dX7_theorem_8 (by decide) (fun c3 => ?_) (fun c3 => ?_)
  · have hm := (if_pos c3).symm.trans hm
    cases hm
  · have hm := (if_neg c3).symm.trans hm
    refine lv_iload_n hx hb dX7_theorem_11 rfl (lv_at hl 2 rfl) ?_
    refine lv_if_lt (tgt := 21) hx hb dX7_theorem_12 (by decide) (fun c4 => ?_) (fun c4 => ?_)
    · have hm := (if_pos c4).symm.trans hm
      cases hm
    · have hm := (if_neg c4).symm.trans hm
      refine lv_iload_n hx hb dX7_theorem_15 rfl (lv_at hl 2 rfl) ?_
      refine lv_bipush (v := 6) hx hb dX7_theorem_16 (by decide) ?_
      refine lv_icmp_le (tgt := 32) hx hb dX7_theorem_18 (by decide) (fun c5 => ?_) (fun c5 => ?_)
      · have hm := (if_pos c5).symm.trans hm
        refine lv_iload_n hx hb dX7_theorem_32 rfl (lv_at hl 2 rfl) ?_
        by_cases c6 : p2 = 0
        · have hm := (if_pos c6).symm.trans hm
          refine lv_tableIn (tgt := 72) hx hb dX7_theorem_33 (by rw [c6]; decide) (by rw [c6]; decide) (by rw [c6]; rfl) (by decide) ?_
          refine lv_aload_n hx hb dX7_theorem_72 rfl (lv_at hl 0 rfl) ?_
          refine gfX7_theorems hx hb h_X7 hown hK hP l_f35 dX7_theorem_73 ?_
          refine lv_iload_n hx hb dX7_theorem_76 rfl (lv_at hl 1 rfl) ?_
          obtain ⟨r7, h8, hm⟩ := ok_bind hm
          refine calV_i (As := [.int p1]) (rest := []) ⟨hx, hb, hml, hown, hts⟩ (kX6_conclusion l D y a t hI _ σ p1 r7 h8) (cwV 1 hts (gAV aM_X7_265 aI_X6_conclusion aS_X6_conclusion aN_X6 aC_X6_conclusion) rfl rfl rfl eX6_conclusion ⟨Nat.le_of_ble_eq_true rfl, Nat.le_of_ble_eq_true rfl⟩) (preV_W (ci := 6) (q := (RX6, TX6, 9)) hK hP hF hS rfl (wC_4 y a σ)) rfl hl.1 rfl (Nat.le_of_ble_eq_true rfl) dX7_theorem_77 ⟨Nat.zero_le _, Nat.zero_le _⟩ hS (AC_le hS.1) (fun H locs hP hS hk1 => ?_)
          exact W.iret (v := r7) hx hb hr (fun T hT hW => ⟨⟨r7, σ, rfl, ⟨Option.some.inj hm, rfl⟩, by rw [posW, hT]; exact hP⟩, hS.F hT⟩) hS.2.2 dX7_theorem_80
        · have hm := (if_neg c6).symm.trans hm
          have sc6 := sw_ne (k := 0) c6 rfl
          by_cases c9 : p2 = 1
          · have hm := (if_pos c9).symm.trans hm
            refine lv_tableIn (tgt := 81) hx hb dX7_theorem_33 (by rw [c9]; decide) (by rw [c9]; decide) (by rw [c9]; rfl) (by decide) ?_
            refine lv_aload_n hx hb dX7_theorem_81 rfl (lv_at hl 0 rfl) ?_
            refine gfX7_theorems hx hb h_X7 hown hK hP l_f35 dX7_theorem_82 ?_
            refine lv_iload_n hx hb dX7_theorem_85 rfl (lv_at hl 1 rfl) ?_
            obtain ⟨r10, h11, hm⟩ := ok_bind hm
            refine calV_i (As := [.int p1]) (rest := []) ⟨hx, hb, hml, hown, hts⟩ (kX6_premises l D y a t hI _ σ p1 r10 h11) (cwV 1 hts (gAV aM_X7_268 aI_X6_premises aS_X6_premises aN_X6 aC_X6_premises) rfl rfl rfl eX6_premises ⟨Nat.le_of_ble_eq_true rfl, Nat.le_of_ble_eq_true rfl⟩) (preV_W (ci := 6) (q := (RX6, TX6, 9)) hK hP hF hS rfl (wC_4 y a σ)) rfl hl.1 rfl (Nat.le_of_ble_eq_true rfl) dX7_theorem_86 ⟨Nat.zero_le _, Nat.zero_le _⟩ hS (AC_le hS.1) (fun H locs hP hS hk1 => ?_)
            exact W.iret (v := r10) hx hb hr (fun T hT hW => ⟨⟨r10, σ, rfl, ⟨Option.some.inj hm, rfl⟩, by rw [posW, hT]; exact hP⟩, hS.F hT⟩) hS.2.2 dX7_theorem_89
          · have hm := (if_neg c9).symm.trans hm
            have sc9 := sw_ne (k := 1) c9 rfl
            by_cases c12 : p2 = 2
            · have hm := (if_pos c12).symm.trans hm
              refine lv_tableIn (tgt := 90) hx hb dX7_theorem_33 (by rw [c12]; decide) (by rw [c12]; decide) (by rw [c12]; rfl) (by decide) ?_
              refine lv_aload_n hx hb dX7_theorem_90 rfl (lv_at hl 0 rfl) ?_
              refine gfX7_theorems hx hb h_X7 hown hK hP l_f35 dX7_theorem_91 ?_
              refine lv_iload_n hx hb dX7_theorem_94 rfl (lv_at hl 1 rfl) ?_
              obtain ⟨r13, h14, hm⟩ := ok_bind hm
              refine calV_i (As := [.int p1]) (rest := []) ⟨hx, hb, hml, hown, hts⟩ (kX6_firstPremise l D y a t hI _ σ p1 r13 h14) (cwV 1 hts (gAV aM_X7_271 aI_X6_firstPremise aS_X6_firstPremise aN_X6 aC_X6_firstPremise) rfl rfl rfl eX6_firstPremise ⟨Nat.le_of_ble_eq_true rfl, Nat.le_of_ble_eq_true rfl⟩) (preV_W (ci := 6) (q := (RX6, TX6, 9)) hK hP hF hS rfl (wC_4 y a σ)) rfl hl.1 rfl (Nat.le_of_ble_eq_true rfl) dX7_theorem_95 ⟨Nat.zero_le _, Nat.zero_le _⟩ hS (AC_le hS.1) (fun H locs hP hS hk1 => ?_)
              exact W.iret (v := r13) hx hb hr (fun T hT hW => ⟨⟨r13, σ, rfl, ⟨Option.some.inj hm, rfl⟩, by rw [posW, hT]; exact hP⟩, hS.F hT⟩) hS.2.2 dX7_theorem_98
            · have hm := (if_neg c12).symm.trans hm
              have sc12 := sw_ne (k := 2) c12 rfl
              by_cases c15 : p2 = 3
              · have hm := (if_pos c15).symm.trans hm
                refine lv_tableIn (tgt := 99) hx hb dX7_theorem_33 (by rw [c15]; decide) (by rw [c15]; decide) (by rw [c15]; rfl) (by decide) ?_
                refine lv_aload_n hx hb dX7_theorem_99 rfl (lv_at hl 0 rfl) ?_
                refine gfX7_theorems hx hb h_X7 hown hK hP l_f35 dX7_theorem_100 ?_
                refine lv_iload_n hx hb dX7_theorem_103 rfl (lv_at hl 1 rfl) ?_
                obtain ⟨r16, h17, hm⟩ := ok_bind hm
                refine calV_i (As := [.int p1]) (rest := []) ⟨hx, hb, hml, hown, hts⟩ (kX6_secondPremise l D y a t hI _ σ p1 r16 h17) (cwV 1 hts (gAV aM_X7_274 aI_X6_secondPremise aS_X6_secondPremise aN_X6 aC_X6_secondPremise) rfl rfl rfl eX6_secondPremise ⟨Nat.le_of_ble_eq_true rfl, Nat.le_of_ble_eq_true rfl⟩) (preV_W (ci := 6) (q := (RX6, TX6, 9)) hK hP hF hS rfl (wC_4 y a σ)) rfl hl.1 rfl (Nat.le_of_ble_eq_true rfl) dX7_theorem_104 ⟨Nat.zero_le _, Nat.zero_le _⟩ hS (AC_le hS.1) (fun H locs hP hS hk1 => ?_)
                exact W.iret (v := r16) hx hb hr (fun T hT hW => ⟨⟨r16, σ, rfl, ⟨Option.some.inj hm, rfl⟩, by rw [posW, hT]; exact hP⟩, hS.F hT⟩) hS.2.2 dX7_theorem_107
              · have hm := (if_neg c15).symm.trans hm
                have sc15 := sw_ne (k := 3) c15 rfl
                by_cases c18 : p2 = 4
                · have hm := (if_pos c18).symm.trans hm
                  refine lv_tableIn (tgt := 108) hx hb dX7_theorem_33 (by rw [c18]; decide) (by rw [c18]; decide) (by rw [c18]; rfl) (by decide) ?_
                  refine lv_aload_n hx hb dX7_theorem_108 rfl (lv_at hl 0 rfl) ?_
                  refine gfX7_theorems hx hb h_X7 hown hK hP l_f35 dX7_theorem_109 ?_
                  refine lv_iload_n hx hb dX7_theorem_112 rfl (lv_at hl 1 rfl) ?_
                  obtain ⟨r19, h20, hm⟩ := ok_bind hm
                  refine calV_i (As := [.int p1]) (rest := []) ⟨hx, hb, hml, hown, hts⟩ (kX6_lines l D y a t hI _ σ p1 r19 h20) (cwV 1 hts (gAV aM_X7_277 aI_X6_lines aS_X6_lines aN_X6 aC_X6_lines) rfl rfl rfl eX6_lines ⟨Nat.le_of_ble_eq_true rfl, Nat.le_of_ble_eq_true rfl⟩) (preV_W (ci := 6) (q := (RX6, TX6, 9)) hK hP hF hS rfl (wC_4 y a σ)) rfl hl.1 rfl (Nat.le_of_ble_eq_true rfl) dX7_theorem_113 ⟨Nat.zero_le _, Nat.zero_le _⟩ hS (AC_le hS.1) (fun H locs hP hS hk1 => ?_)
                  exact W.iret (v := r19) hx hb hr (fun T hT hW => ⟨⟨r19, σ, rfl, ⟨Option.some.inj hm, rfl⟩, by rw [posW, hT]; exact hP⟩, hS.F hT⟩) hS.2.2 dX7_theorem_116
                · have hm := (if_neg c18).symm.trans hm
                  have sc18 := sw_ne (k := 4) c18 rfl
                  by_cases c21 : p2 = 5
                  · have hm := (if_pos c21).symm.trans hm
                    refine lv_tableIn (tgt := 117) hx hb dX7_theorem_33 (by rw [c21]; decide) (by rw [c21]; decide) (by rw [c21]; rfl) (by decide) ?_
                    refine lv_aload_n hx hb dX7_theorem_117 rfl (lv_at hl 0 rfl) ?_
                    refine gfX7_theorems hx hb h_X7 hown hK hP l_f35 dX7_theorem_118 ?_
                    refine lv_iload_n hx hb dX7_theorem_121 rfl (lv_at hl 1 rfl) ?_
                    obtain ⟨r22, h23, hm⟩ := ok_bind hm
                    refine calV_i (As := [.int p1]) (rest := []) ⟨hx, hb, hml, hown, hts⟩ (kX6_needed l D y a t hI _ σ p1 r22 h23) (cwV 1 hts (gAV aM_X7_280 aI_X6_needed aS_X6_needed aN_X6 aC_X6_needed) rfl rfl rfl eX6_needed ⟨Nat.le_of_ble_eq_true rfl, Nat.le_of_ble_eq_true rfl⟩) (preV_W (ci := 6) (q := (RX6, TX6, 9)) hK hP hF hS rfl (wC_4 y a σ)) rfl hl.1 rfl (Nat.le_of_ble_eq_true rfl) dX7_theorem_122 ⟨Nat.zero_le _, Nat.zero_le _⟩ hS (AC_le hS.1) (fun H locs hP hS hk1 => ?_)
                    exact W.iret (v := r22) hx hb hr (fun T hT hW => ⟨⟨r22, σ, rfl, ⟨Option.some.inj hm, rfl⟩, by rw [posW, hT]; exact hP⟩, hS.F hT⟩) hS.2.2 dX7_theorem_125
                  · have hm := (if_neg c21).symm.trans hm
                    have sc21 := sw_ne (k := 5) c21 rfl
                    refine lv_tableOut (tgt := 126) hx hb dX7_theorem_33 (by omega) (by decide) ?_
                    refine lv_aload_n hx hb dX7_theorem_126 rfl (lv_at hl 0 rfl) ?_
                    refine gfX7_theorems hx hb h_X7 hown hK hP l_f35 dX7_theorem_127 ?_
                    refine lv_iload_n hx hb dX7_theorem_130 rfl (lv_at hl 1 rfl) ?_
                    obtain ⟨r24, h25, hm⟩ := ok_bind hm
                    refine calV_i (As := [.int p1]) (rest := []) ⟨hx, hb, hml, hown, hts⟩ (kX6_uses l D y a t hI _ σ p1 r24 h25) (cwV 1 hts (gAV aM_X7_283 aI_X6_uses aS_X6_uses aN_X6 aC_X6_uses) rfl rfl rfl eX6_uses ⟨Nat.le_of_ble_eq_true rfl, Nat.le_of_ble_eq_true rfl⟩) (preV_W (ci := 6) (q := (RX6, TX6, 9)) hK hP hF hS rfl (wC_4 y a σ)) rfl hl.1 rfl (Nat.le_of_ble_eq_true rfl) dX7_theorem_131 ⟨Nat.zero_le _, Nat.zero_le _⟩ hS (AC_le hS.1) (fun H locs hP hS hk1 => ?_)
                    exact W.iret (v := r24) hx hb hr (fun T hT hW => ⟨⟨r24, σ, rfl, ⟨Option.some.inj hm, rfl⟩, by rw [posW, hT]; exact hP⟩, hS.F hT⟩) hS.2.2 dX7_theorem_134
      · have hm := (if_neg c5).symm.trans hm
        cases hm
theorem eX7_instance : yX7_instance.cls = RX7 ∧ yX7_instance.cls ≠ "java/lang/invoke/MethodHandle" ∧ yX7_instance.cls ≠ "java/lang/invoke/VarHandle" ∧ (parseMethodDescriptor yX7_instance.desc).map (fun d => d.parameters.length) = some 3 := by decide +kernel
def mX7_instance (σ : St) (p1 : Int32) (p2 : Int32) (p3 : Int32) : Option (Int32 × St) :=
(mX6_isKnown σ p1).bind fun r1 =>
if r1 = 0 then (
none)
else (
(mX1_isKnown σ p2).bind fun r4 =>
if r4 = 0 then (
none)
else (
if p3 < 0 then (
none)
else (
if p3 < 8 then (
(mX6_concludes σ p1 p2).bind fun ⟨r9, s11⟩ =>
if r9 = 0 then (
some ((-1), s11))
else (
(mX6_imageOfLetter s11 p3).bind fun r13 =>
some (r13, s11)))
else (
none))))
set_option maxHeartbeats 4000000 in
set_option maxRecDepth 100000 in
theorem kX7_instance (l : Launch) (D : va_G) (y : Nat → ClassId) (a t : Nat → Nat) (hI : AI a 37) (sz : Nat) (σ τ : St) (p1 : Int32) (p2 : Int32) (p3 : Int32) (r : Int32) (hm : mX7_instance σ p1 p2 p3 = some (r, τ)) : Met l yX7_instance zX7_instance { frames := 4, cells := 0, slots := 0, locals := 93 } (va_Pc [.ref (a 0), .int p1, .int p2, .int p3] (preW (wC y a) a 37 D y t σ sz)) (va_Qi (fun r' u => r' = r ∧ u = τ) (posW (wC y a) D) (AC a 37 sz)) 0 0 (AC a 37 sz) := by
  refine Met.ofW (cc := cX7_instance) (maxL := 4) (ret := (some .int)) (by decide) rfl ?_
  intro p e s m args below meth c s₁ B hml hv
  obtain ⟨rfl, hsz, hP, hK, hF⟩ := hv
  have hx := B.exec
  have hb := B.bytes
  have hr := B.returns
  have hts := atoms_spec (ws := zX7_instance) B.pre
  have hown : s.vm.findClass RX7 = some m.cls := findClass_of_methodNamed B.named
  have hlocks := B.notSynchronized
  subst hsz
  have l_f35 := hts _ (List.mem_cons_of_mem _ aF_X7_35)
  have l_f10 := hts _ (List.mem_cons_of_mem _ aF_X7_10)
  have h_X7 : ∀ w ∈ wsX70, w.before _ s = true := fun w hw => hts w (List.mem_cons_of_mem _ (hwX7 w hw))
  have hS : va_S (AC a 37 s.heap.size) s.heap s.heap [] := va_S.rf
  have hl := lv_entry ([.ref (a 0), .int p1, .int p2, .int p3]) (n := 4) (Nat.le_of_ble_eq_true rfl)
  rw [lg_entry_eq]
  generalize (lg_sl ([.ref (a 0), .int p1, .int p2, .int p3]) ++ List.replicate (4 - (lg_sl ([.ref (a 0), .int p1, .int p2, .int p3])).length) Slot.unset).toArray = ls at hl ⊢
  have hl : lv_has ls 4 [(0, .ref (a 0)), (1, .int p1), (2, .int p2), (3, .int p3)] := hl
  unfold mX7_instance at hm
  refine lv_aload_n hx hb dX7_instance_0 rfl (lv_at hl 0 rfl) ?_
  refine gfX7_theorems hx hb h_X7 hown hK hP l_f35 dX7_instance_1 ?_
  refine lv_iload_n hx hb dX7_instance_4 rfl (lv_at hl 1 rfl) ?_
  obtain ⟨r1, h2, hm⟩ := ok_bind hm
  refine calV_i (As := [.int p1]) (rest := []) ⟨hx, hb, hml, hown, hts⟩ (kX6_isKnown l D y a t hI _ σ p1 r1 h2) (cwV 1 hts (gAV aM_X7_262 aI_X6_isKnown aS_X6_isKnown aN_X6 aC_X6_isKnown) rfl rfl rfl eX6_isKnown ⟨Nat.le_of_ble_eq_true rfl, Nat.le_of_ble_eq_true rfl⟩) (preV_W (ci := 6) (q := (RX6, TX6, 9)) hK hP hF hS rfl (wC_4 y a σ)) rfl hl.1 rfl (Nat.le_of_ble_eq_true rfl) dX7_instance_5 ⟨Nat.zero_le _, Nat.zero_le _⟩ hS (AC_le hS.1) (fun H locs hP hS hk1 => ?_)
  refine lv_if_eq (tgt := 32) hx hb dX7_instance_8 (by decide) (fun c3 => ?_) (fun c3 => ?_)
  · have hm := (if_pos c3).symm.trans hm
    cases hm
  · have hm := (if_neg c3).symm.trans hm
    refine lv_aload_n hx hb dX7_instance_11 rfl (lv_at hl 0 rfl) ?_
    refine gfX7_formulas hx hb h_X7 hown hK hP l_f10 dX7_instance_12 ?_
    refine lv_iload_n hx hb dX7_instance_15 rfl (lv_at hl 2 rfl) ?_
    obtain ⟨r4, h5, hm⟩ := ok_bind hm
    refine calV_i (As := [.int p2]) (rest := []) ⟨hx, hb, hml, hown, hts⟩ (kX1_isKnown l D y a t hI _ σ p2 r4 h5) (cwV 1 hts (gAV aM_X7_105 aI_X1_isKnown aS_X1_isKnown aN_X1 aC_X1_isKnown) rfl rfl rfl eX1_isKnown ⟨Nat.le_of_ble_eq_true rfl, Nat.le_of_ble_eq_true rfl⟩) (preV_W (ci := 1) (q := (RX1, TX1, 8)) hK hP hF hS rfl (wC_1 y a σ)) rfl hl.1 rfl (Nat.le_of_ble_eq_true rfl) dX7_instance_16 ⟨Nat.zero_le _, Nat.zero_le _⟩ hS (AC_le hS.1) (fun H locs hP hS hk1 => ?_)
    refine lv_if_eq (tgt := 32) hx hb dX7_instance_19 (by decide) (fun c6 => ?_) (fun c6 => ?_)
    · have hm := (if_pos c6).symm.trans hm
      cases hm
    · have hm := (if_neg c6).symm.trans hm
      refine lv_iload_n hx hb dX7_instance_22 rfl (lv_at hl 3 rfl) ?_
      refine lv_if_lt (tgt := 32) hx hb dX7_instance_23 (by decide) (fun c7 => ?_) (fun c7 => ?_)
      · have hm := (if_pos c7).symm.trans hm
        cases hm
      · have hm := (if_neg c7).symm.trans hm
        refine lv_iload_n hx hb dX7_instance_26 rfl (lv_at hl 3 rfl) ?_
        refine lv_bipush (v := 8) hx hb dX7_instance_27 (by decide) ?_
        refine lv_icmp_lt (tgt := 43) hx hb dX7_instance_29 (by decide) (fun c8 => ?_) (fun c8 => ?_)
        · have hm := (if_pos c8).symm.trans hm
          refine lv_aload_n hx hb dX7_instance_43 rfl (lv_at hl 0 rfl) ?_
          refine gfX7_theorems hx hb h_X7 hown hK hP l_f35 dX7_instance_44 ?_
          refine lv_iload_n hx hb dX7_instance_47 rfl (lv_at hl 1 rfl) ?_
          refine lv_iload_n hx hb dX7_instance_48 rfl (lv_at hl 2 rfl) ?_
          obtain ⟨⟨r9, s11⟩, h10, hm⟩ := ok_bind hm
          refine calV_i (As := [.int p1, .int p2]) (rest := []) ⟨hx, hb, hml, hown, hts⟩ (kX6_concludes l D y a t hI _ σ s11 p1 p2 r9 h10) (cwV 2 hts (gAV aM_X7_288 aI_X6_concludes aS_X6_concludes aN_X6 aC_X6_concludes) rfl rfl rfl eX6_concludes ⟨Nat.le_of_ble_eq_true rfl, Nat.le_of_ble_eq_true rfl⟩) (preV_W (ci := 6) (q := (RX6, TX6, 9)) hK hP hF hS rfl (wC_4 y a σ)) rfl hl.1 rfl (Nat.le_of_ble_eq_true rfl) dX7_instance_49 ⟨Nat.zero_le _, Nat.zero_le _⟩ hS (AC_le hS.1) (fun H locs hP hS hk1 => ?_)
          refine lv_if_eq (tgt := 66) hx hb dX7_instance_52 (by decide) (fun c12 => ?_) (fun c12 => ?_)
          · have hm := (if_pos c12).symm.trans hm
            refine lv_iconst (v := (-1)) hx hb dX7_instance_66 (by decide) ?_
            exact W.iret (v := (-1)) hx hb hr (fun T hT hW => ⟨⟨(-1), s11, rfl, ⟨congrArg Prod.fst (Option.some.inj hm), congrArg Prod.snd (Option.some.inj hm)⟩, by rw [posW, hT]; exact hP⟩, hS.F hT⟩) hS.2.2 dX7_instance_67
          · have hm := (if_neg c12).symm.trans hm
            refine lv_aload_n hx hb dX7_instance_55 rfl (lv_at hl 0 rfl) ?_
            refine gfX7_theorems hx hb h_X7 hown hK hP l_f35 dX7_instance_56 ?_
            refine lv_iload_n hx hb dX7_instance_59 rfl (lv_at hl 3 rfl) ?_
            obtain ⟨r13, h14, hm⟩ := ok_bind hm
            refine calV_i (As := [.int p3]) (rest := []) ⟨hx, hb, hml, hown, hts⟩ (kX6_imageOfLetter l D y a t hI _ s11 p3 r13 h14) (cwV 1 hts (gAV aM_X7_291 aI_X6_imageOfLetter aS_X6_imageOfLetter aN_X6 aC_X6_imageOfLetter) rfl rfl rfl eX6_imageOfLetter ⟨Nat.le_of_ble_eq_true rfl, Nat.le_of_ble_eq_true rfl⟩) (preV_W (ci := 6) (q := (RX6, TX6, 9)) hK hP hF hS rfl (wC_4 y a s11)) rfl hl.1 rfl (Nat.le_of_ble_eq_true rfl) dX7_instance_60 ⟨Nat.zero_le _, Nat.zero_le _⟩ hS (AC_le hS.1) (fun H locs hP hS hk1 => ?_)
            refine lv_goto (tgt := 67) hx hb dX7_instance_63 (by decide) ?_
            exact W.iret (v := r13) hx hb hr (fun T hT hW => ⟨⟨r13, s11, rfl, ⟨congrArg Prod.fst (Option.some.inj hm), congrArg Prod.snd (Option.some.inj hm)⟩, by rw [posW, hT]; exact hP⟩, hS.F hT⟩) hS.2.2 dX7_instance_67
        · have hm := (if_neg c8).symm.trans hm
          cases hm
theorem eX7_thrift : yX7_thrift.cls = RX7 ∧ yX7_thrift.cls ≠ "java/lang/invoke/MethodHandle" ∧ yX7_thrift.cls ≠ "java/lang/invoke/VarHandle" ∧ (parseMethodDescriptor yX7_thrift.desc).map (fun d => d.parameters.length) = some 0 := by decide +kernel
def mX7_thrift (σ : St) : Option UInt64 :=
(mX6_neededShare σ).bind fun r1 =>
some r1
set_option maxHeartbeats 4000000 in
set_option maxRecDepth 100000 in
theorem kX7_thrift (l : Launch) (D : va_G) (y : Nat → ClassId) (a t : Nat → Nat) (hI : AI a 37) (sz : Nat) (σ : St) (r : UInt64) (hm : mX7_thrift σ = some r) : Met l yX7_thrift zX7_thrift { frames := 1, cells := 0, slots := 0, locals := 23 } (va_Pc [.ref (a 0)] (preW (wC y a) a 37 D y t σ sz)) (va_Qd (fun r' u => r' = r ∧ u = σ) (posW (wC y a) D) (AC a 37 sz)) 0 0 (AC a 37 sz) := by
  refine Met.ofW (cc := cX7_thrift) (maxL := 1) (ret := (some .double)) (by decide) rfl ?_
  intro p e s m args below meth c s₁ B hml hv
  obtain ⟨rfl, hsz, hP, hK, hF⟩ := hv
  have hx := B.exec
  have hb := B.bytes
  have hr := B.returns
  have hts := atoms_spec (ws := zX7_thrift) B.pre
  have hown : s.vm.findClass RX7 = some m.cls := findClass_of_methodNamed B.named
  have hlocks := B.notSynchronized
  subst hsz
  have l_f35 := hts _ (List.mem_cons_of_mem _ aF_X7_35)
  have h_X7 : ∀ w ∈ wsX70, w.before _ s = true := fun w hw => hts w (List.mem_cons_of_mem _ (hwX7 w hw))
  have hS : va_S (AC a 37 s.heap.size) s.heap s.heap [] := va_S.rf
  have hl := lv_entry ([.ref (a 0)]) (n := 1) (Nat.le_of_ble_eq_true rfl)
  rw [lg_entry_eq]
  generalize (lg_sl ([.ref (a 0)]) ++ List.replicate (1 - (lg_sl ([.ref (a 0)])).length) Slot.unset).toArray = ls at hl ⊢
  have hl : lv_has ls 1 [(0, .ref (a 0))] := hl
  unfold mX7_thrift at hm
  refine lv_aload_n hx hb dX7_thrift_0 rfl (lv_at hl 0 rfl) ?_
  refine gfX7_theorems hx hb h_X7 hown hK hP l_f35 dX7_thrift_1 ?_
  obtain ⟨r1, h2, hm⟩ := ok_bind hm
  refine calV_d (As := []) (rest := []) ⟨hx, hb, hml, hown, hts⟩ (kX6_neededShare l D y a t hI _ σ r1 h2) (cwV 0 hts (gAV aM_X7_294 aI_X6_neededShare aS_X6_neededShare aN_X6 aC_X6_neededShare) rfl rfl rfl eX6_neededShare ⟨Nat.le_of_ble_eq_true rfl, Nat.le_of_ble_eq_true rfl⟩) (preV_W (ci := 6) (q := (RX6, TX6, 9)) hK hP hF hS rfl (wC_4 y a σ)) rfl hl.1 rfl (Nat.le_of_ble_eq_true rfl) dX7_thrift_4 ⟨Nat.zero_le _, Nat.zero_le _⟩ hS (AC_le hS.1) (fun H locs hP hS hk1 => ?_)
  exact W.dret (v := r1) hx hb hr (fun T hT hW => ⟨⟨r1, σ, rfl, ⟨Option.some.inj hm, rfl⟩, by rw [posW, hT]; exact hP⟩, hS.F hT⟩) hS.2.2 dX7_thrift_7
theorem eX7_withFormulas : yX7_withFormulas.cls = RX7 ∧ yX7_withFormulas.cls ≠ "java/lang/invoke/MethodHandle" ∧ yX7_withFormulas.cls ≠ "java/lang/invoke/VarHandle" ∧ (parseMethodDescriptor yX7_withFormulas.desc).map (fun d => d.parameters.length) = some 1 := by decide +kernel
def bX7_withFormulas_5 (kh5 : St → Int64 → Int32 → Option Int64) (σ : St) (v1 : Int64) (v2 : Int32) : Option Int64 :=
(mX1_known σ).bind fun r3 =>
if r3 ≤ v2 then (
some v1)
else (
(mX1_sort σ v2).bind fun r6 =>
bnd ((v1 * 31) + r6.toInt64) fun x8 =>
(mX1_first σ v2).bind fun r9 =>
bnd ((x8 * 31) + r9.toInt64) fun x11 =>
(mX1_second σ v2).bind fun r12 =>
bnd ((x11 * 31) + r12.toInt64) fun x14 =>
bnd (v2 + 1) fun x15 =>
kh5 σ x14 x15)
abbrev mX7_withFormulas_5 (n : Nat) : St → Int64 → Int32 → Option Int64 := fx (fun _ _ _ => none) (bX7_withFormulas_5) n
def mX7_withFormulas (σ : St) (p1 : Int64) : Option Int64 :=
mX7_withFormulas_5 NF σ p1 0
set_option maxHeartbeats 4000000 in
set_option maxRecDepth 100000 in
theorem kX7_withFormulas (l : Launch) (D : va_G) (y : Nat → ClassId) (a t : Nat → Nat) (hI : AI a 37) (sz : Nat) (σ : St) (p1 : Int64) (r : Int64) (hm : mX7_withFormulas σ p1 = some r) : Met l yX7_withFormulas zX7_withFormulas { frames := 1, cells := 0, slots := 0, locals := 21 } (va_Pc [.ref (a 0), .long p1] (preW (wC y a) a 37 D y t σ sz)) (va_Ql (fun r' u => r' = r ∧ u = σ) (posW (wC y a) D) (AC a 37 sz)) 0 0 (AC a 37 sz) := by
  refine Met.ofW (cc := cX7_withFormulas) (maxL := 6) (ret := (some .long)) (by decide) rfl ?_
  intro p e s m args below meth c s₁ B hml hv
  obtain ⟨rfl, hsz, hP, hK, hF⟩ := hv
  have hx := B.exec
  have hb := B.bytes
  have hr := B.returns
  have hts := atoms_spec (ws := zX7_withFormulas) B.pre
  have hown : s.vm.findClass RX7 = some m.cls := findClass_of_methodNamed B.named
  have hlocks := B.notSynchronized
  subst hsz
  have l_f10 := hts _ (List.mem_cons_of_mem _ aF_X7_10)
  have l_c300 := hts _ (List.mem_cons_of_mem _ aK_X7_300)
  have h_X7 : ∀ w ∈ wsX70, w.before _ s = true := fun w hw => hts w (List.mem_cons_of_mem _ (hwX7 w hw))
  have hS : va_S (AC a 37 s.heap.size) s.heap s.heap [] := va_S.rf
  have hl := lv_entry ([.ref (a 0), .long p1]) (n := 6) (Nat.le_of_ble_eq_true rfl)
  rw [lg_entry_eq]
  generalize (lg_sl ([.ref (a 0), .long p1]) ++ List.replicate (6 - (lg_sl ([.ref (a 0), .long p1])).length) Slot.unset).toArray = ls at hl ⊢
  have hl : lv_has ls 6 [(0, .ref (a 0)), (1, .long p1)] := hl
  have L_5 : ∀ (n : Nat) (v1 : Int64) (v2 : Int32) (H : Heap) (locs : List Loc) (ls : Array Slot), va_P D vwCl (wC y a σ) H → va_S (AC a 37 s.heap.size) s.heap H locs → lv_has ls 6 [(0, .ref (a 0)), (3, .long v1), (5, .int v2)] → mX7_withFormulas_5 n σ v1 v2 = some r → W p l e (headSpec zX7_withFormulas ({ frames := 1, cells := 0, slots := 0, locals := 21 })).room s m ([.ref (a 0), .long p1] : List Value).toArray below meth c H locs 0 0 (MQ below (va_Ql (fun r' u => r' = r ∧ u = σ) (posW (wC y a) D) (AC a 37 s.heap.size)) ([.ref (a 0), .long p1] : List Value).toArray s 0 0 (AC a 37 s.heap.size)) (F0 m 5 ls []) := by
    intro n
    induction n with
    | zero =>
      intro v1 v2 H locs ls hP hS hl hm
      exact absurd (show (none : Option Int64) = some r from hm) (by intro h; cases h)
    | succ n ih5 =>
      obtain ⟨kh5, ekh5⟩ : ∃ z, z = mX7_withFormulas_5 n := ⟨_, rfl⟩
      have ih5 : ∀ (v1 : Int64) (v2 : Int32) (H : Heap) (locs : List Loc) (ls : Array Slot), va_P D vwCl (wC y a σ) H → va_S (AC a 37 s.heap.size) s.heap H locs → lv_has ls 6 [(0, .ref (a 0)), (3, .long v1), (5, .int v2)] → kh5 σ v1 v2 = some r → W p l e (headSpec zX7_withFormulas ({ frames := 1, cells := 0, slots := 0, locals := 21 })).room s m ([.ref (a 0), .long p1] : List Value).toArray below meth c H locs 0 0 (MQ below (va_Ql (fun r' u => r' = r ∧ u = σ) (posW (wC y a) D) (AC a 37 s.heap.size)) ([.ref (a 0), .long p1] : List Value).toArray s 0 0 (AC a 37 s.heap.size)) (F0 m 5 ls []) := by rw [ekh5]; exact ih5
      intro v1 v2 H locs ls hP hS hl hm
      have hm : bX7_withFormulas_5 (mX7_withFormulas_5 n) σ v1 v2 = some r := hm
      rw [← ekh5] at hm
      unfold bX7_withFormulas_5 at hm
      refine lv_iload hx hb dX7_withFormulas_5 (lv_at hl 2 rfl) ?_
      refine lv_aload_n hx hb dX7_withFormulas_7 rfl (lv_at hl 0 rfl) ?_
      refine gfX7_formulas hx hb h_X7 hown hK hP l_f10 dX7_withFormulas_8 ?_
      obtain ⟨r3, h4, hm⟩ := ok_bind hm
      refine calV_i (As := []) (rest := [.int v2]) ⟨hx, hb, hml, hown, hts⟩ (kX1_known l D y a t hI _ σ r3 h4) (cwV 0 hts (gAV aM_X7_198 aI_X1_known aS_X1_known aN_X1 aC_X1_known) rfl rfl rfl eX1_known ⟨Nat.le_of_ble_eq_true rfl, Nat.le_of_ble_eq_true rfl⟩) (preV_W (ci := 1) (q := (RX1, TX1, 8)) hK hP hF hS rfl (wC_1 y a σ)) rfl hl.1 rfl (Nat.le_of_ble_eq_true rfl) dX7_withFormulas_11 ⟨Nat.zero_le _, Nat.zero_le _⟩ hS (AC_le hS.1) (fun H locs hP hS hk1 => ?_)
      refine lv_icmp_ge (tgt := 74) hx hb dX7_withFormulas_14 (by decide) (fun c5 => ?_) (fun c5 => ?_)
      · have hm := (if_pos c5).symm.trans hm
        refine lv_lload_n hx hb dX7_withFormulas_74 rfl (lv_at hl 1 rfl) ?_
        exact W.lret (v := v1) hx hb hr (fun T hT hW => ⟨⟨v1, σ, rfl, ⟨Option.some.inj hm, rfl⟩, by rw [posW, hT]; exact hP⟩, hS.F hT⟩) hS.2.2 dX7_withFormulas_75
      · have hm := (if_neg c5).symm.trans hm
        refine lv_lload_n hx hb dX7_withFormulas_17 rfl (lv_at hl 1 rfl) ?_
        refine lv_ldc2 (v := 31) hx hb hown l_c300 dX7_withFormulas_18 ?_
        refine lv_lmul hx hb dX7_withFormulas_21 ?_
        refine lv_aload_n hx hb dX7_withFormulas_22 rfl (lv_at hl 0 rfl) ?_
        refine gfX7_formulas hx hb h_X7 hown hK hP l_f10 dX7_withFormulas_23 ?_
        refine lv_iload hx hb dX7_withFormulas_26 (lv_at hl 2 rfl) ?_
        obtain ⟨r6, h7, hm⟩ := ok_bind hm
        refine calV_i (As := [.int v2]) (rest := [.long (v1 * 31)]) ⟨hx, hb, hml, hown, hts⟩ (kX1_sort l D y a t hI _ σ v2 r6 h7) (cwV 1 hts (gAV aM_X7_111 aI_X1_sort aS_X1_sort aN_X1 aC_X1_sort) rfl rfl rfl eX1_sort ⟨Nat.le_of_ble_eq_true rfl, Nat.le_of_ble_eq_true rfl⟩) (preV_W (ci := 1) (q := (RX1, TX1, 8)) hK hP hF hS rfl (wC_1 y a σ)) rfl hl.1 rfl (Nat.le_of_ble_eq_true rfl) dX7_withFormulas_28 ⟨Nat.zero_le _, Nat.zero_le _⟩ hS (AC_le hS.1) (fun H locs hP hS hk1 => ?_)
        refine lv_i2l (v := r6.toInt64) hx hb dX7_withFormulas_31 rfl ?_
        refine lv_ladd hx hb dX7_withFormulas_32 ?_
        refine lv_topl (fun x8 ex8 => ?_)
        have hm := bnd_x ex8 hm
        refine lv_lstore_n (lv' := [(3, .long x8), (0, .ref (a 0)), (5, .int v2)]) hx hb dX7_withFormulas_33 rfl hl (by decide) rfl (fun ls hl => ?_)
        refine lv_lload_n hx hb dX7_withFormulas_34 rfl (lv_at hl 0 rfl) ?_
        refine lv_ldc2 (v := 31) hx hb hown l_c300 dX7_withFormulas_35 ?_
        refine lv_lmul hx hb dX7_withFormulas_38 ?_
        refine lv_aload_n hx hb dX7_withFormulas_39 rfl (lv_at hl 1 rfl) ?_
        refine gfX7_formulas hx hb h_X7 hown hK hP l_f10 dX7_withFormulas_40 ?_
        refine lv_iload hx hb dX7_withFormulas_43 (lv_at hl 2 rfl) ?_
        obtain ⟨r9, h10, hm⟩ := ok_bind hm
        refine calV_i (As := [.int v2]) (rest := [.long (x8 * 31)]) ⟨hx, hb, hml, hown, hts⟩ (kX1_first l D y a t hI _ σ v2 r9 h10) (cwV 1 hts (gAV aM_X7_115 aI_X1_first aS_X1_first aN_X1 aC_X1_first) rfl rfl rfl eX1_first ⟨Nat.le_of_ble_eq_true rfl, Nat.le_of_ble_eq_true rfl⟩) (preV_W (ci := 1) (q := (RX1, TX1, 8)) hK hP hF hS rfl (wC_1 y a σ)) rfl hl.1 rfl (Nat.le_of_ble_eq_true rfl) dX7_withFormulas_45 ⟨Nat.zero_le _, Nat.zero_le _⟩ hS (AC_le hS.1) (fun H locs hP hS hk1 => ?_)
        refine lv_i2l (v := r9.toInt64) hx hb dX7_withFormulas_48 rfl ?_
        refine lv_ladd hx hb dX7_withFormulas_49 ?_
        refine lv_topl (fun x11 ex11 => ?_)
        have hm := bnd_x ex11 hm
        refine lv_lstore_n (lv' := [(3, .long x11), (0, .ref (a 0)), (5, .int v2)]) hx hb dX7_withFormulas_50 rfl hl (by decide) rfl (fun ls hl => ?_)
        refine lv_lload_n hx hb dX7_withFormulas_51 rfl (lv_at hl 0 rfl) ?_
        refine lv_ldc2 (v := 31) hx hb hown l_c300 dX7_withFormulas_52 ?_
        refine lv_lmul hx hb dX7_withFormulas_55 ?_
        refine lv_aload_n hx hb dX7_withFormulas_56 rfl (lv_at hl 1 rfl) ?_
        refine gfX7_formulas hx hb h_X7 hown hK hP l_f10 dX7_withFormulas_57 ?_
        refine lv_iload hx hb dX7_withFormulas_60 (lv_at hl 2 rfl) ?_
        obtain ⟨r12, h13, hm⟩ := ok_bind hm
        refine calV_i (As := [.int v2]) (rest := [.long (x11 * 31)]) ⟨hx, hb, hml, hown, hts⟩ (kX1_second l D y a t hI _ σ v2 r12 h13) (cwV 1 hts (gAV aM_X7_118 aI_X1_second aS_X1_second aN_X1 aC_X1_second) rfl rfl rfl eX1_second ⟨Nat.le_of_ble_eq_true rfl, Nat.le_of_ble_eq_true rfl⟩) (preV_W (ci := 1) (q := (RX1, TX1, 8)) hK hP hF hS rfl (wC_1 y a σ)) rfl hl.1 rfl (Nat.le_of_ble_eq_true rfl) dX7_withFormulas_62 ⟨Nat.zero_le _, Nat.zero_le _⟩ hS (AC_le hS.1) (fun H locs hP hS hk1 => ?_)
        refine lv_i2l (v := r12.toInt64) hx hb dX7_withFormulas_65 rfl ?_
        refine lv_ladd hx hb dX7_withFormulas_66 ?_
        refine lv_topl (fun x14 ex14 => ?_)
        have hm := bnd_x ex14 hm
        refine lv_lstore_n (lv' := [(3, .long x14), (0, .ref (a 0)), (5, .int v2)]) hx hb dX7_withFormulas_67 rfl hl (by decide) rfl (fun ls hl => ?_)
        obtain ⟨x15, ex15⟩ : ∃ z : Int32, z = v2 + 1 := ⟨_, rfl⟩
        have hm := bnd_x ex15 hm
        refine lv_iinc (v := x15) (lv' := [(5, .int x15), (3, .long x14), (0, .ref (a 0))]) hx hb dX7_withFormulas_68 hl (k := 2) rfl (by rw [ex15]; rfl) (by decide) rfl (fun ls hl => ?_)
        refine lv_goto (tgt := 5) hx hb dX7_withFormulas_71 (by decide) ?_
        exact ih5 x14 x15 _ _ _ hP hS (lv_sub hl [2, 1, 0] rfl) hm
  unfold mX7_withFormulas at hm
  refine lv_lload_n hx hb dX7_withFormulas_0 rfl (lv_at hl 1 rfl) ?_
  refine lv_lstore_n (lv' := [(3, .long p1), (0, .ref (a 0)), (1, .long p1)]) hx hb dX7_withFormulas_1 rfl hl (by decide) rfl (fun ls hl => ?_)
  refine lv_iconst (v := 0) hx hb dX7_withFormulas_2 (by decide) ?_
  refine lv_istore (lv' := [(5, .int 0), (3, .long p1), (0, .ref (a 0)), (1, .long p1)]) hx hb dX7_withFormulas_3 hl (by decide) rfl (fun ls hl => ?_)
  exact L_5 NF p1 0 _ _ _ hP hS (lv_sub hl [2, 1, 0] rfl) hm
theorem eX7_withProof : yX7_withProof.cls = RX7 ∧ yX7_withProof.cls ≠ "java/lang/invoke/MethodHandle" ∧ yX7_withProof.cls ≠ "java/lang/invoke/VarHandle" ∧ (parseMethodDescriptor yX7_withProof.desc).map (fun d => d.parameters.length) = some 1 := by decide +kernel
def mX7_withProof_101 (kh58 : St → Int64 → Int32 → Option (Int64 × St)) (s3 : St) (v1 : Int64) (v2 : Int32) : Option (Int64 × St) :=
bnd (v2 + 1) fun x4 =>
kh58 s3 v1 x4
def bX7_withProof_73 (kh58 : St → Int64 → Int32 → Option (Int64 × St)) (kh73 : St → Int64 → Int32 → Int32 → Option (Int64 × St)) (s8 : St) (v5 : Int64) (v6 : Int32) (v7 : Int32) : Option (Int64 × St) :=
if 3 < v7 then (
mX7_withProof_101 kh58 s8 v5 v6)
else (
(mX7_box s8 v6 v7).bind fun r10 =>
bnd ((v5 * 31) + r10.toInt64) fun x12 =>
bnd (v7 + 1) fun x13 =>
kh73 s8 x12 v6 x13)
abbrev mX7_withProof_73 (kh58 : St → Int64 → Int32 → Option (Int64 × St)) (n : Nat) : St → Int64 → Int32 → Int32 → Option (Int64 × St) := fx (fun _ _ _ _ => none) (bX7_withProof_73 kh58) n
def bX7_withProof_58 (kh58 : St → Int64 → Int32 → Option (Int64 × St)) (s16 : St) (v14 : Int64) (v15 : Int32) : Option (Int64 × St) :=
(mX3_boxCount s16).bind fun r17 =>
if r17 ≤ v15 then (
some (v14, s16))
else (
mX7_withProof_73 kh58 NF s16 v14 v15 0)
abbrev mX7_withProof_58 (n : Nat) : St → Int64 → Int32 → Option (Int64 × St) := fx (fun _ _ _ => none) (bX7_withProof_58) n
def mX7_withProof_55 (s21 : St) (v20 : Int64) : Option (Int64 × St) :=
mX7_withProof_58 NF s21 v20 0
def mX7_withProof_49 (kh5 : St → Int64 → Int32 → Option (Int64 × St)) (s24 : St) (v22 : Int64) (v23 : Int32) : Option (Int64 × St) :=
bnd (v23 + 1) fun x25 =>
kh5 s24 v22 x25
def bX7_withProof_20 (kh5 : St → Int64 → Int32 → Option (Int64 × St)) (kh20 : St → Int64 → Int32 → Int32 → Option (Int64 × St)) (s29 : St) (v26 : Int64) (v27 : Int32) (v28 : Int32) : Option (Int64 × St) :=
if 7 < v28 then (
mX7_withProof_49 kh5 s29 v26 v27)
else (
(mX7_line s29 v27 v28).bind fun ⟨r31, s33⟩ =>
bnd ((v26 * 31) + r31.toInt64) fun x34 =>
bnd (v28 + 1) fun x35 =>
kh20 s33 x34 v27 x35)
abbrev mX7_withProof_20 (kh5 : St → Int64 → Int32 → Option (Int64 × St)) (n : Nat) : St → Int64 → Int32 → Int32 → Option (Int64 × St) := fx (fun _ _ _ _ => none) (bX7_withProof_20 kh5) n
def bX7_withProof_5 (kh5 : St → Int64 → Int32 → Option (Int64 × St)) (s38 : St) (v36 : Int64) (v37 : Int32) : Option (Int64 × St) :=
(mX3_lineCount s38).bind fun r39 =>
if r39 ≤ v37 then (
mX7_withProof_55 s38 v36)
else (
mX7_withProof_20 kh5 NF s38 v36 v37 0)
abbrev mX7_withProof_5 (n : Nat) : St → Int64 → Int32 → Option (Int64 × St) := fx (fun _ _ _ => none) (bX7_withProof_5) n
def mX7_withProof (σ : St) (p1 : Int64) : Option (Int64 × St) :=
mX7_withProof_5 NF σ p1 0
set_option maxHeartbeats 4000000 in
set_option maxRecDepth 100000 in
theorem kX7_withProof (l : Launch) (D : va_G) (y : Nat → ClassId) (a t : Nat → Nat) (hI : AI a 37) (sz : Nat) (σ τ : St) (p1 : Int64) (r : Int64) (hm : mX7_withProof σ p1 = some (r, τ)) : Met l yX7_withProof zX7_withProof { frames := 5, cells := 0, slots := 0, locals := 109 } (va_Pc [.ref (a 0), .long p1] (preW (wC y a) a 37 D y t σ sz)) (va_Ql (fun r' u => r' = r ∧ u = τ) (posW (wC y a) D) (AC a 37 sz)) 0 0 (AC a 37 sz) := by
  refine Met.ofW (cc := cX7_withProof) (maxL := 7) (ret := (some .long)) (by decide) rfl ?_
  intro p e s m args below meth c s₁ B hml hv
  obtain ⟨rfl, hsz, hP, hK, hF⟩ := hv
  have hx := B.exec
  have hb := B.bytes
  have hr := B.returns
  have hts := atoms_spec (ws := zX7_withProof) B.pre
  have hown : s.vm.findClass RX7 = some m.cls := findClass_of_methodNamed B.named
  have hlocks := B.notSynchronized
  subst hsz
  have l_f44 := hts _ (List.mem_cons_of_mem _ aF_X7_44)
  have l_c300 := hts _ (List.mem_cons_of_mem _ aK_X7_300)
  have h_X7 : ∀ w ∈ wsX70, w.before _ s = true := fun w hw => hts w (List.mem_cons_of_mem _ (hwX7 w hw))
  have hS : va_S (AC a 37 s.heap.size) s.heap s.heap [] := va_S.rf
  have hl := lv_entry ([.ref (a 0), .long p1]) (n := 7) (Nat.le_of_ble_eq_true rfl)
  rw [lg_entry_eq]
  generalize (lg_sl ([.ref (a 0), .long p1]) ++ List.replicate (7 - (lg_sl ([.ref (a 0), .long p1])).length) Slot.unset).toArray = ls at hl ⊢
  have hl : lv_has ls 7 [(0, .ref (a 0)), (1, .long p1)] := hl
  have L_58 : ∀ (n : Nat) (s16 : St) (v14 : Int64) (v15 : Int32) (H : Heap) (locs : List Loc) (ls : Array Slot), va_P D vwCl (wC y a s16) H → va_S (AC a 37 s.heap.size) s.heap H locs → lv_has ls 7 [(0, .ref (a 0)), (3, .long v14), (5, .int v15)] → mX7_withProof_58 n s16 v14 v15 = some (r, τ) → W p l e (headSpec zX7_withProof ({ frames := 5, cells := 0, slots := 0, locals := 109 })).room s m ([.ref (a 0), .long p1] : List Value).toArray below meth c H locs 0 0 (MQ below (va_Ql (fun r' u => r' = r ∧ u = τ) (posW (wC y a) D) (AC a 37 s.heap.size)) ([.ref (a 0), .long p1] : List Value).toArray s 0 0 (AC a 37 s.heap.size)) (F0 m 58 ls []) := by
    intro n
    induction n with
    | zero =>
      intro s16 v14 v15 H locs ls hP hS hl hm
      exact absurd (show (none : Option (Int64 × St)) = some (r, τ) from hm) (by intro h; cases h)
    | succ n ih58 =>
      obtain ⟨kh58, ekh58⟩ : ∃ z, z = mX7_withProof_58 n := ⟨_, rfl⟩
      have ih58 : ∀ (s16 : St) (v14 : Int64) (v15 : Int32) (H : Heap) (locs : List Loc) (ls : Array Slot), va_P D vwCl (wC y a s16) H → va_S (AC a 37 s.heap.size) s.heap H locs → lv_has ls 7 [(0, .ref (a 0)), (3, .long v14), (5, .int v15)] → kh58 s16 v14 v15 = some (r, τ) → W p l e (headSpec zX7_withProof ({ frames := 5, cells := 0, slots := 0, locals := 109 })).room s m ([.ref (a 0), .long p1] : List Value).toArray below meth c H locs 0 0 (MQ below (va_Ql (fun r' u => r' = r ∧ u = τ) (posW (wC y a) D) (AC a 37 s.heap.size)) ([.ref (a 0), .long p1] : List Value).toArray s 0 0 (AC a 37 s.heap.size)) (F0 m 58 ls []) := by rw [ekh58]; exact ih58
      have L_101 : ∀ (s3 : St) (v1 : Int64) (v2 : Int32) (H : Heap) (locs : List Loc) (ls : Array Slot), va_P D vwCl (wC y a s3) H → va_S (AC a 37 s.heap.size) s.heap H locs → lv_has ls 7 [(0, .ref (a 0)), (3, .long v1), (5, .int v2)] → mX7_withProof_101 kh58 s3 v1 v2 = some (r, τ) → W p l e (headSpec zX7_withProof ({ frames := 5, cells := 0, slots := 0, locals := 109 })).room s m ([.ref (a 0), .long p1] : List Value).toArray below meth c H locs 0 0 (MQ below (va_Ql (fun r' u => r' = r ∧ u = τ) (posW (wC y a) D) (AC a 37 s.heap.size)) ([.ref (a 0), .long p1] : List Value).toArray s 0 0 (AC a 37 s.heap.size)) (F0 m 101 ls []) := by
        intro s3 v1 v2 H locs ls hP hS hl hm
        unfold mX7_withProof_101 at hm
        obtain ⟨x4, ex4⟩ : ∃ z : Int32, z = v2 + 1 := ⟨_, rfl⟩
        have hm := bnd_x ex4 hm
        refine lv_iinc (v := x4) (lv' := [(5, .int x4), (0, .ref (a 0)), (3, .long v1)]) hx hb dX7_withProof_101 hl (k := 2) rfl (by rw [ex4]; rfl) (by decide) rfl (fun ls hl => ?_)
        refine lv_goto (tgt := 58) hx hb dX7_withProof_104 (by decide) ?_
        exact ih58 s3 v1 x4 _ _ _ hP hS (lv_sub hl [1, 2, 0] rfl) hm
      have L_73 : ∀ (n : Nat) (s8 : St) (v5 : Int64) (v6 : Int32) (v7 : Int32) (H : Heap) (locs : List Loc) (ls : Array Slot), va_P D vwCl (wC y a s8) H → va_S (AC a 37 s.heap.size) s.heap H locs → lv_has ls 7 [(0, .ref (a 0)), (3, .long v5), (5, .int v6), (6, .int v7)] → mX7_withProof_73 kh58 n s8 v5 v6 v7 = some (r, τ) → W p l e (headSpec zX7_withProof ({ frames := 5, cells := 0, slots := 0, locals := 109 })).room s m ([.ref (a 0), .long p1] : List Value).toArray below meth c H locs 0 0 (MQ below (va_Ql (fun r' u => r' = r ∧ u = τ) (posW (wC y a) D) (AC a 37 s.heap.size)) ([.ref (a 0), .long p1] : List Value).toArray s 0 0 (AC a 37 s.heap.size)) (F0 m 73 ls []) := by
        intro n
        induction n with
        | zero =>
          intro s8 v5 v6 v7 H locs ls hP hS hl hm
          exact absurd (show (none : Option (Int64 × St)) = some (r, τ) from hm) (by intro h; cases h)
        | succ n ih73 =>
          obtain ⟨kh73, ekh73⟩ : ∃ z, z = mX7_withProof_73 kh58 n := ⟨_, rfl⟩
          have ih73 : ∀ (s8 : St) (v5 : Int64) (v6 : Int32) (v7 : Int32) (H : Heap) (locs : List Loc) (ls : Array Slot), va_P D vwCl (wC y a s8) H → va_S (AC a 37 s.heap.size) s.heap H locs → lv_has ls 7 [(0, .ref (a 0)), (3, .long v5), (5, .int v6), (6, .int v7)] → kh73 s8 v5 v6 v7 = some (r, τ) → W p l e (headSpec zX7_withProof ({ frames := 5, cells := 0, slots := 0, locals := 109 })).room s m ([.ref (a 0), .long p1] : List Value).toArray below meth c H locs 0 0 (MQ below (va_Ql (fun r' u => r' = r ∧ u = τ) (posW (wC y a) D) (AC a 37 s.heap.size)) ([.ref (a 0), .long p1] : List Value).toArray s 0 0 (AC a 37 s.heap.size)) (F0 m 73 ls []) := by rw [ekh73]; exact ih73
          intro s8 v5 v6 v7 H locs ls hP hS hl hm
          have hm : bX7_withProof_73 kh58 (mX7_withProof_73 kh58 n) s8 v5 v6 v7 = some (r, τ) := hm
          rw [← ekh73] at hm
          unfold bX7_withProof_73 at hm
          refine lv_iload hx hb dX7_withProof_73 (lv_at hl 3 rfl) ?_
          refine lv_iconst (v := 3) hx hb dX7_withProof_75 (by decide) ?_
          refine lv_icmp_gt (tgt := 101) hx hb dX7_withProof_76 (by decide) (fun c9 => ?_) (fun c9 => ?_)
          · have hm := (if_pos c9).symm.trans hm
            exact L_101 s8 v5 v6 _ _ _ hP hS (lv_sub hl [0, 1, 2] rfl) hm
          · have hm := (if_neg c9).symm.trans hm
            refine lv_lload_n hx hb dX7_withProof_79 rfl (lv_at hl 1 rfl) ?_
            refine lv_ldc2 (v := 31) hx hb hown l_c300 dX7_withProof_80 ?_
            refine lv_lmul hx hb dX7_withProof_83 ?_
            refine lv_aload_n hx hb dX7_withProof_84 rfl (lv_at hl 0 rfl) ?_
            refine lv_iload hx hb dX7_withProof_85 (lv_at hl 2 rfl) ?_
            refine lv_iload hx hb dX7_withProof_87 (lv_at hl 3 rfl) ?_
            obtain ⟨r10, h11, hm⟩ := ok_bind hm
            refine calV_i (As := [.int v6, .int v7]) (rest := [.long (v5 * 31)]) ⟨hx, hb, hml, hown, hts⟩ (kX7_box l D y a t hI _ s8 v6 v7 r10 h11) (cwV 2 hts (gAV aM_X7_318 aI_X7_box aS_X7_box aN_X7 aC_X7_box) rfl rfl rfl eX7_box ⟨Nat.le_of_ble_eq_true rfl, Nat.le_of_ble_eq_true rfl⟩) (preV_W (ci := 7) (q := (RX7, TX7, 6)) hK hP hF hS rfl (wC_0 y a s8)) rfl hl.1 rfl (Nat.le_of_ble_eq_true rfl) dX7_withProof_89 ⟨Nat.zero_le _, Nat.zero_le _⟩ hS (AC_le hS.1) (fun H locs hP hS hk1 => ?_)
            refine lv_i2l (v := r10.toInt64) hx hb dX7_withProof_92 rfl ?_
            refine lv_ladd hx hb dX7_withProof_93 ?_
            refine lv_topl (fun x12 ex12 => ?_)
            have hm := bnd_x ex12 hm
            refine lv_lstore_n (lv' := [(3, .long x12), (0, .ref (a 0)), (5, .int v6), (6, .int v7)]) hx hb dX7_withProof_94 rfl hl (by decide) rfl (fun ls hl => ?_)
            obtain ⟨x13, ex13⟩ : ∃ z : Int32, z = v7 + 1 := ⟨_, rfl⟩
            have hm := bnd_x ex13 hm
            refine lv_iinc (v := x13) (lv' := [(6, .int x13), (3, .long x12), (0, .ref (a 0)), (5, .int v6)]) hx hb dX7_withProof_95 hl (k := 3) rfl (by rw [ex13]; rfl) (by decide) rfl (fun ls hl => ?_)
            refine lv_goto (tgt := 73) hx hb dX7_withProof_98 (by decide) ?_
            exact ih73 s8 x12 v6 x13 _ _ _ hP hS (lv_sub hl [2, 1, 3, 0] rfl) hm
      intro s16 v14 v15 H locs ls hP hS hl hm
      have hm : bX7_withProof_58 (mX7_withProof_58 n) s16 v14 v15 = some (r, τ) := hm
      rw [← ekh58] at hm
      unfold bX7_withProof_58 at hm
      refine lv_iload hx hb dX7_withProof_58 (lv_at hl 2 rfl) ?_
      refine lv_aload_n hx hb dX7_withProof_60 rfl (lv_at hl 0 rfl) ?_
      refine gfX7_proof hx hb h_X7 hown hK hP l_f44 dX7_withProof_61 ?_
      obtain ⟨r17, h18, hm⟩ := ok_bind hm
      refine calV_i (As := []) (rest := [.int v15]) ⟨hx, hb, hml, hown, hts⟩ (kX3_boxCount l D y a t hI _ s16 r17 h18) (cwV 0 hts (gAV aM_X7_201 aI_X3_boxCount aS_X3_boxCount aN_X3 aC_X3_boxCount) rfl rfl rfl eX3_boxCount ⟨Nat.le_of_ble_eq_true rfl, Nat.le_of_ble_eq_true rfl⟩) (preV_W (ci := 3) (q := (RX3, TX3, 12)) hK hP hF hS rfl (wC_5 y a s16)) rfl hl.1 rfl (Nat.le_of_ble_eq_true rfl) dX7_withProof_64 ⟨Nat.zero_le _, Nat.zero_le _⟩ hS (AC_le hS.1) (fun H locs hP hS hk1 => ?_)
      refine lv_icmp_ge (tgt := 107) hx hb dX7_withProof_67 (by decide) (fun c19 => ?_) (fun c19 => ?_)
      · have hm := (if_pos c19).symm.trans hm
        refine lv_lload_n hx hb dX7_withProof_107 rfl (lv_at hl 1 rfl) ?_
        exact W.lret (v := v14) hx hb hr (fun T hT hW => ⟨⟨v14, s16, rfl, ⟨congrArg Prod.fst (Option.some.inj hm), congrArg Prod.snd (Option.some.inj hm)⟩, by rw [posW, hT]; exact hP⟩, hS.F hT⟩) hS.2.2 dX7_withProof_108
      · have hm := (if_neg c19).symm.trans hm
        refine lv_iconst (v := 0) hx hb dX7_withProof_70 (by decide) ?_
        refine lv_istore (lv' := [(6, .int 0), (0, .ref (a 0)), (3, .long v14), (5, .int v15)]) hx hb dX7_withProof_71 hl (by decide) rfl (fun ls hl => ?_)
        exact L_73 NF s16 v14 v15 0 _ _ _ hP hS (lv_sub hl [1, 2, 3, 0] rfl) hm
  have L_55 : ∀ (s21 : St) (v20 : Int64) (H : Heap) (locs : List Loc) (ls : Array Slot), va_P D vwCl (wC y a s21) H → va_S (AC a 37 s.heap.size) s.heap H locs → lv_has ls 7 [(0, .ref (a 0)), (3, .long v20)] → mX7_withProof_55 s21 v20 = some (r, τ) → W p l e (headSpec zX7_withProof ({ frames := 5, cells := 0, slots := 0, locals := 109 })).room s m ([.ref (a 0), .long p1] : List Value).toArray below meth c H locs 0 0 (MQ below (va_Ql (fun r' u => r' = r ∧ u = τ) (posW (wC y a) D) (AC a 37 s.heap.size)) ([.ref (a 0), .long p1] : List Value).toArray s 0 0 (AC a 37 s.heap.size)) (F0 m 55 ls []) := by
    intro s21 v20 H locs ls hP hS hl hm
    unfold mX7_withProof_55 at hm
    refine lv_iconst (v := 0) hx hb dX7_withProof_55 (by decide) ?_
    refine lv_istore (lv' := [(5, .int 0), (0, .ref (a 0)), (3, .long v20)]) hx hb dX7_withProof_56 hl (by decide) rfl (fun ls hl => ?_)
    exact L_58 NF s21 v20 0 _ _ _ hP hS (lv_sub hl [1, 2, 0] rfl) hm
  have L_5 : ∀ (n : Nat) (s38 : St) (v36 : Int64) (v37 : Int32) (H : Heap) (locs : List Loc) (ls : Array Slot), va_P D vwCl (wC y a s38) H → va_S (AC a 37 s.heap.size) s.heap H locs → lv_has ls 7 [(0, .ref (a 0)), (3, .long v36), (5, .int v37)] → mX7_withProof_5 n s38 v36 v37 = some (r, τ) → W p l e (headSpec zX7_withProof ({ frames := 5, cells := 0, slots := 0, locals := 109 })).room s m ([.ref (a 0), .long p1] : List Value).toArray below meth c H locs 0 0 (MQ below (va_Ql (fun r' u => r' = r ∧ u = τ) (posW (wC y a) D) (AC a 37 s.heap.size)) ([.ref (a 0), .long p1] : List Value).toArray s 0 0 (AC a 37 s.heap.size)) (F0 m 5 ls []) := by
    intro n
    induction n with
    | zero =>
      intro s38 v36 v37 H locs ls hP hS hl hm
      exact absurd (show (none : Option (Int64 × St)) = some (r, τ) from hm) (by intro h; cases h)
    | succ n ih5 =>
      obtain ⟨kh5, ekh5⟩ : ∃ z, z = mX7_withProof_5 n := ⟨_, rfl⟩
      have ih5 : ∀ (s38 : St) (v36 : Int64) (v37 : Int32) (H : Heap) (locs : List Loc) (ls : Array Slot), va_P D vwCl (wC y a s38) H → va_S (AC a 37 s.heap.size) s.heap H locs → lv_has ls 7 [(0, .ref (a 0)), (3, .long v36), (5, .int v37)] → kh5 s38 v36 v37 = some (r, τ) → W p l e (headSpec zX7_withProof ({ frames := 5, cells := 0, slots := 0, locals := 109 })).room s m ([.ref (a 0), .long p1] : List Value).toArray below meth c H locs 0 0 (MQ below (va_Ql (fun r' u => r' = r ∧ u = τ) (posW (wC y a) D) (AC a 37 s.heap.size)) ([.ref (a 0), .long p1] : List Value).toArray s 0 0 (AC a 37 s.heap.size)) (F0 m 5 ls []) := by rw [ekh5]; exact ih5
      have L_49 : ∀ (s24 : St) (v22 : Int64) (v23 : Int32) (H : Heap) (locs : List Loc) (ls : Array Slot), va_P D vwCl (wC y a s24) H → va_S (AC a 37 s.heap.size) s.heap H locs → lv_has ls 7 [(0, .ref (a 0)), (3, .long v22), (5, .int v23)] → mX7_withProof_49 kh5 s24 v22 v23 = some (r, τ) → W p l e (headSpec zX7_withProof ({ frames := 5, cells := 0, slots := 0, locals := 109 })).room s m ([.ref (a 0), .long p1] : List Value).toArray below meth c H locs 0 0 (MQ below (va_Ql (fun r' u => r' = r ∧ u = τ) (posW (wC y a) D) (AC a 37 s.heap.size)) ([.ref (a 0), .long p1] : List Value).toArray s 0 0 (AC a 37 s.heap.size)) (F0 m 49 ls []) := by
        intro s24 v22 v23 H locs ls hP hS hl hm
        unfold mX7_withProof_49 at hm
        obtain ⟨x25, ex25⟩ : ∃ z : Int32, z = v23 + 1 := ⟨_, rfl⟩
        have hm := bnd_x ex25 hm
        refine lv_iinc (v := x25) (lv' := [(5, .int x25), (0, .ref (a 0)), (3, .long v22)]) hx hb dX7_withProof_49 hl (k := 2) rfl (by rw [ex25]; rfl) (by decide) rfl (fun ls hl => ?_)
        refine lv_goto (tgt := 5) hx hb dX7_withProof_52 (by decide) ?_
        exact ih5 s24 v22 x25 _ _ _ hP hS (lv_sub hl [1, 2, 0] rfl) hm
      have L_20 : ∀ (n : Nat) (s29 : St) (v26 : Int64) (v27 : Int32) (v28 : Int32) (H : Heap) (locs : List Loc) (ls : Array Slot), va_P D vwCl (wC y a s29) H → va_S (AC a 37 s.heap.size) s.heap H locs → lv_has ls 7 [(0, .ref (a 0)), (3, .long v26), (5, .int v27), (6, .int v28)] → mX7_withProof_20 kh5 n s29 v26 v27 v28 = some (r, τ) → W p l e (headSpec zX7_withProof ({ frames := 5, cells := 0, slots := 0, locals := 109 })).room s m ([.ref (a 0), .long p1] : List Value).toArray below meth c H locs 0 0 (MQ below (va_Ql (fun r' u => r' = r ∧ u = τ) (posW (wC y a) D) (AC a 37 s.heap.size)) ([.ref (a 0), .long p1] : List Value).toArray s 0 0 (AC a 37 s.heap.size)) (F0 m 20 ls []) := by
        intro n
        induction n with
        | zero =>
          intro s29 v26 v27 v28 H locs ls hP hS hl hm
          exact absurd (show (none : Option (Int64 × St)) = some (r, τ) from hm) (by intro h; cases h)
        | succ n ih20 =>
          obtain ⟨kh20, ekh20⟩ : ∃ z, z = mX7_withProof_20 kh5 n := ⟨_, rfl⟩
          have ih20 : ∀ (s29 : St) (v26 : Int64) (v27 : Int32) (v28 : Int32) (H : Heap) (locs : List Loc) (ls : Array Slot), va_P D vwCl (wC y a s29) H → va_S (AC a 37 s.heap.size) s.heap H locs → lv_has ls 7 [(0, .ref (a 0)), (3, .long v26), (5, .int v27), (6, .int v28)] → kh20 s29 v26 v27 v28 = some (r, τ) → W p l e (headSpec zX7_withProof ({ frames := 5, cells := 0, slots := 0, locals := 109 })).room s m ([.ref (a 0), .long p1] : List Value).toArray below meth c H locs 0 0 (MQ below (va_Ql (fun r' u => r' = r ∧ u = τ) (posW (wC y a) D) (AC a 37 s.heap.size)) ([.ref (a 0), .long p1] : List Value).toArray s 0 0 (AC a 37 s.heap.size)) (F0 m 20 ls []) := by rw [ekh20]; exact ih20
          intro s29 v26 v27 v28 H locs ls hP hS hl hm
          have hm : bX7_withProof_20 kh5 (mX7_withProof_20 kh5 n) s29 v26 v27 v28 = some (r, τ) := hm
          rw [← ekh20] at hm
          unfold bX7_withProof_20 at hm
          refine lv_iload hx hb dX7_withProof_20 (lv_at hl 3 rfl) ?_
          refine lv_bipush (v := 7) hx hb dX7_withProof_22 (by decide) ?_
          refine lv_icmp_gt (tgt := 49) hx hb dX7_withProof_24 (by decide) (fun c30 => ?_) (fun c30 => ?_)
          · have hm := (if_pos c30).symm.trans hm
            exact L_49 s29 v26 v27 _ _ _ hP hS (lv_sub hl [0, 1, 2] rfl) hm
          · have hm := (if_neg c30).symm.trans hm
            refine lv_lload_n hx hb dX7_withProof_27 rfl (lv_at hl 1 rfl) ?_
            refine lv_ldc2 (v := 31) hx hb hown l_c300 dX7_withProof_28 ?_
            refine lv_lmul hx hb dX7_withProof_31 ?_
            refine lv_aload_n hx hb dX7_withProof_32 rfl (lv_at hl 0 rfl) ?_
            refine lv_iload hx hb dX7_withProof_33 (lv_at hl 2 rfl) ?_
            refine lv_iload hx hb dX7_withProof_35 (lv_at hl 3 rfl) ?_
            obtain ⟨⟨r31, s33⟩, h32, hm⟩ := ok_bind hm
            refine calV_i (As := [.int v27, .int v28]) (rest := [.long (v26 * 31)]) ⟨hx, hb, hml, hown, hts⟩ (kX7_line l D y a t hI _ s29 s33 v27 v28 r31 h32) (cwV 2 hts (gAV aM_X7_315 aI_X7_line aS_X7_line aN_X7 aC_X7_line) rfl rfl rfl eX7_line ⟨Nat.le_of_ble_eq_true rfl, Nat.le_of_ble_eq_true rfl⟩) (preV_W (ci := 7) (q := (RX7, TX7, 6)) hK hP hF hS rfl (wC_0 y a s29)) rfl hl.1 rfl (Nat.le_of_ble_eq_true rfl) dX7_withProof_37 ⟨Nat.zero_le _, Nat.zero_le _⟩ hS (AC_le hS.1) (fun H locs hP hS hk1 => ?_)
            refine lv_i2l (v := r31.toInt64) hx hb dX7_withProof_40 rfl ?_
            refine lv_ladd hx hb dX7_withProof_41 ?_
            refine lv_topl (fun x34 ex34 => ?_)
            have hm := bnd_x ex34 hm
            refine lv_lstore_n (lv' := [(3, .long x34), (0, .ref (a 0)), (5, .int v27), (6, .int v28)]) hx hb dX7_withProof_42 rfl hl (by decide) rfl (fun ls hl => ?_)
            obtain ⟨x35, ex35⟩ : ∃ z : Int32, z = v28 + 1 := ⟨_, rfl⟩
            have hm := bnd_x ex35 hm
            refine lv_iinc (v := x35) (lv' := [(6, .int x35), (3, .long x34), (0, .ref (a 0)), (5, .int v27)]) hx hb dX7_withProof_43 hl (k := 3) rfl (by rw [ex35]; rfl) (by decide) rfl (fun ls hl => ?_)
            refine lv_goto (tgt := 20) hx hb dX7_withProof_46 (by decide) ?_
            exact ih20 s33 x34 v27 x35 _ _ _ hP hS (lv_sub hl [2, 1, 3, 0] rfl) hm
      intro s38 v36 v37 H locs ls hP hS hl hm
      have hm : bX7_withProof_5 (mX7_withProof_5 n) s38 v36 v37 = some (r, τ) := hm
      rw [← ekh5] at hm
      unfold bX7_withProof_5 at hm
      refine lv_iload hx hb dX7_withProof_5 (lv_at hl 2 rfl) ?_
      refine lv_aload_n hx hb dX7_withProof_7 rfl (lv_at hl 0 rfl) ?_
      refine gfX7_proof hx hb h_X7 hown hK hP l_f44 dX7_withProof_8 ?_
      obtain ⟨r39, h40, hm⟩ := ok_bind hm
      refine calV_i (As := []) (rest := [.int v37]) ⟨hx, hb, hml, hown, hts⟩ (kX3_lineCount l D y a t hI _ s38 r39 h40) (cwV 0 hts (gAV aM_X7_151 aI_X3_lineCount aS_X3_lineCount aN_X3 aC_X3_lineCount) rfl rfl rfl eX3_lineCount ⟨Nat.le_of_ble_eq_true rfl, Nat.le_of_ble_eq_true rfl⟩) (preV_W (ci := 3) (q := (RX3, TX3, 12)) hK hP hF hS rfl (wC_5 y a s38)) rfl hl.1 rfl (Nat.le_of_ble_eq_true rfl) dX7_withProof_11 ⟨Nat.zero_le _, Nat.zero_le _⟩ hS (AC_le hS.1) (fun H locs hP hS hk1 => ?_)
      refine lv_icmp_ge (tgt := 55) hx hb dX7_withProof_14 (by decide) (fun c41 => ?_) (fun c41 => ?_)
      · have hm := (if_pos c41).symm.trans hm
        exact L_55 s38 v36 _ _ _ hP hS (lv_sub hl [0, 1] rfl) hm
      · have hm := (if_neg c41).symm.trans hm
        refine lv_iconst (v := 0) hx hb dX7_withProof_17 (by decide) ?_
        refine lv_istore (lv' := [(6, .int 0), (0, .ref (a 0)), (3, .long v36), (5, .int v37)]) hx hb dX7_withProof_18 hl (by decide) rfl (fun ls hl => ?_)
        exact L_20 NF s38 v36 v37 0 _ _ _ hP hS (lv_sub hl [1, 2, 3, 0] rfl) hm
  unfold mX7_withProof at hm
  refine lv_lload_n hx hb dX7_withProof_0 rfl (lv_at hl 1 rfl) ?_
  refine lv_lstore_n (lv' := [(3, .long p1), (0, .ref (a 0)), (1, .long p1)]) hx hb dX7_withProof_1 rfl hl (by decide) rfl (fun ls hl => ?_)
  refine lv_iconst (v := 0) hx hb dX7_withProof_2 (by decide) ?_
  refine lv_istore (lv' := [(5, .int 0), (3, .long p1), (0, .ref (a 0)), (1, .long p1)]) hx hb dX7_withProof_3 hl (by decide) rfl (fun ls hl => ?_)
  exact L_5 NF σ p1 0 _ _ _ hP hS (lv_sub hl [2, 1, 0] rfl) hm
theorem eX7_withTheorems : yX7_withTheorems.cls = RX7 ∧ yX7_withTheorems.cls ≠ "java/lang/invoke/MethodHandle" ∧ yX7_withTheorems.cls ≠ "java/lang/invoke/VarHandle" ∧ (parseMethodDescriptor yX7_withTheorems.desc).map (fun d => d.parameters.length) = some 1 := by decide +kernel
def mX7_withTheorems_49 (kh5 : St → Int64 → Int32 → Option Int64) (σ : St) (v1 : Int64) (v2 : Int32) : Option Int64 :=
bnd (v2 + 1) fun x3 =>
kh5 σ v1 x3
def bX7_withTheorems_20 (kh5 : St → Int64 → Int32 → Option Int64) (kh20 : St → Int64 → Int32 → Int32 → Option Int64) (σ : St) (v4 : Int64) (v5 : Int32) (v6 : Int32) : Option Int64 :=
if 6 < v6 then (
mX7_withTheorems_49 kh5 σ v4 v5)
else (
(mX7_theorem σ v5 v6).bind fun r8 =>
bnd ((v4 * 31) + r8.toInt64) fun x10 =>
bnd (v6 + 1) fun x11 =>
kh20 σ x10 v5 x11)
abbrev mX7_withTheorems_20 (kh5 : St → Int64 → Int32 → Option Int64) (n : Nat) : St → Int64 → Int32 → Int32 → Option Int64 := fx (fun _ _ _ _ => none) (bX7_withTheorems_20 kh5) n
def bX7_withTheorems_5 (kh5 : St → Int64 → Int32 → Option Int64) (σ : St) (v12 : Int64) (v13 : Int32) : Option Int64 :=
(mX6_known σ).bind fun r14 =>
if r14 ≤ v13 then (
some v12)
else (
mX7_withTheorems_20 kh5 NF σ v12 v13 0)
abbrev mX7_withTheorems_5 (n : Nat) : St → Int64 → Int32 → Option Int64 := fx (fun _ _ _ => none) (bX7_withTheorems_5) n
def mX7_withTheorems (σ : St) (p1 : Int64) : Option Int64 :=
mX7_withTheorems_5 NF σ p1 0
set_option maxHeartbeats 4000000 in
set_option maxRecDepth 100000 in
theorem kX7_withTheorems (l : Launch) (D : va_G) (y : Nat → ClassId) (a t : Nat → Nat) (hI : AI a 37) (sz : Nat) (σ : St) (p1 : Int64) (r : Int64) (hm : mX7_withTheorems σ p1 = some r) : Met l yX7_withTheorems zX7_withTheorems { frames := 2, cells := 0, slots := 0, locals := 43 } (va_Pc [.ref (a 0), .long p1] (preW (wC y a) a 37 D y t σ sz)) (va_Ql (fun r' u => r' = r ∧ u = σ) (posW (wC y a) D) (AC a 37 sz)) 0 0 (AC a 37 sz) := by
  refine Met.ofW (cc := cX7_withTheorems) (maxL := 7) (ret := (some .long)) (by decide) rfl ?_
  intro p e s m args below meth c s₁ B hml hv
  obtain ⟨rfl, hsz, hP, hK, hF⟩ := hv
  have hx := B.exec
  have hb := B.bytes
  have hr := B.returns
  have hts := atoms_spec (ws := zX7_withTheorems) B.pre
  have hown : s.vm.findClass RX7 = some m.cls := findClass_of_methodNamed B.named
  have hlocks := B.notSynchronized
  subst hsz
  have l_f35 := hts _ (List.mem_cons_of_mem _ aF_X7_35)
  have l_c300 := hts _ (List.mem_cons_of_mem _ aK_X7_300)
  have h_X7 : ∀ w ∈ wsX70, w.before _ s = true := fun w hw => hts w (List.mem_cons_of_mem _ (hwX7 w hw))
  have hS : va_S (AC a 37 s.heap.size) s.heap s.heap [] := va_S.rf
  have hl := lv_entry ([.ref (a 0), .long p1]) (n := 7) (Nat.le_of_ble_eq_true rfl)
  rw [lg_entry_eq]
  generalize (lg_sl ([.ref (a 0), .long p1]) ++ List.replicate (7 - (lg_sl ([.ref (a 0), .long p1])).length) Slot.unset).toArray = ls at hl ⊢
  have hl : lv_has ls 7 [(0, .ref (a 0)), (1, .long p1)] := hl
  have L_5 : ∀ (n : Nat) (v12 : Int64) (v13 : Int32) (H : Heap) (locs : List Loc) (ls : Array Slot), va_P D vwCl (wC y a σ) H → va_S (AC a 37 s.heap.size) s.heap H locs → lv_has ls 7 [(0, .ref (a 0)), (3, .long v12), (5, .int v13)] → mX7_withTheorems_5 n σ v12 v13 = some r → W p l e (headSpec zX7_withTheorems ({ frames := 2, cells := 0, slots := 0, locals := 43 })).room s m ([.ref (a 0), .long p1] : List Value).toArray below meth c H locs 0 0 (MQ below (va_Ql (fun r' u => r' = r ∧ u = σ) (posW (wC y a) D) (AC a 37 s.heap.size)) ([.ref (a 0), .long p1] : List Value).toArray s 0 0 (AC a 37 s.heap.size)) (F0 m 5 ls []) := by
    intro n
    induction n with
    | zero =>
      intro v12 v13 H locs ls hP hS hl hm
      exact absurd (show (none : Option Int64) = some r from hm) (by intro h; cases h)
    | succ n ih5 =>
      obtain ⟨kh5, ekh5⟩ : ∃ z, z = mX7_withTheorems_5 n := ⟨_, rfl⟩
      have ih5 : ∀ (v12 : Int64) (v13 : Int32) (H : Heap) (locs : List Loc) (ls : Array Slot), va_P D vwCl (wC y a σ) H → va_S (AC a 37 s.heap.size) s.heap H locs → lv_has ls 7 [(0, .ref (a 0)), (3, .long v12), (5, .int v13)] → kh5 σ v12 v13 = some r → W p l e (headSpec zX7_withTheorems ({ frames := 2, cells := 0, slots := 0, locals := 43 })).room s m ([.ref (a 0), .long p1] : List Value).toArray below meth c H locs 0 0 (MQ below (va_Ql (fun r' u => r' = r ∧ u = σ) (posW (wC y a) D) (AC a 37 s.heap.size)) ([.ref (a 0), .long p1] : List Value).toArray s 0 0 (AC a 37 s.heap.size)) (F0 m 5 ls []) := by rw [ekh5]; exact ih5
      have L_49 : ∀ (v1 : Int64) (v2 : Int32) (H : Heap) (locs : List Loc) (ls : Array Slot), va_P D vwCl (wC y a σ) H → va_S (AC a 37 s.heap.size) s.heap H locs → lv_has ls 7 [(0, .ref (a 0)), (3, .long v1), (5, .int v2)] → mX7_withTheorems_49 kh5 σ v1 v2 = some r → W p l e (headSpec zX7_withTheorems ({ frames := 2, cells := 0, slots := 0, locals := 43 })).room s m ([.ref (a 0), .long p1] : List Value).toArray below meth c H locs 0 0 (MQ below (va_Ql (fun r' u => r' = r ∧ u = σ) (posW (wC y a) D) (AC a 37 s.heap.size)) ([.ref (a 0), .long p1] : List Value).toArray s 0 0 (AC a 37 s.heap.size)) (F0 m 49 ls []) := by
        intro v1 v2 H locs ls hP hS hl hm
        unfold mX7_withTheorems_49 at hm
        obtain ⟨x3, ex3⟩ : ∃ z : Int32, z = v2 + 1 := ⟨_, rfl⟩
        have hm := bnd_x ex3 hm
        refine lv_iinc (v := x3) (lv' := [(5, .int x3), (0, .ref (a 0)), (3, .long v1)]) hx hb dX7_withTheorems_49 hl (k := 2) rfl (by rw [ex3]; rfl) (by decide) rfl (fun ls hl => ?_)
        refine lv_goto (tgt := 5) hx hb dX7_withTheorems_52 (by decide) ?_
        exact ih5 v1 x3 _ _ _ hP hS (lv_sub hl [1, 2, 0] rfl) hm
      have L_20 : ∀ (n : Nat) (v4 : Int64) (v5 : Int32) (v6 : Int32) (H : Heap) (locs : List Loc) (ls : Array Slot), va_P D vwCl (wC y a σ) H → va_S (AC a 37 s.heap.size) s.heap H locs → lv_has ls 7 [(0, .ref (a 0)), (3, .long v4), (5, .int v5), (6, .int v6)] → mX7_withTheorems_20 kh5 n σ v4 v5 v6 = some r → W p l e (headSpec zX7_withTheorems ({ frames := 2, cells := 0, slots := 0, locals := 43 })).room s m ([.ref (a 0), .long p1] : List Value).toArray below meth c H locs 0 0 (MQ below (va_Ql (fun r' u => r' = r ∧ u = σ) (posW (wC y a) D) (AC a 37 s.heap.size)) ([.ref (a 0), .long p1] : List Value).toArray s 0 0 (AC a 37 s.heap.size)) (F0 m 20 ls []) := by
        intro n
        induction n with
        | zero =>
          intro v4 v5 v6 H locs ls hP hS hl hm
          exact absurd (show (none : Option Int64) = some r from hm) (by intro h; cases h)
        | succ n ih20 =>
          obtain ⟨kh20, ekh20⟩ : ∃ z, z = mX7_withTheorems_20 kh5 n := ⟨_, rfl⟩
          have ih20 : ∀ (v4 : Int64) (v5 : Int32) (v6 : Int32) (H : Heap) (locs : List Loc) (ls : Array Slot), va_P D vwCl (wC y a σ) H → va_S (AC a 37 s.heap.size) s.heap H locs → lv_has ls 7 [(0, .ref (a 0)), (3, .long v4), (5, .int v5), (6, .int v6)] → kh20 σ v4 v5 v6 = some r → W p l e (headSpec zX7_withTheorems ({ frames := 2, cells := 0, slots := 0, locals := 43 })).room s m ([.ref (a 0), .long p1] : List Value).toArray below meth c H locs 0 0 (MQ below (va_Ql (fun r' u => r' = r ∧ u = σ) (posW (wC y a) D) (AC a 37 s.heap.size)) ([.ref (a 0), .long p1] : List Value).toArray s 0 0 (AC a 37 s.heap.size)) (F0 m 20 ls []) := by rw [ekh20]; exact ih20
          intro v4 v5 v6 H locs ls hP hS hl hm
          have hm : bX7_withTheorems_20 kh5 (mX7_withTheorems_20 kh5 n) σ v4 v5 v6 = some r := hm
          rw [← ekh20] at hm
          unfold bX7_withTheorems_20 at hm
          refine lv_iload hx hb dX7_withTheorems_20 (lv_at hl 3 rfl) ?_
          refine lv_bipush (v := 6) hx hb dX7_withTheorems_22 (by decide) ?_
          refine lv_icmp_gt (tgt := 49) hx hb dX7_withTheorems_24 (by decide) (fun c7 => ?_) (fun c7 => ?_)
          · have hm := (if_pos c7).symm.trans hm
            exact L_49 v4 v5 _ _ _ hP hS (lv_sub hl [0, 1, 2] rfl) hm
          · have hm := (if_neg c7).symm.trans hm
            refine lv_lload_n hx hb dX7_withTheorems_27 rfl (lv_at hl 1 rfl) ?_
            refine lv_ldc2 (v := 31) hx hb hown l_c300 dX7_withTheorems_28 ?_
            refine lv_lmul hx hb dX7_withTheorems_31 ?_
            refine lv_aload_n hx hb dX7_withTheorems_32 rfl (lv_at hl 0 rfl) ?_
            refine lv_iload hx hb dX7_withTheorems_33 (lv_at hl 2 rfl) ?_
            refine lv_iload hx hb dX7_withTheorems_35 (lv_at hl 3 rfl) ?_
            obtain ⟨r8, h9, hm⟩ := ok_bind hm
            refine calV_i (As := [.int v5, .int v6]) (rest := [.long (v4 * 31)]) ⟨hx, hb, hml, hown, hts⟩ (kX7_theorem l D y a t hI _ σ v5 v6 r8 h9) (cwV 2 hts (gAV aM_X7_321 aI_X7_theorem aS_X7_theorem aN_X7 aC_X7_theorem) rfl rfl rfl eX7_theorem ⟨Nat.le_of_ble_eq_true rfl, Nat.le_of_ble_eq_true rfl⟩) (preV_W (ci := 7) (q := (RX7, TX7, 6)) hK hP hF hS rfl (wC_0 y a σ)) rfl hl.1 rfl (Nat.le_of_ble_eq_true rfl) dX7_withTheorems_37 ⟨Nat.zero_le _, Nat.zero_le _⟩ hS (AC_le hS.1) (fun H locs hP hS hk1 => ?_)
            refine lv_i2l (v := r8.toInt64) hx hb dX7_withTheorems_40 rfl ?_
            refine lv_ladd hx hb dX7_withTheorems_41 ?_
            refine lv_topl (fun x10 ex10 => ?_)
            have hm := bnd_x ex10 hm
            refine lv_lstore_n (lv' := [(3, .long x10), (0, .ref (a 0)), (5, .int v5), (6, .int v6)]) hx hb dX7_withTheorems_42 rfl hl (by decide) rfl (fun ls hl => ?_)
            obtain ⟨x11, ex11⟩ : ∃ z : Int32, z = v6 + 1 := ⟨_, rfl⟩
            have hm := bnd_x ex11 hm
            refine lv_iinc (v := x11) (lv' := [(6, .int x11), (3, .long x10), (0, .ref (a 0)), (5, .int v5)]) hx hb dX7_withTheorems_43 hl (k := 3) rfl (by rw [ex11]; rfl) (by decide) rfl (fun ls hl => ?_)
            refine lv_goto (tgt := 20) hx hb dX7_withTheorems_46 (by decide) ?_
            exact ih20 x10 v5 x11 _ _ _ hP hS (lv_sub hl [2, 1, 3, 0] rfl) hm
      intro v12 v13 H locs ls hP hS hl hm
      have hm : bX7_withTheorems_5 (mX7_withTheorems_5 n) σ v12 v13 = some r := hm
      rw [← ekh5] at hm
      unfold bX7_withTheorems_5 at hm
      refine lv_iload hx hb dX7_withTheorems_5 (lv_at hl 2 rfl) ?_
      refine lv_aload_n hx hb dX7_withTheorems_7 rfl (lv_at hl 0 rfl) ?_
      refine gfX7_theorems hx hb h_X7 hown hK hP l_f35 dX7_withTheorems_8 ?_
      obtain ⟨r14, h15, hm⟩ := ok_bind hm
      refine calV_i (As := []) (rest := [.int v13]) ⟨hx, hb, hml, hown, hts⟩ (kX6_known l D y a t hI _ σ r14 h15) (cwV 0 hts (gAV aM_X7_204 aI_X6_known aS_X6_known aN_X6 aC_X6_known) rfl rfl rfl eX6_known ⟨Nat.le_of_ble_eq_true rfl, Nat.le_of_ble_eq_true rfl⟩) (preV_W (ci := 6) (q := (RX6, TX6, 9)) hK hP hF hS rfl (wC_4 y a σ)) rfl hl.1 rfl (Nat.le_of_ble_eq_true rfl) dX7_withTheorems_11 ⟨Nat.zero_le _, Nat.zero_le _⟩ hS (AC_le hS.1) (fun H locs hP hS hk1 => ?_)
      refine lv_icmp_ge (tgt := 55) hx hb dX7_withTheorems_14 (by decide) (fun c16 => ?_) (fun c16 => ?_)
      · have hm := (if_pos c16).symm.trans hm
        refine lv_lload_n hx hb dX7_withTheorems_55 rfl (lv_at hl 1 rfl) ?_
        exact W.lret (v := v12) hx hb hr (fun T hT hW => ⟨⟨v12, σ, rfl, ⟨Option.some.inj hm, rfl⟩, by rw [posW, hT]; exact hP⟩, hS.F hT⟩) hS.2.2 dX7_withTheorems_56
      · have hm := (if_neg c16).symm.trans hm
        refine lv_iconst (v := 0) hx hb dX7_withTheorems_17 (by decide) ?_
        refine lv_istore (lv' := [(6, .int 0), (0, .ref (a 0)), (3, .long v12), (5, .int v13)]) hx hb dX7_withTheorems_18 hl (by decide) rfl (fun ls hl => ?_)
        exact L_20 NF v12 v13 0 _ _ _ hP hS (lv_sub hl [1, 2, 3, 0] rfl) hm
  unfold mX7_withTheorems at hm
  refine lv_lload_n hx hb dX7_withTheorems_0 rfl (lv_at hl 1 rfl) ?_
  refine lv_lstore_n (lv' := [(3, .long p1), (0, .ref (a 0)), (1, .long p1)]) hx hb dX7_withTheorems_1 rfl hl (by decide) rfl (fun ls hl => ?_)
  refine lv_iconst (v := 0) hx hb dX7_withTheorems_2 (by decide) ?_
  refine lv_istore (lv' := [(5, .int 0), (3, .long p1), (0, .ref (a 0)), (1, .long p1)]) hx hb dX7_withTheorems_3 hl (by decide) rfl (fun ls hl => ?_)
  exact L_5 NF p1 0 _ _ _ hP hS (lv_sub hl [2, 1, 0] rfl) hm
theorem eX7_digest : yX7_digest.cls = RX7 ∧ yX7_digest.cls ≠ "java/lang/invoke/MethodHandle" ∧ yX7_digest.cls ≠ "java/lang/invoke/VarHandle" ∧ (parseMethodDescriptor yX7_digest.desc).map (fun d => d.parameters.length) = some 0 := by decide +kernel
def bX7_digest_51 (kh51 : St → Int64 → Int32 → Option (Int64 × St)) (s3 : St) (v1 : Int64) (v2 : Int32) : Option (Int64 × St) :=
(mX2_size s3).bind fun r4 =>
if r4 ≤ v2 then (
some (v1, s3))
else (
(mX2_at s3 v2).bind fun r7 =>
bnd ((v1 * 31) + r7.toInt64) fun x9 =>
bnd (v2 + 1) fun x10 =>
kh51 s3 x9 x10)
abbrev mX7_digest_51 (n : Nat) : St → Int64 → Int32 → Option (Int64 × St) := fx (fun _ _ _ => none) (bX7_digest_51) n
def mX7_digest_31 (s12 : St) (v11 : Int64) : Option (Int64 × St) :=
(mX7_withFormulas s12 v11).bind fun r13 =>
(mX7_withProof s12 r13).bind fun ⟨r15, s17⟩ =>
(mX7_withTheorems s17 r15).bind fun r18 =>
mX7_digest_51 NF s17 r18 0
def bX7_digest_6 (kh6 : St → Int64 → Int32 → Option (Int64 × St)) (s22 : St) (v20 : Int64) (v21 : Int32) : Option (Int64 × St) :=
if 8 < v21 then (
mX7_digest_31 s22 v20)
else (
(mX7_count s22 v21).bind fun ⟨r24, s26⟩ =>
bnd ((v20 * 31) + r24.toInt64) fun x27 =>
bnd (v21 + 1) fun x28 =>
kh6 s26 x27 x28)
abbrev mX7_digest_6 (n : Nat) : St → Int64 → Int32 → Option (Int64 × St) := fx (fun _ _ _ => none) (bX7_digest_6) n
def mX7_digest (σ : St) : Option (Int64 × St) :=
mX7_digest_6 NF σ 419 0
set_option maxHeartbeats 4000000 in
set_option maxRecDepth 100000 in
theorem kX7_digest (l : Launch) (D : va_G) (y : Nat → ClassId) (a t : Nat → Nat) (hI : AI a 37) (sz : Nat) (σ τ : St) (r : Int64) (hm : mX7_digest σ = some (r, τ)) : Met l yX7_digest zX7_digest { frames := 6, cells := 0, slots := 0, locals := 135 } (va_Pc [.ref (a 0)] (preW (wC y a) a 37 D y t σ sz)) (va_Ql (fun r' u => r' = r ∧ u = τ) (posW (wC y a) D) (AC a 37 sz)) 0 0 (AC a 37 sz) := by
  refine Met.ofW (cc := cX7_digest) (maxL := 4) (ret := (some .long)) (by decide) rfl ?_
  intro p e s m args below meth c s₁ B hml hv
  obtain ⟨rfl, hsz, hP, hK, hF⟩ := hv
  have hx := B.exec
  have hb := B.bytes
  have hr := B.returns
  have hts := atoms_spec (ws := zX7_digest) B.pre
  have hown : s.vm.findClass RX7 = some m.cls := findClass_of_methodNamed B.named
  have hlocks := B.notSynchronized
  subst hsz
  have l_c298 := hts _ (List.mem_cons_of_mem _ aK_X7_298)
  have l_c300 := hts _ (List.mem_cons_of_mem _ aK_X7_300)
  have l_f28 := hts _ (List.mem_cons_of_mem _ aF_X7_28)
  have h_X7 : ∀ w ∈ wsX70, w.before _ s = true := fun w hw => hts w (List.mem_cons_of_mem _ (hwX7 w hw))
  have hS : va_S (AC a 37 s.heap.size) s.heap s.heap [] := va_S.rf
  have hl := lv_entry ([.ref (a 0)]) (n := 4) (Nat.le_of_ble_eq_true rfl)
  rw [lg_entry_eq]
  generalize (lg_sl ([.ref (a 0)]) ++ List.replicate (4 - (lg_sl ([.ref (a 0)])).length) Slot.unset).toArray = ls at hl ⊢
  have hl : lv_has ls 4 [(0, .ref (a 0))] := hl
  have L_51 : ∀ (n : Nat) (s3 : St) (v1 : Int64) (v2 : Int32) (H : Heap) (locs : List Loc) (ls : Array Slot), va_P D vwCl (wC y a s3) H → va_S (AC a 37 s.heap.size) s.heap H locs → lv_has ls 4 [(0, .ref (a 0)), (1, .long v1), (3, .int v2)] → mX7_digest_51 n s3 v1 v2 = some (r, τ) → W p l e (headSpec zX7_digest ({ frames := 6, cells := 0, slots := 0, locals := 135 })).room s m ([.ref (a 0)] : List Value).toArray below meth c H locs 0 0 (MQ below (va_Ql (fun r' u => r' = r ∧ u = τ) (posW (wC y a) D) (AC a 37 s.heap.size)) ([.ref (a 0)] : List Value).toArray s 0 0 (AC a 37 s.heap.size)) (F0 m 51 ls []) := by
    intro n
    induction n with
    | zero =>
      intro s3 v1 v2 H locs ls hP hS hl hm
      exact absurd (show (none : Option (Int64 × St)) = some (r, τ) from hm) (by intro h; cases h)
    | succ n ih51 =>
      obtain ⟨kh51, ekh51⟩ : ∃ z, z = mX7_digest_51 n := ⟨_, rfl⟩
      have ih51 : ∀ (s3 : St) (v1 : Int64) (v2 : Int32) (H : Heap) (locs : List Loc) (ls : Array Slot), va_P D vwCl (wC y a s3) H → va_S (AC a 37 s.heap.size) s.heap H locs → lv_has ls 4 [(0, .ref (a 0)), (1, .long v1), (3, .int v2)] → kh51 s3 v1 v2 = some (r, τ) → W p l e (headSpec zX7_digest ({ frames := 6, cells := 0, slots := 0, locals := 135 })).room s m ([.ref (a 0)] : List Value).toArray below meth c H locs 0 0 (MQ below (va_Ql (fun r' u => r' = r ∧ u = τ) (posW (wC y a) D) (AC a 37 s.heap.size)) ([.ref (a 0)] : List Value).toArray s 0 0 (AC a 37 s.heap.size)) (F0 m 51 ls []) := by rw [ekh51]; exact ih51
      intro s3 v1 v2 H locs ls hP hS hl hm
      have hm : bX7_digest_51 (mX7_digest_51 n) s3 v1 v2 = some (r, τ) := hm
      rw [← ekh51] at hm
      unfold bX7_digest_51 at hm
      refine lv_iload_n hx hb dX7_digest_51 rfl (lv_at hl 2 rfl) ?_
      refine lv_aload_n hx hb dX7_digest_52 rfl (lv_at hl 0 rfl) ?_
      refine gfX7_paper hx hb h_X7 hown hK hP l_f28 dX7_digest_53 ?_
      obtain ⟨r4, h5, hm⟩ := ok_bind hm
      refine calV_i (As := []) (rest := [.int v2]) ⟨hx, hb, hml, hown, hts⟩ (kX2_size l D y a t hI _ s3 r4 h5) (cwV 0 hts (gAV aM_X7_145 aI_X2_size aS_X2_size aN_X2 aC_X2_size) rfl rfl rfl eX2_size ⟨Nat.le_of_ble_eq_true rfl, Nat.le_of_ble_eq_true rfl⟩) (preV_W (ci := 2) (q := (RX2, TX2, 6)) hK hP hF hS rfl (wC_3 y a s3)) rfl hl.1 rfl (Nat.le_of_ble_eq_true rfl) dX7_digest_56 ⟨Nat.zero_le _, Nat.zero_le _⟩ hS (AC_le hS.1) (fun H locs hP hS hk1 => ?_)
      refine lv_icmp_ge (tgt := 84) hx hb dX7_digest_59 (by decide) (fun c6 => ?_) (fun c6 => ?_)
      · have hm := (if_pos c6).symm.trans hm
        refine lv_lload_n hx hb dX7_digest_84 rfl (lv_at hl 1 rfl) ?_
        exact W.lret (v := v1) hx hb hr (fun T hT hW => ⟨⟨v1, s3, rfl, ⟨congrArg Prod.fst (Option.some.inj hm), congrArg Prod.snd (Option.some.inj hm)⟩, by rw [posW, hT]; exact hP⟩, hS.F hT⟩) hS.2.2 dX7_digest_85
      · have hm := (if_neg c6).symm.trans hm
        refine lv_lload_n hx hb dX7_digest_62 rfl (lv_at hl 1 rfl) ?_
        refine lv_ldc2 (v := 31) hx hb hown l_c300 dX7_digest_63 ?_
        refine lv_lmul hx hb dX7_digest_66 ?_
        refine lv_aload_n hx hb dX7_digest_67 rfl (lv_at hl 0 rfl) ?_
        refine gfX7_paper hx hb h_X7 hown hK hP l_f28 dX7_digest_68 ?_
        refine lv_iload_n hx hb dX7_digest_71 rfl (lv_at hl 2 rfl) ?_
        obtain ⟨r7, h8, hm⟩ := ok_bind hm
        refine calV_i (As := [.int v2]) (rest := [.long (v1 * 31)]) ⟨hx, hb, hml, hown, hts⟩ (kX2_at l D y a t hI _ s3 v2 r7 h8) (cwV 1 hts (gAV aM_X7_148 aI_X2_at aS_X2_at aN_X2 aC_X2_at) rfl rfl rfl eX2_at ⟨Nat.le_of_ble_eq_true rfl, Nat.le_of_ble_eq_true rfl⟩) (preV_W (ci := 2) (q := (RX2, TX2, 6)) hK hP hF hS rfl (wC_3 y a s3)) rfl hl.1 rfl (Nat.le_of_ble_eq_true rfl) dX7_digest_72 ⟨Nat.zero_le _, Nat.zero_le _⟩ hS (AC_le hS.1) (fun H locs hP hS hk1 => ?_)
        refine lv_i2l (v := r7.toInt64) hx hb dX7_digest_75 rfl ?_
        refine lv_ladd hx hb dX7_digest_76 ?_
        refine lv_topl (fun x9 ex9 => ?_)
        have hm := bnd_x ex9 hm
        refine lv_lstore_n (lv' := [(1, .long x9), (0, .ref (a 0)), (3, .int v2)]) hx hb dX7_digest_77 rfl hl (by decide) rfl (fun ls hl => ?_)
        obtain ⟨x10, ex10⟩ : ∃ z : Int32, z = v2 + 1 := ⟨_, rfl⟩
        have hm := bnd_x ex10 hm
        refine lv_iinc (v := x10) (lv' := [(3, .int x10), (1, .long x9), (0, .ref (a 0))]) hx hb dX7_digest_78 hl (k := 2) rfl (by rw [ex10]; rfl) (by decide) rfl (fun ls hl => ?_)
        refine lv_goto (tgt := 51) hx hb dX7_digest_81 (by decide) ?_
        exact ih51 s3 x9 x10 _ _ _ hP hS (lv_sub hl [2, 1, 0] rfl) hm
  have L_31 : ∀ (s12 : St) (v11 : Int64) (H : Heap) (locs : List Loc) (ls : Array Slot), va_P D vwCl (wC y a s12) H → va_S (AC a 37 s.heap.size) s.heap H locs → lv_has ls 4 [(0, .ref (a 0)), (1, .long v11)] → mX7_digest_31 s12 v11 = some (r, τ) → W p l e (headSpec zX7_digest ({ frames := 6, cells := 0, slots := 0, locals := 135 })).room s m ([.ref (a 0)] : List Value).toArray below meth c H locs 0 0 (MQ below (va_Ql (fun r' u => r' = r ∧ u = τ) (posW (wC y a) D) (AC a 37 s.heap.size)) ([.ref (a 0)] : List Value).toArray s 0 0 (AC a 37 s.heap.size)) (F0 m 31 ls []) := by
    intro s12 v11 H locs ls hP hS hl hm
    unfold mX7_digest_31 at hm
    refine lv_aload_n hx hb dX7_digest_31 rfl (lv_at hl 0 rfl) ?_
    refine lv_lload_n hx hb dX7_digest_32 rfl (lv_at hl 1 rfl) ?_
    obtain ⟨r13, h14, hm⟩ := ok_bind hm
    refine calV_l (As := [.long v11]) (rest := []) ⟨hx, hb, hml, hown, hts⟩ (kX7_withFormulas l D y a t hI _ s12 v11 r13 h14) (cwV 1 hts (gAV aM_X7_305 aI_X7_withFormulas aS_X7_withFormulas aN_X7 aC_X7_withFormulas) rfl rfl rfl eX7_withFormulas ⟨Nat.le_of_ble_eq_true rfl, Nat.le_of_ble_eq_true rfl⟩) (preV_W (ci := 7) (q := (RX7, TX7, 6)) hK hP hF hS rfl (wC_0 y a s12)) rfl hl.1 rfl (Nat.le_of_ble_eq_true rfl) dX7_digest_33 ⟨Nat.zero_le _, Nat.zero_le _⟩ hS (AC_le hS.1) (fun H locs hP hS hk1 => ?_)
    refine lv_lstore_n (lv' := [(1, .long r13), (0, .ref (a 0))]) hx hb dX7_digest_36 rfl hl (by decide) rfl (fun ls hl => ?_)
    refine lv_aload_n hx hb dX7_digest_37 rfl (lv_at hl 1 rfl) ?_
    refine lv_lload_n hx hb dX7_digest_38 rfl (lv_at hl 0 rfl) ?_
    obtain ⟨⟨r15, s17⟩, h16, hm⟩ := ok_bind hm
    refine calV_l (As := [.long r13]) (rest := []) ⟨hx, hb, hml, hown, hts⟩ (kX7_withProof l D y a t hI _ s12 s17 r13 r15 h16) (cwV 1 hts (gAV aM_X7_309 aI_X7_withProof aS_X7_withProof aN_X7 aC_X7_withProof) rfl rfl rfl eX7_withProof ⟨Nat.le_of_ble_eq_true rfl, Nat.le_of_ble_eq_true rfl⟩) (preV_W (ci := 7) (q := (RX7, TX7, 6)) hK hP hF hS rfl (wC_0 y a s12)) rfl hl.1 rfl (Nat.le_of_ble_eq_true rfl) dX7_digest_39 ⟨Nat.zero_le _, Nat.zero_le _⟩ hS (AC_le hS.1) (fun H locs hP hS hk1 => ?_)
    refine lv_lstore_n (lv' := [(1, .long r15), (0, .ref (a 0))]) hx hb dX7_digest_42 rfl hl (by decide) rfl (fun ls hl => ?_)
    refine lv_aload_n hx hb dX7_digest_43 rfl (lv_at hl 1 rfl) ?_
    refine lv_lload_n hx hb dX7_digest_44 rfl (lv_at hl 0 rfl) ?_
    obtain ⟨r18, h19, hm⟩ := ok_bind hm
    refine calV_l (As := [.long r15]) (rest := []) ⟨hx, hb, hml, hown, hts⟩ (kX7_withTheorems l D y a t hI _ s17 r15 r18 h19) (cwV 1 hts (gAV aM_X7_312 aI_X7_withTheorems aS_X7_withTheorems aN_X7 aC_X7_withTheorems) rfl rfl rfl eX7_withTheorems ⟨Nat.le_of_ble_eq_true rfl, Nat.le_of_ble_eq_true rfl⟩) (preV_W (ci := 7) (q := (RX7, TX7, 6)) hK hP hF hS rfl (wC_0 y a s17)) rfl hl.1 rfl (Nat.le_of_ble_eq_true rfl) dX7_digest_45 ⟨Nat.zero_le _, Nat.zero_le _⟩ hS (AC_le hS.1) (fun H locs hP hS hk1 => ?_)
    refine lv_lstore_n (lv' := [(1, .long r18), (0, .ref (a 0))]) hx hb dX7_digest_48 rfl hl (by decide) rfl (fun ls hl => ?_)
    refine lv_iconst (v := 0) hx hb dX7_digest_49 (by decide) ?_
    refine lv_istore_n (lv' := [(3, .int 0), (1, .long r18), (0, .ref (a 0))]) hx hb dX7_digest_50 rfl hl (by decide) rfl (fun ls hl => ?_)
    exact L_51 NF s17 r18 0 _ _ _ hP hS (lv_sub hl [2, 1, 0] rfl) hm
  have L_6 : ∀ (n : Nat) (s22 : St) (v20 : Int64) (v21 : Int32) (H : Heap) (locs : List Loc) (ls : Array Slot), va_P D vwCl (wC y a s22) H → va_S (AC a 37 s.heap.size) s.heap H locs → lv_has ls 4 [(0, .ref (a 0)), (1, .long v20), (3, .int v21)] → mX7_digest_6 n s22 v20 v21 = some (r, τ) → W p l e (headSpec zX7_digest ({ frames := 6, cells := 0, slots := 0, locals := 135 })).room s m ([.ref (a 0)] : List Value).toArray below meth c H locs 0 0 (MQ below (va_Ql (fun r' u => r' = r ∧ u = τ) (posW (wC y a) D) (AC a 37 s.heap.size)) ([.ref (a 0)] : List Value).toArray s 0 0 (AC a 37 s.heap.size)) (F0 m 6 ls []) := by
    intro n
    induction n with
    | zero =>
      intro s22 v20 v21 H locs ls hP hS hl hm
      exact absurd (show (none : Option (Int64 × St)) = some (r, τ) from hm) (by intro h; cases h)
    | succ n ih6 =>
      obtain ⟨kh6, ekh6⟩ : ∃ z, z = mX7_digest_6 n := ⟨_, rfl⟩
      have ih6 : ∀ (s22 : St) (v20 : Int64) (v21 : Int32) (H : Heap) (locs : List Loc) (ls : Array Slot), va_P D vwCl (wC y a s22) H → va_S (AC a 37 s.heap.size) s.heap H locs → lv_has ls 4 [(0, .ref (a 0)), (1, .long v20), (3, .int v21)] → kh6 s22 v20 v21 = some (r, τ) → W p l e (headSpec zX7_digest ({ frames := 6, cells := 0, slots := 0, locals := 135 })).room s m ([.ref (a 0)] : List Value).toArray below meth c H locs 0 0 (MQ below (va_Ql (fun r' u => r' = r ∧ u = τ) (posW (wC y a) D) (AC a 37 s.heap.size)) ([.ref (a 0)] : List Value).toArray s 0 0 (AC a 37 s.heap.size)) (F0 m 6 ls []) := by rw [ekh6]; exact ih6
      intro s22 v20 v21 H locs ls hP hS hl hm
      have hm : bX7_digest_6 (mX7_digest_6 n) s22 v20 v21 = some (r, τ) := hm
      rw [← ekh6] at hm
      unfold bX7_digest_6 at hm
      refine lv_iload_n hx hb dX7_digest_6 rfl (lv_at hl 2 rfl) ?_
      refine lv_bipush (v := 8) hx hb dX7_digest_7 (by decide) ?_
      refine lv_icmp_gt (tgt := 31) hx hb dX7_digest_9 (by decide) (fun c23 => ?_) (fun c23 => ?_)
      · have hm := (if_pos c23).symm.trans hm
        exact L_31 s22 v20 _ _ _ hP hS (lv_sub hl [0, 1] rfl) hm
      · have hm := (if_neg c23).symm.trans hm
        refine lv_lload_n hx hb dX7_digest_12 rfl (lv_at hl 1 rfl) ?_
        refine lv_ldc2 (v := 31) hx hb hown l_c300 dX7_digest_13 ?_
        refine lv_lmul hx hb dX7_digest_16 ?_
        refine lv_aload_n hx hb dX7_digest_17 rfl (lv_at hl 0 rfl) ?_
        refine lv_iload_n hx hb dX7_digest_18 rfl (lv_at hl 2 rfl) ?_
        obtain ⟨⟨r24, s26⟩, h25, hm⟩ := ok_bind hm
        refine calV_i (As := [.int v21]) (rest := [.long (v20 * 31)]) ⟨hx, hb, hml, hown, hts⟩ (kX7_count l D y a t hI _ s22 s26 v21 r24 h25) (cwV 1 hts (gAV aM_X7_302 aI_X7_count aS_X7_count aN_X7 aC_X7_count) rfl rfl rfl eX7_count ⟨Nat.le_of_ble_eq_true rfl, Nat.le_of_ble_eq_true rfl⟩) (preV_W (ci := 7) (q := (RX7, TX7, 6)) hK hP hF hS rfl (wC_0 y a s22)) rfl hl.1 rfl (Nat.le_of_ble_eq_true rfl) dX7_digest_19 ⟨Nat.zero_le _, Nat.zero_le _⟩ hS (AC_le hS.1) (fun H locs hP hS hk1 => ?_)
        refine lv_i2l (v := r24.toInt64) hx hb dX7_digest_22 rfl ?_
        refine lv_ladd hx hb dX7_digest_23 ?_
        refine lv_topl (fun x27 ex27 => ?_)
        have hm := bnd_x ex27 hm
        refine lv_lstore_n (lv' := [(1, .long x27), (0, .ref (a 0)), (3, .int v21)]) hx hb dX7_digest_24 rfl hl (by decide) rfl (fun ls hl => ?_)
        obtain ⟨x28, ex28⟩ : ∃ z : Int32, z = v21 + 1 := ⟨_, rfl⟩
        have hm := bnd_x ex28 hm
        refine lv_iinc (v := x28) (lv' := [(3, .int x28), (1, .long x27), (0, .ref (a 0))]) hx hb dX7_digest_25 hl (k := 2) rfl (by rw [ex28]; rfl) (by decide) rfl (fun ls hl => ?_)
        refine lv_goto (tgt := 6) hx hb dX7_digest_28 (by decide) ?_
        exact ih6 s26 x27 x28 _ _ _ hP hS (lv_sub hl [2, 1, 0] rfl) hm
  unfold mX7_digest at hm
  refine lv_ldc2 (v := 419) hx hb hown l_c298 dX7_digest_0 ?_
  refine lv_lstore_n (lv' := [(1, .long 419), (0, .ref (a 0))]) hx hb dX7_digest_3 rfl hl (by decide) rfl (fun ls hl => ?_)
  refine lv_iconst (v := 0) hx hb dX7_digest_4 (by decide) ?_
  refine lv_istore_n (lv' := [(3, .int 0), (1, .long 419), (0, .ref (a 0))]) hx hb dX7_digest_5 rfl hl (by decide) rfl (fun ls hl => ?_)
  exact L_6 NF σ 419 0 _ _ _ hP hS (lv_sub hl [2, 1, 0] rfl) hm
