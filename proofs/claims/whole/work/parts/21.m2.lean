theorem eX8_errorAt : yX8_errorAt.cls = RX8 ∧ yX8_errorAt.cls ≠ "java/lang/invoke/MethodHandle" ∧ yX8_errorAt.cls ≠ "java/lang/invoke/VarHandle" ∧ (parseMethodDescriptor yX8_errorAt.desc).map (fun d => d.parameters.length) = some 0 := by decide +kernel
def mX8_errorAt (σ : St) : Option (Int32 × St) :=
bnd (su σ 0 (fun _ => 0)) fun s1 =>
some (s1.1 2 0, s1)
set_option maxHeartbeats 4000000 in
set_option maxRecDepth 100000 in
theorem kX8_errorAt (l : Launch) (D : va_G) (y : Nat → ClassId) (a t : Nat → Nat) (hI : AI a 30) (sz : Nat) (σ τ : St) (r : Int32) (hm : mX8_errorAt σ = some (r, τ)) : Met l yX8_errorAt zX8_errorAt { frames := 0, cells := 0, slots := 0, locals := 0 } (va_Pc [.ref (a 0)] (preW (wM y a) a 30 D y t σ sz)) (va_Qi (fun r' u => r' = r ∧ u = τ) (posW (wM y a) D) (AC a 30 sz)) 0 0 (AC a 30 sz) := by
  refine Met.ofW (cc := cX8_errorAt) (maxL := 1) (ret := (some .int)) (by decide) rfl ?_
  intro p e s m args below meth c s₁ B hml hv
  obtain ⟨rfl, hsz, hP, hK, hF⟩ := hv
  have hx := B.exec
  have hb := B.bytes
  have hr := B.returns
  have hts := atoms_spec (ws := zX8_errorAt) B.pre
  have hown : s.vm.findClass RX8 = some m.cls := findClass_of_methodNamed B.named
  have hlocks := B.notSynchronized
  subst hsz
  have l_f106 := hts _ (List.mem_cons_of_mem _ aF_X8_106)
  have l_f13 := hts _ (List.mem_cons_of_mem _ aF_X8_13)
  have h_X8 : ∀ w ∈ wsX80, w.before _ s = true := fun w hw => hts w (List.mem_cons_of_mem _ (hwX8 w hw))
  have hS : va_S (AC a 30 s.heap.size) s.heap s.heap [] := va_S.rf
  have hl := lv_entry ([.ref (a 0)]) (n := 1) (Nat.le_of_ble_eq_true rfl)
  rw [lg_entry_eq]
  generalize (lg_sl ([.ref (a 0)]) ++ List.replicate (1 - (lg_sl ([.ref (a 0)])).length) Slot.unset).toArray = ls at hl ⊢
  have hl : lv_has ls 1 [(0, .ref (a 0))] := hl
  unfold mX8_errorAt at hm
  refine lv_aload_n hx hb dX8_errorAt_0 rfl (lv_at hl 0 rfl) ?_
  refine lv_iconst (v := 0) hx hb dX8_errorAt_1 (by decide) ?_
  refine pfX8_thrown hx hb h_X8 hown hK hP hI AC_in hS l_f106 dX8_errorAt_2 (fun H locs hP hS => ?_)
  generalize es1 : su σ 0 (fun _ => 0) = s1 at hP
  have hm := bnd_x es1.symm hm
  refine lv_aload_n hx hb dX8_errorAt_5 rfl (lv_at hl 0 rfl) ?_
  refine gfX8_errorAt hx hb h_X8 hown hK hP l_f13 dX8_errorAt_6 ?_
  exact W.iret (v := s1.1 2 0) hx hb hr (fun T hT hW => ⟨⟨s1.1 2 0, s1, rfl, ⟨congrArg Prod.fst (Option.some.inj hm), congrArg Prod.snd (Option.some.inj hm)⟩, by rw [posW, hT]; exact hP⟩, hS.F hT⟩) hS.2.2 dX8_errorAt_9
theorem eX8_make : yX8_make.cls = RX8 ∧ yX8_make.cls ≠ "java/lang/invoke/MethodHandle" ∧ yX8_make.cls ≠ "java/lang/invoke/VarHandle" ∧ (parseMethodDescriptor yX8_make.desc).map (fun d => d.parameters.length) = some 3 := by decide +kernel
def mX8_make_28 (s1 : St) : Option (Int32 × St) :=
(mX8_no s1 1).bind fun ⟨r2, s4⟩ =>
some (r2, s4)
def mX8_make_88 (s8 : St) (v5 : Int32) (v6 : Int32) (v7 : Int32) : Option (Int32 × St) :=
(mX8_known s8 v7 v6 v5).bind fun ⟨r9, s11⟩ =>
if r9 = (-1) then (
(mX8_no s11 3).bind fun ⟨r13, s15⟩ =>
some (r13, s15))
else (
some (r9, s11))
def mX8_make_78 (s20 : St) (v16 : Int32) (v17 : Int32) (v18 : Int32) (v19 : Int32) : Option (Int32 × St) :=
if v16 < 3 then (
mX8_make_88 s20 (-1) v18 v19)
else (
mX8_make_88 s20 v17 v18 v19)
def mX8_make_66 (s25 : St) (v22 : Int32) (v23 : Int32) (v24 : Int32) : Option (Int32 × St) :=
if v22 = 1 then (
mX8_make_78 s25 v22 v24 (-1) v22)
else (
mX8_make_78 s25 v22 v24 v23 v22)
def mX8_make_60 (s27 : St) : Option (Int32 × St) :=
(mX8_no s27 2).bind fun ⟨r28, s30⟩ =>
some (r28, s30)
def mX8_make_47 (s34 : St) (v31 : Int32) (v32 : Int32) (v33 : Int32) : Option (Int32 × St) :=
if v31 < 3 then (
mX8_make_66 s34 v31 v32 v33)
else (
(mX8_isFormula s34 v33).bind fun r36 =>
if r36 = 0 then (
mX8_make_60 s34)
else (
mX8_make_66 s34 v31 v32 v33))
def mX8_make_34 (s42 : St) (v39 : Int32) (v40 : Int32) (v41 : Int32) : Option (Int32 × St) :=
if v39 < 2 then (
mX8_make_47 s42 v39 v40 v41)
else (
(mX8_isFormula s42 v40).bind fun r44 =>
if r44 = 0 then (
mX8_make_60 s42)
else (
mX8_make_47 s42 v39 v40 v41))
def mX8_make (σ : St) (p1 : Int32) (p2 : Int32) (p3 : Int32) : Option (Int32 × St) :=
bnd (su σ 0 (fun _ => 0)) fun s47 =>
(mX8_isIn s47 p1 0 5).bind fun r48 =>
if r48 = 0 then (
mX8_make_28 s47)
else (
if p1 = 0 then (
(mX8_isIn s47 p2 0 7).bind fun r52 =>
if r52 = 0 then (
mX8_make_28 s47)
else (
mX8_make_34 s47 p1 p2 p3))
else (
mX8_make_34 s47 p1 p2 p3))
set_option maxHeartbeats 4000000 in
set_option maxRecDepth 100000 in
theorem kX8_make (l : Launch) (D : va_G) (y : Nat → ClassId) (a t : Nat → Nat) (hI : AI a 30) (sz : Nat) (σ τ : St) (p1 : Int32) (p2 : Int32) (p3 : Int32) (r : Int32) (hm : mX8_make σ p1 p2 p3 = some (r, τ)) : Met l yX8_make zX8_make { frames := 2, cells := 0, slots := 0, locals := 50 } (va_Pc [.ref (a 0), .int p1, .int p2, .int p3] (preW (wM y a) a 30 D y t σ sz)) (va_Qi (fun r' u => r' = r ∧ u = τ) (posW (wM y a) D) (AC a 30 sz)) 0 0 (AC a 30 sz) := by
  refine Met.ofW (cc := cX8_make) (maxL := 5) (ret := (some .int)) (by decide) rfl ?_
  intro p e s m args below meth c s₁ B hml hv
  obtain ⟨rfl, hsz, hP, hK, hF⟩ := hv
  have hx := B.exec
  have hb := B.bytes
  have hr := B.returns
  have hts := atoms_spec (ws := zX8_make) B.pre
  have hown : s.vm.findClass RX8 = some m.cls := findClass_of_methodNamed B.named
  have hlocks := B.notSynchronized
  subst hsz
  have l_f106 := hts _ (List.mem_cons_of_mem _ aF_X8_106)
  have h_X8 : ∀ w ∈ wsX80, w.before _ s = true := fun w hw => hts w (List.mem_cons_of_mem _ (hwX8 w hw))
  have hS : va_S (AC a 30 s.heap.size) s.heap s.heap [] := va_S.rf
  have hl := lv_entry ([.ref (a 0), .int p1, .int p2, .int p3]) (n := 5) (Nat.le_of_ble_eq_true rfl)
  rw [lg_entry_eq]
  generalize (lg_sl ([.ref (a 0), .int p1, .int p2, .int p3]) ++ List.replicate (5 - (lg_sl ([.ref (a 0), .int p1, .int p2, .int p3])).length) Slot.unset).toArray = ls at hl ⊢
  have hl : lv_has ls 5 [(0, .ref (a 0)), (1, .int p1), (2, .int p2), (3, .int p3)] := hl
  have L_28 : ∀ (s1 : St) (H : Heap) (locs : List Loc) (ls : Array Slot), va_P D vwCl (wM y a s1) H → va_S (AC a 30 s.heap.size) s.heap H locs → lv_has ls 5 [(0, .ref (a 0))] → mX8_make_28 s1 = some (r, τ) → W p l e (headSpec zX8_make ({ frames := 2, cells := 0, slots := 0, locals := 50 })).room s m ([.ref (a 0), .int p1, .int p2, .int p3] : List Value).toArray below meth c H locs 0 0 (MQ below (va_Qi (fun r' u => r' = r ∧ u = τ) (posW (wM y a) D) (AC a 30 s.heap.size)) ([.ref (a 0), .int p1, .int p2, .int p3] : List Value).toArray s 0 0 (AC a 30 s.heap.size)) (F0 m 28 ls []) := by
    intro s1 H locs ls hP hS hl hm
    unfold mX8_make_28 at hm
    refine lv_aload_n hx hb dX8_make_28 rfl (lv_at hl 0 rfl) ?_
    refine lv_iconst (v := 1) hx hb dX8_make_29 (by decide) ?_
    obtain ⟨⟨r2, s4⟩, h3, hm⟩ := ok_bind hm
    refine calV_i (As := [.int 1]) (rest := []) ⟨hx, hb, hml, hown, hts⟩ (kX8_no l D y a t hI _ s1 s4 1 r2 h3) (cwV 1 hts (gAV aM_X8_119 aI_X8_no aS_X8_no aN_X8 aC_X8_no) rfl rfl rfl eX8_no ⟨Nat.le_of_ble_eq_true rfl, Nat.le_of_ble_eq_true rfl⟩) (preV_W (ci := 8) (q := (RX8, TX8, 42)) hK hP hF hS rfl (wM_0 y a s1)) rfl hl.1 rfl (Nat.le_of_ble_eq_true rfl) dX8_make_30 ⟨Nat.zero_le _, Nat.zero_le _⟩ hS (AC_le hS.1) (fun H locs hP hS hk1 => ?_)
    exact W.iret (v := r2) hx hb hr (fun T hT hW => ⟨⟨r2, s4, rfl, ⟨congrArg Prod.fst (Option.some.inj hm), congrArg Prod.snd (Option.some.inj hm)⟩, by rw [posW, hT]; exact hP⟩, hS.F hT⟩) hS.2.2 dX8_make_33
  have L_88 : ∀ (s8 : St) (v5 : Int32) (v6 : Int32) (v7 : Int32) (H : Heap) (locs : List Loc) (ls : Array Slot), va_P D vwCl (wM y a s8) H → va_S (AC a 30 s.heap.size) s.heap H locs → lv_has ls 5 [(0, .ref (a 0))] → mX8_make_88 s8 v5 v6 v7 = some (r, τ) → W p l e (headSpec zX8_make ({ frames := 2, cells := 0, slots := 0, locals := 50 })).room s m ([.ref (a 0), .int p1, .int p2, .int p3] : List Value).toArray below meth c H locs 0 0 (MQ below (va_Qi (fun r' u => r' = r ∧ u = τ) (posW (wM y a) D) (AC a 30 s.heap.size)) ([.ref (a 0), .int p1, .int p2, .int p3] : List Value).toArray s 0 0 (AC a 30 s.heap.size)) (F0 m 88 ls [.int v5, .int v6, .int v7, .ref (a 0)]) := by
    intro s8 v5 v6 v7 H locs ls hP hS hl hm
    unfold mX8_make_88 at hm
    obtain ⟨⟨r9, s11⟩, h10, hm⟩ := ok_bind hm
    refine calV_i (As := [.int v7, .int v6, .int v5]) (rest := []) ⟨hx, hb, hml, hown, hts⟩ (kX8_known l D y a t hI _ s8 s11 v7 v6 v5 r9 h10) (cwV 3 hts (gAV aM_X8_168 aI_X8_known aS_X8_known aN_X8 aC_X8_known) rfl rfl rfl eX8_known ⟨Nat.le_of_ble_eq_true rfl, Nat.le_of_ble_eq_true rfl⟩) (preV_W (ci := 8) (q := (RX8, TX8, 42)) hK hP hF hS rfl (wM_0 y a s8)) rfl hl.1 rfl (Nat.le_of_ble_eq_true rfl) dX8_make_88 ⟨Nat.zero_le _, Nat.zero_le _⟩ hS (AC_le hS.1) (fun H locs hP hS hk1 => ?_)
    refine lv_istore (lv' := [(4, .int r9), (0, .ref (a 0))]) hx hb dX8_make_91 hl (by decide) rfl (fun ls hl => ?_)
    refine lv_iload hx hb dX8_make_93 (lv_at hl 0 rfl) ?_
    refine lv_iconst (v := (-1)) hx hb dX8_make_95 (by decide) ?_
    refine lv_icmp_ne (tgt := 107) hx hb dX8_make_96 (by decide) (fun c12 => ?_) (fun c12 => ?_)
    · have hm := (if_neg c12).symm.trans hm
      refine lv_iload hx hb dX8_make_107 (lv_at hl 0 rfl) ?_
      exact W.iret (v := r9) hx hb hr (fun T hT hW => ⟨⟨r9, s11, rfl, ⟨congrArg Prod.fst (Option.some.inj hm), congrArg Prod.snd (Option.some.inj hm)⟩, by rw [posW, hT]; exact hP⟩, hS.F hT⟩) hS.2.2 dX8_make_109
    · have hm := (if_pos c12).symm.trans hm
      refine lv_aload_n hx hb dX8_make_99 rfl (lv_at hl 1 rfl) ?_
      refine lv_iconst (v := 3) hx hb dX8_make_100 (by decide) ?_
      obtain ⟨⟨r13, s15⟩, h14, hm⟩ := ok_bind hm
      refine calV_i (As := [.int 3]) (rest := []) ⟨hx, hb, hml, hown, hts⟩ (kX8_no l D y a t hI _ s11 s15 3 r13 h14) (cwV 1 hts (gAV aM_X8_119 aI_X8_no aS_X8_no aN_X8 aC_X8_no) rfl rfl rfl eX8_no ⟨Nat.le_of_ble_eq_true rfl, Nat.le_of_ble_eq_true rfl⟩) (preV_W (ci := 8) (q := (RX8, TX8, 42)) hK hP hF hS rfl (wM_0 y a s11)) rfl hl.1 rfl (Nat.le_of_ble_eq_true rfl) dX8_make_101 ⟨Nat.zero_le _, Nat.zero_le _⟩ hS (AC_le hS.1) (fun H locs hP hS hk1 => ?_)
      refine lv_goto (tgt := 109) hx hb dX8_make_104 (by decide) ?_
      exact W.iret (v := r13) hx hb hr (fun T hT hW => ⟨⟨r13, s15, rfl, ⟨congrArg Prod.fst (Option.some.inj hm), congrArg Prod.snd (Option.some.inj hm)⟩, by rw [posW, hT]; exact hP⟩, hS.F hT⟩) hS.2.2 dX8_make_109
  have L_78 : ∀ (s20 : St) (v16 : Int32) (v17 : Int32) (v18 : Int32) (v19 : Int32) (H : Heap) (locs : List Loc) (ls : Array Slot), va_P D vwCl (wM y a s20) H → va_S (AC a 30 s.heap.size) s.heap H locs → lv_has ls 5 [(0, .ref (a 0)), (1, .int v16), (3, .int v17)] → mX8_make_78 s20 v16 v17 v18 v19 = some (r, τ) → W p l e (headSpec zX8_make ({ frames := 2, cells := 0, slots := 0, locals := 50 })).room s m ([.ref (a 0), .int p1, .int p2, .int p3] : List Value).toArray below meth c H locs 0 0 (MQ below (va_Qi (fun r' u => r' = r ∧ u = τ) (posW (wM y a) D) (AC a 30 s.heap.size)) ([.ref (a 0), .int p1, .int p2, .int p3] : List Value).toArray s 0 0 (AC a 30 s.heap.size)) (F0 m 78 ls [.int v18, .int v19, .ref (a 0)]) := by
    intro s20 v16 v17 v18 v19 H locs ls hP hS hl hm
    unfold mX8_make_78 at hm
    refine lv_iload_n hx hb dX8_make_78 rfl (lv_at hl 1 rfl) ?_
    refine lv_iconst (v := 3) hx hb dX8_make_79 (by decide) ?_
    refine lv_icmp_lt (tgt := 87) hx hb dX8_make_80 (by decide) (fun c21 => ?_) (fun c21 => ?_)
    · have hm := (if_pos c21).symm.trans hm
      refine lv_iconst (v := (-1)) hx hb dX8_make_87 (by decide) ?_
      exact L_88 s20 (-1) v18 v19 _ _ _ hP hS (lv_sub hl [0] rfl) hm
    · have hm := (if_neg c21).symm.trans hm
      refine lv_iload_n hx hb dX8_make_83 rfl (lv_at hl 2 rfl) ?_
      refine lv_goto (tgt := 88) hx hb dX8_make_84 (by decide) ?_
      exact L_88 s20 v17 v18 v19 _ _ _ hP hS (lv_sub hl [0] rfl) hm
  have L_66 : ∀ (s25 : St) (v22 : Int32) (v23 : Int32) (v24 : Int32) (H : Heap) (locs : List Loc) (ls : Array Slot), va_P D vwCl (wM y a s25) H → va_S (AC a 30 s.heap.size) s.heap H locs → lv_has ls 5 [(0, .ref (a 0)), (1, .int v22), (2, .int v23), (3, .int v24)] → mX8_make_66 s25 v22 v23 v24 = some (r, τ) → W p l e (headSpec zX8_make ({ frames := 2, cells := 0, slots := 0, locals := 50 })).room s m ([.ref (a 0), .int p1, .int p2, .int p3] : List Value).toArray below meth c H locs 0 0 (MQ below (va_Qi (fun r' u => r' = r ∧ u = τ) (posW (wM y a) D) (AC a 30 s.heap.size)) ([.ref (a 0), .int p1, .int p2, .int p3] : List Value).toArray s 0 0 (AC a 30 s.heap.size)) (F0 m 66 ls []) := by
    intro s25 v22 v23 v24 H locs ls hP hS hl hm
    unfold mX8_make_66 at hm
    refine lv_aload_n hx hb dX8_make_66 rfl (lv_at hl 0 rfl) ?_
    refine lv_iload_n hx hb dX8_make_67 rfl (lv_at hl 1 rfl) ?_
    refine lv_iload_n hx hb dX8_make_68 rfl (lv_at hl 1 rfl) ?_
    refine lv_iconst (v := 1) hx hb dX8_make_69 (by decide) ?_
    refine lv_icmp_ne (tgt := 77) hx hb dX8_make_70 (by decide) (fun c26 => ?_) (fun c26 => ?_)
    · have hm := (if_neg c26).symm.trans hm
      refine lv_iload_n hx hb dX8_make_77 rfl (lv_at hl 2 rfl) ?_
      exact L_78 s25 v22 v24 v23 v22 _ _ _ hP hS (lv_sub hl [0, 1, 3] rfl) hm
    · have hm := (if_pos c26).symm.trans hm
      refine lv_iconst (v := (-1)) hx hb dX8_make_73 (by decide) ?_
      refine lv_goto (tgt := 78) hx hb dX8_make_74 (by decide) ?_
      exact L_78 s25 v22 v24 (-1) v22 _ _ _ hP hS (lv_sub hl [0, 1, 3] rfl) hm
  have L_60 : ∀ (s27 : St) (H : Heap) (locs : List Loc) (ls : Array Slot), va_P D vwCl (wM y a s27) H → va_S (AC a 30 s.heap.size) s.heap H locs → lv_has ls 5 [(0, .ref (a 0))] → mX8_make_60 s27 = some (r, τ) → W p l e (headSpec zX8_make ({ frames := 2, cells := 0, slots := 0, locals := 50 })).room s m ([.ref (a 0), .int p1, .int p2, .int p3] : List Value).toArray below meth c H locs 0 0 (MQ below (va_Qi (fun r' u => r' = r ∧ u = τ) (posW (wM y a) D) (AC a 30 s.heap.size)) ([.ref (a 0), .int p1, .int p2, .int p3] : List Value).toArray s 0 0 (AC a 30 s.heap.size)) (F0 m 60 ls []) := by
    intro s27 H locs ls hP hS hl hm
    unfold mX8_make_60 at hm
    refine lv_aload_n hx hb dX8_make_60 rfl (lv_at hl 0 rfl) ?_
    refine lv_iconst (v := 2) hx hb dX8_make_61 (by decide) ?_
    obtain ⟨⟨r28, s30⟩, h29, hm⟩ := ok_bind hm
    refine calV_i (As := [.int 2]) (rest := []) ⟨hx, hb, hml, hown, hts⟩ (kX8_no l D y a t hI _ s27 s30 2 r28 h29) (cwV 1 hts (gAV aM_X8_119 aI_X8_no aS_X8_no aN_X8 aC_X8_no) rfl rfl rfl eX8_no ⟨Nat.le_of_ble_eq_true rfl, Nat.le_of_ble_eq_true rfl⟩) (preV_W (ci := 8) (q := (RX8, TX8, 42)) hK hP hF hS rfl (wM_0 y a s27)) rfl hl.1 rfl (Nat.le_of_ble_eq_true rfl) dX8_make_62 ⟨Nat.zero_le _, Nat.zero_le _⟩ hS (AC_le hS.1) (fun H locs hP hS hk1 => ?_)
    exact W.iret (v := r28) hx hb hr (fun T hT hW => ⟨⟨r28, s30, rfl, ⟨congrArg Prod.fst (Option.some.inj hm), congrArg Prod.snd (Option.some.inj hm)⟩, by rw [posW, hT]; exact hP⟩, hS.F hT⟩) hS.2.2 dX8_make_65
  have L_47 : ∀ (s34 : St) (v31 : Int32) (v32 : Int32) (v33 : Int32) (H : Heap) (locs : List Loc) (ls : Array Slot), va_P D vwCl (wM y a s34) H → va_S (AC a 30 s.heap.size) s.heap H locs → lv_has ls 5 [(0, .ref (a 0)), (1, .int v31), (2, .int v32), (3, .int v33)] → mX8_make_47 s34 v31 v32 v33 = some (r, τ) → W p l e (headSpec zX8_make ({ frames := 2, cells := 0, slots := 0, locals := 50 })).room s m ([.ref (a 0), .int p1, .int p2, .int p3] : List Value).toArray below meth c H locs 0 0 (MQ below (va_Qi (fun r' u => r' = r ∧ u = τ) (posW (wM y a) D) (AC a 30 s.heap.size)) ([.ref (a 0), .int p1, .int p2, .int p3] : List Value).toArray s 0 0 (AC a 30 s.heap.size)) (F0 m 47 ls []) := by
    intro s34 v31 v32 v33 H locs ls hP hS hl hm
    unfold mX8_make_47 at hm
    refine lv_iload_n hx hb dX8_make_47 rfl (lv_at hl 1 rfl) ?_
    refine lv_iconst (v := 3) hx hb dX8_make_48 (by decide) ?_
    refine lv_icmp_lt (tgt := 66) hx hb dX8_make_49 (by decide) (fun c35 => ?_) (fun c35 => ?_)
    · have hm := (if_pos c35).symm.trans hm
      exact L_66 s34 v31 v32 v33 _ _ _ hP hS (lv_sub hl [0, 1, 2, 3] rfl) hm
    · have hm := (if_neg c35).symm.trans hm
      refine lv_aload_n hx hb dX8_make_52 rfl (lv_at hl 0 rfl) ?_
      refine lv_iload_n hx hb dX8_make_53 rfl (lv_at hl 3 rfl) ?_
      obtain ⟨r36, h37, hm⟩ := ok_bind hm
      refine calV_i (As := [.int v33]) (rest := []) ⟨hx, hb, hml, hown, hts⟩ (kX8_isFormula l D y a t hI _ s34 v33 r36 h37) (cwV 1 hts (gAV aM_X8_171 aI_X8_isFormula aS_X8_isFormula aN_X8 aC_X8_isFormula) rfl rfl rfl eX8_isFormula ⟨Nat.le_of_ble_eq_true rfl, Nat.le_of_ble_eq_true rfl⟩) (preV_W (ci := 8) (q := (RX8, TX8, 42)) hK hP hF hS rfl (wM_0 y a s34)) rfl hl.1 rfl (Nat.le_of_ble_eq_true rfl) dX8_make_54 ⟨Nat.zero_le _, Nat.zero_le _⟩ hS (AC_le hS.1) (fun H locs hP hS hk1 => ?_)
      refine lv_if_ne (tgt := 66) hx hb dX8_make_57 (by decide) (fun c38 => ?_) (fun c38 => ?_)
      · have hm := (if_neg c38).symm.trans hm
        exact L_66 s34 v31 v32 v33 _ _ _ hP hS (lv_sub hl [0, 1, 2, 3] rfl) hm
      · have hm := (if_pos c38).symm.trans hm
        exact L_60 s34 _ _ _ hP hS (lv_sub hl [0] rfl) hm
  have L_34 : ∀ (s42 : St) (v39 : Int32) (v40 : Int32) (v41 : Int32) (H : Heap) (locs : List Loc) (ls : Array Slot), va_P D vwCl (wM y a s42) H → va_S (AC a 30 s.heap.size) s.heap H locs → lv_has ls 5 [(0, .ref (a 0)), (1, .int v39), (2, .int v40), (3, .int v41)] → mX8_make_34 s42 v39 v40 v41 = some (r, τ) → W p l e (headSpec zX8_make ({ frames := 2, cells := 0, slots := 0, locals := 50 })).room s m ([.ref (a 0), .int p1, .int p2, .int p3] : List Value).toArray below meth c H locs 0 0 (MQ below (va_Qi (fun r' u => r' = r ∧ u = τ) (posW (wM y a) D) (AC a 30 s.heap.size)) ([.ref (a 0), .int p1, .int p2, .int p3] : List Value).toArray s 0 0 (AC a 30 s.heap.size)) (F0 m 34 ls []) := by
    intro s42 v39 v40 v41 H locs ls hP hS hl hm
    unfold mX8_make_34 at hm
    refine lv_iload_n hx hb dX8_make_34 rfl (lv_at hl 1 rfl) ?_
    refine lv_iconst (v := 2) hx hb dX8_make_35 (by decide) ?_
    refine lv_icmp_lt (tgt := 47) hx hb dX8_make_36 (by decide) (fun c43 => ?_) (fun c43 => ?_)
    · have hm := (if_pos c43).symm.trans hm
      exact L_47 s42 v39 v40 v41 _ _ _ hP hS (lv_sub hl [0, 1, 2, 3] rfl) hm
    · have hm := (if_neg c43).symm.trans hm
      refine lv_aload_n hx hb dX8_make_39 rfl (lv_at hl 0 rfl) ?_
      refine lv_iload_n hx hb dX8_make_40 rfl (lv_at hl 2 rfl) ?_
      obtain ⟨r44, h45, hm⟩ := ok_bind hm
      refine calV_i (As := [.int v40]) (rest := []) ⟨hx, hb, hml, hown, hts⟩ (kX8_isFormula l D y a t hI _ s42 v40 r44 h45) (cwV 1 hts (gAV aM_X8_171 aI_X8_isFormula aS_X8_isFormula aN_X8 aC_X8_isFormula) rfl rfl rfl eX8_isFormula ⟨Nat.le_of_ble_eq_true rfl, Nat.le_of_ble_eq_true rfl⟩) (preV_W (ci := 8) (q := (RX8, TX8, 42)) hK hP hF hS rfl (wM_0 y a s42)) rfl hl.1 rfl (Nat.le_of_ble_eq_true rfl) dX8_make_41 ⟨Nat.zero_le _, Nat.zero_le _⟩ hS (AC_le hS.1) (fun H locs hP hS hk1 => ?_)
      refine lv_if_eq (tgt := 60) hx hb dX8_make_44 (by decide) (fun c46 => ?_) (fun c46 => ?_)
      · have hm := (if_pos c46).symm.trans hm
        exact L_60 s42 _ _ _ hP hS (lv_sub hl [0] rfl) hm
      · have hm := (if_neg c46).symm.trans hm
        exact L_47 s42 v39 v40 v41 _ _ _ hP hS (lv_sub hl [0, 1, 2, 3] rfl) hm
  unfold mX8_make at hm
  refine lv_aload_n hx hb dX8_make_0 rfl (lv_at hl 0 rfl) ?_
  refine lv_iconst (v := 0) hx hb dX8_make_1 (by decide) ?_
  refine pfX8_thrown hx hb h_X8 hown hK hP hI AC_in hS l_f106 dX8_make_2 (fun H locs hP hS => ?_)
  generalize es47 : su σ 0 (fun _ => 0) = s47 at hP
  have hm := bnd_x es47.symm hm
  refine lv_iload_n hx hb dX8_make_5 rfl (lv_at hl 1 rfl) ?_
  refine lv_iconst (v := 0) hx hb dX8_make_6 (by decide) ?_
  refine lv_iconst (v := 5) hx hb dX8_make_7 (by decide) ?_
  obtain ⟨r48, h49, hm⟩ := ok_bind hm
  refine calS_i (As := [.int p1, .int 0, .int 5]) (rest := []) ⟨hx, hb, hml, hown, hts⟩ (kX8_isIn l D y a t hI _ s47 p1 0 5 r48 h49) (va_cwS 3 hts (gAS aM_X8_112 aT_X8_isIn aN_X8 aC_X8_isIn) rfl rfl rfl eX8_isIn ⟨Nat.le_of_ble_eq_true rfl, Nat.le_of_ble_eq_true rfl⟩) (preS_W hK hP hF hS) rfl hl.1 rfl (Nat.le_of_ble_eq_true rfl) dX8_make_8 ⟨Nat.zero_le _, Nat.zero_le _⟩ hS (AC_le hS.1) (fun H locs hP hS hk1 => ?_)
  refine lv_if_eq (tgt := 28) hx hb dX8_make_11 (by decide) (fun c50 => ?_) (fun c50 => ?_)
  · have hm := (if_pos c50).symm.trans hm
    exact L_28 s47 _ _ _ hP hS (lv_sub hl [0] rfl) hm
  · have hm := (if_neg c50).symm.trans hm
    refine lv_iload_n hx hb dX8_make_14 rfl (lv_at hl 1 rfl) ?_
    refine lv_if_ne (tgt := 34) hx hb dX8_make_15 (by decide) (fun c51 => ?_) (fun c51 => ?_)
    · have hm := (if_neg c51).symm.trans hm
      exact L_34 s47 p1 p2 p3 _ _ _ hP hS (lv_sub hl [0, 1, 2, 3] rfl) hm
    · have hm := (if_pos c51).symm.trans hm
      refine lv_iload_n hx hb dX8_make_18 rfl (lv_at hl 2 rfl) ?_
      refine lv_iconst (v := 0) hx hb dX8_make_19 (by decide) ?_
      refine lv_bipush (v := 7) hx hb dX8_make_20 (by decide) ?_
      obtain ⟨r52, h53, hm⟩ := ok_bind hm
      refine calS_i (As := [.int p2, .int 0, .int 7]) (rest := []) ⟨hx, hb, hml, hown, hts⟩ (kX8_isIn l D y a t hI _ s47 p2 0 7 r52 h53) (va_cwS 3 hts (gAS aM_X8_112 aT_X8_isIn aN_X8 aC_X8_isIn) rfl rfl rfl eX8_isIn ⟨Nat.le_of_ble_eq_true rfl, Nat.le_of_ble_eq_true rfl⟩) (preS_W hK hP hF hS) rfl hl.1 rfl (Nat.le_of_ble_eq_true rfl) dX8_make_22 ⟨Nat.zero_le _, Nat.zero_le _⟩ hS (AC_le hS.1) (fun H locs hP hS hk1 => ?_)
      refine lv_if_ne (tgt := 34) hx hb dX8_make_25 (by decide) (fun c54 => ?_) (fun c54 => ?_)
      · have hm := (if_neg c54).symm.trans hm
        exact L_34 s47 p1 p2 p3 _ _ _ hP hS (lv_sub hl [0, 1, 2, 3] rfl) hm
      · have hm := (if_pos c54).symm.trans hm
        exact L_28 s47 _ _ _ hP hS (lv_sub hl [0] rfl) hm
theorem eX8_trueFor : yX8_trueFor.cls = RX8 ∧ yX8_trueFor.cls ≠ "java/lang/invoke/MethodHandle" ∧ yX8_trueFor.cls ≠ "java/lang/invoke/VarHandle" ∧ (parseMethodDescriptor yX8_trueFor.desc).map (fun d => d.parameters.length) = some 1 := by decide +kernel
def mX8_trueFor_26 (kh4 : St → Int32 → Int32 → Int32 → Option Int32) (σ : St) (v1 : Int32) (v2 : Int32) (v3 : Int32) (v4 : Int32) : Option Int32 :=
bnd (v4 + v3) fun x5 =>
bnd (v2 + 1) fun x6 =>
kh4 σ v1 x5 x6
def bX8_trueFor_4 (kh4 : St → Int32 → Int32 → Int32 → Option Int32) (σ : St) (v7 : Int32) (v8 : Int32) (v9 : Int32) : Option Int32 :=
if 256 ≤ v9 then (
some v8)
else (
(mX8_isTrueAt σ v7 v9).bind fun r11 =>
if r11 = 0 then (
mX8_trueFor_26 kh4 σ v7 v9 0 v8)
else (
mX8_trueFor_26 kh4 σ v7 v9 1 v8))
abbrev mX8_trueFor_4 (n : Nat) : St → Int32 → Int32 → Int32 → Option Int32 := fx (fun _ _ _ _ => none) (bX8_trueFor_4) n
def mX8_trueFor (σ : St) (p1 : Int32) : Option Int32 :=
mX8_trueFor_4 NF σ p1 0 0
set_option maxHeartbeats 4000000 in
set_option maxRecDepth 100000 in
theorem kX8_trueFor (l : Launch) (D : va_G) (y : Nat → ClassId) (a t : Nat → Nat) (hI : AI a 30) (sz : Nat) (σ : St) (p1 : Int32) (r : Int32) (hm : mX8_trueFor σ p1 = some r) : Met l yX8_trueFor zX8_trueFor { frames := 1, cells := 0, slots := 0, locals := 22 } (va_Pc [.ref (a 0), .int p1] (preW (wM y a) a 30 D y t σ sz)) (va_Qi (fun r' u => r' = r ∧ u = σ) (posW (wM y a) D) (AC a 30 sz)) 0 0 (AC a 30 sz) := by
  refine Met.ofW (cc := cX8_trueFor) (maxL := 4) (ret := (some .int)) (by decide) rfl ?_
  intro p e s m args below meth c s₁ B hml hv
  obtain ⟨rfl, hsz, hP, hK, hF⟩ := hv
  have hx := B.exec
  have hb := B.bytes
  have hr := B.returns
  have hts := atoms_spec (ws := zX8_trueFor) B.pre
  have hown : s.vm.findClass RX8 = some m.cls := findClass_of_methodNamed B.named
  have hlocks := B.notSynchronized
  subst hsz
  have hS : va_S (AC a 30 s.heap.size) s.heap s.heap [] := va_S.rf
  have hl := lv_entry ([.ref (a 0), .int p1]) (n := 4) (Nat.le_of_ble_eq_true rfl)
  rw [lg_entry_eq]
  generalize (lg_sl ([.ref (a 0), .int p1]) ++ List.replicate (4 - (lg_sl ([.ref (a 0), .int p1])).length) Slot.unset).toArray = ls at hl ⊢
  have hl : lv_has ls 4 [(0, .ref (a 0)), (1, .int p1)] := hl
  have L_4 : ∀ (n : Nat) (v7 : Int32) (v8 : Int32) (v9 : Int32) (H : Heap) (locs : List Loc) (ls : Array Slot), va_P D vwCl (wM y a σ) H → va_S (AC a 30 s.heap.size) s.heap H locs → lv_has ls 4 [(0, .ref (a 0)), (1, .int v7), (2, .int v8), (3, .int v9)] → mX8_trueFor_4 n σ v7 v8 v9 = some r → W p l e (headSpec zX8_trueFor ({ frames := 1, cells := 0, slots := 0, locals := 22 })).room s m ([.ref (a 0), .int p1] : List Value).toArray below meth c H locs 0 0 (MQ below (va_Qi (fun r' u => r' = r ∧ u = σ) (posW (wM y a) D) (AC a 30 s.heap.size)) ([.ref (a 0), .int p1] : List Value).toArray s 0 0 (AC a 30 s.heap.size)) (F0 m 4 ls []) := by
    intro n
    induction n with
    | zero =>
      intro v7 v8 v9 H locs ls hP hS hl hm
      exact absurd (show (none : Option Int32) = some r from hm) (by intro h; cases h)
    | succ n ih4 =>
      obtain ⟨kh4, ekh4⟩ : ∃ z, z = mX8_trueFor_4 n := ⟨_, rfl⟩
      have ih4 : ∀ (v7 : Int32) (v8 : Int32) (v9 : Int32) (H : Heap) (locs : List Loc) (ls : Array Slot), va_P D vwCl (wM y a σ) H → va_S (AC a 30 s.heap.size) s.heap H locs → lv_has ls 4 [(0, .ref (a 0)), (1, .int v7), (2, .int v8), (3, .int v9)] → kh4 σ v7 v8 v9 = some r → W p l e (headSpec zX8_trueFor ({ frames := 1, cells := 0, slots := 0, locals := 22 })).room s m ([.ref (a 0), .int p1] : List Value).toArray below meth c H locs 0 0 (MQ below (va_Qi (fun r' u => r' = r ∧ u = σ) (posW (wM y a) D) (AC a 30 s.heap.size)) ([.ref (a 0), .int p1] : List Value).toArray s 0 0 (AC a 30 s.heap.size)) (F0 m 4 ls []) := by rw [ekh4]; exact ih4
      have L_26 : ∀ (v1 : Int32) (v2 : Int32) (v3 : Int32) (v4 : Int32) (H : Heap) (locs : List Loc) (ls : Array Slot), va_P D vwCl (wM y a σ) H → va_S (AC a 30 s.heap.size) s.heap H locs → lv_has ls 4 [(0, .ref (a 0)), (1, .int v1), (3, .int v2)] → mX8_trueFor_26 kh4 σ v1 v2 v3 v4 = some r → W p l e (headSpec zX8_trueFor ({ frames := 1, cells := 0, slots := 0, locals := 22 })).room s m ([.ref (a 0), .int p1] : List Value).toArray below meth c H locs 0 0 (MQ below (va_Qi (fun r' u => r' = r ∧ u = σ) (posW (wM y a) D) (AC a 30 s.heap.size)) ([.ref (a 0), .int p1] : List Value).toArray s 0 0 (AC a 30 s.heap.size)) (F0 m 26 ls [.int v3, .int v4]) := by
        intro v1 v2 v3 v4 H locs ls hP hS hl hm
        unfold mX8_trueFor_26 at hm
        refine lv_iadd hx hb dX8_trueFor_26 ?_
        refine lv_topi (fun x5 ex5 => ?_)
        have hm := bnd_x ex5 hm
        refine lv_istore_n (lv' := [(2, .int x5), (0, .ref (a 0)), (1, .int v1), (3, .int v2)]) hx hb dX8_trueFor_27 rfl hl (by decide) rfl (fun ls hl => ?_)
        obtain ⟨x6, ex6⟩ : ∃ z : Int32, z = v2 + 1 := ⟨_, rfl⟩
        have hm := bnd_x ex6 hm
        refine lv_iinc (v := x6) (lv' := [(3, .int x6), (2, .int x5), (0, .ref (a 0)), (1, .int v1)]) hx hb dX8_trueFor_28 hl (k := 3) rfl (by rw [ex6]; rfl) (by decide) rfl (fun ls hl => ?_)
        refine lv_goto (tgt := 4) hx hb dX8_trueFor_31 (by decide) ?_
        exact ih4 v1 x5 x6 _ _ _ hP hS (lv_sub hl [2, 3, 1, 0] rfl) hm
      intro v7 v8 v9 H locs ls hP hS hl hm
      have hm : bX8_trueFor_4 (mX8_trueFor_4 n) σ v7 v8 v9 = some r := hm
      rw [← ekh4] at hm
      unfold bX8_trueFor_4 at hm
      refine lv_iload_n hx hb dX8_trueFor_4 rfl (lv_at hl 3 rfl) ?_
      refine lv_sipush (v := 256) hx hb dX8_trueFor_5 (by decide) ?_
      refine lv_icmp_ge (tgt := 34) hx hb dX8_trueFor_8 (by decide) (fun c10 => ?_) (fun c10 => ?_)
      · have hm := (if_pos c10).symm.trans hm
        refine lv_iload_n hx hb dX8_trueFor_34 rfl (lv_at hl 2 rfl) ?_
        exact W.iret (v := v8) hx hb hr (fun T hT hW => ⟨⟨v8, σ, rfl, ⟨Option.some.inj hm, rfl⟩, by rw [posW, hT]; exact hP⟩, hS.F hT⟩) hS.2.2 dX8_trueFor_35
      · have hm := (if_neg c10).symm.trans hm
        refine lv_iload_n hx hb dX8_trueFor_11 rfl (lv_at hl 2 rfl) ?_
        refine lv_aload_n hx hb dX8_trueFor_12 rfl (lv_at hl 0 rfl) ?_
        refine lv_iload_n hx hb dX8_trueFor_13 rfl (lv_at hl 1 rfl) ?_
        refine lv_iload_n hx hb dX8_trueFor_14 rfl (lv_at hl 3 rfl) ?_
        obtain ⟨r11, h12, hm⟩ := ok_bind hm
        refine calV_i (As := [.int v7, .int v9]) (rest := [.int v8]) ⟨hx, hb, hml, hown, hts⟩ (kX8_isTrueAt l D y a t hI _ σ v7 v9 r11 h12) (cwV 2 hts (gAV aM_X8_134 aI_X8_isTrueAt aS_X8_isTrueAt aN_X8 aC_X8_isTrueAt) rfl rfl rfl eX8_isTrueAt ⟨Nat.le_of_ble_eq_true rfl, Nat.le_of_ble_eq_true rfl⟩) (preV_W (ci := 8) (q := (RX8, TX8, 42)) hK hP hF hS rfl (wM_0 y a σ)) rfl hl.1 rfl (Nat.le_of_ble_eq_true rfl) dX8_trueFor_15 ⟨Nat.zero_le _, Nat.zero_le _⟩ hS (AC_le hS.1) (fun H locs hP hS hk1 => ?_)
        refine lv_if_eq (tgt := 25) hx hb dX8_trueFor_18 (by decide) (fun c13 => ?_) (fun c13 => ?_)
        · have hm := (if_pos c13).symm.trans hm
          refine lv_iconst (v := 0) hx hb dX8_trueFor_25 (by decide) ?_
          exact L_26 v7 v9 0 v8 _ _ _ hP hS (lv_sub hl [0, 1, 3] rfl) hm
        · have hm := (if_neg c13).symm.trans hm
          refine lv_iconst (v := 1) hx hb dX8_trueFor_21 (by decide) ?_
          refine lv_goto (tgt := 26) hx hb dX8_trueFor_22 (by decide) ?_
          exact L_26 v7 v9 1 v8 _ _ _ hP hS (lv_sub hl [0, 1, 3] rfl) hm
  unfold mX8_trueFor at hm
  refine lv_iconst (v := 0) hx hb dX8_trueFor_0 (by decide) ?_
  refine lv_istore_n (lv' := [(2, .int 0), (0, .ref (a 0)), (1, .int p1)]) hx hb dX8_trueFor_1 rfl hl (by decide) rfl (fun ls hl => ?_)
  refine lv_iconst (v := 0) hx hb dX8_trueFor_2 (by decide) ?_
  refine lv_istore_n (lv' := [(3, .int 0), (2, .int 0), (0, .ref (a 0)), (1, .int p1)]) hx hb dX8_trueFor_3 rfl hl (by decide) rfl (fun ls hl => ?_)
  exact L_4 NF p1 0 0 _ _ _ hP hS (lv_sub hl [2, 3, 1, 0] rfl) hm
theorem eX8_formulaTold : yX8_formulaTold.cls = RX8 ∧ yX8_formulaTold.cls ≠ "java/lang/invoke/MethodHandle" ∧ yX8_formulaTold.cls ≠ "java/lang/invoke/VarHandle" ∧ (parseMethodDescriptor yX8_formulaTold.desc).map (fun d => d.parameters.length) = some 2 := by decide +kernel
def mX8_formulaTold (σ : St) (p1 : Int32) (p2 : Int32) : Option Int32 :=
if p2 = 0 then (
chkI p1 240 (
some (σ.1 15 p1.toNatClampNeg)))
else (
if p2 = 1 then (
chkI p1 240 (
some (σ.1 16 p1.toNatClampNeg)))
else (
if p2 = 2 then (
chkI p1 240 (
some (σ.1 17 p1.toNatClampNeg)))
else (
if p2 = 3 then (
chkI p1 240 (
some (σ.1 18 p1.toNatClampNeg)))
else (
if p2 = 4 then (
(mX8_trueFor σ p1).bind fun r6 =>
some r6)
else (
chkI p1 240 (
some (σ.1 19 p1.toNatClampNeg)))))))
set_option maxHeartbeats 4000000 in
set_option maxRecDepth 100000 in
theorem kX8_formulaTold (l : Launch) (D : va_G) (y : Nat → ClassId) (a t : Nat → Nat) (hI : AI a 30) (sz : Nat) (σ : St) (p1 : Int32) (p2 : Int32) (r : Int32) (hm : mX8_formulaTold σ p1 p2 = some r) : Met l yX8_formulaTold zX8_formulaTold { frames := 2, cells := 0, slots := 0, locals := 45 } (va_Pc [.ref (a 0), .int p1, .int p2] (preW (wM y a) a 30 D y t σ sz)) (va_Qi (fun r' u => r' = r ∧ u = σ) (posW (wM y a) D) (AC a 30 sz)) 0 0 (AC a 30 sz) := by
  refine Met.ofW (cc := cX8_formulaTold) (maxL := 3) (ret := (some .int)) (by decide) rfl ?_
  intro p e s m args below meth c s₁ B hml hv
  obtain ⟨rfl, hsz, hP, hK, hF⟩ := hv
  have hx := B.exec
  have hb := B.bytes
  have hr := B.returns
  have hts := atoms_spec (ws := zX8_formulaTold) B.pre
  have hown : s.vm.findClass RX8 = some m.cls := findClass_of_methodNamed B.named
  have hlocks := B.notSynchronized
  subst hsz
  have l_f32 := hts _ (List.mem_cons_of_mem _ aF_X8_32)
  have l_f29 := hts _ (List.mem_cons_of_mem _ aF_X8_29)
  have l_f26 := hts _ (List.mem_cons_of_mem _ aF_X8_26)
  have l_f23 := hts _ (List.mem_cons_of_mem _ aF_X8_23)
  have l_f20 := hts _ (List.mem_cons_of_mem _ aF_X8_20)
  have h_X8 : ∀ w ∈ wsX80, w.before _ s = true := fun w hw => hts w (List.mem_cons_of_mem _ (hwX8 w hw))
  have hS : va_S (AC a 30 s.heap.size) s.heap s.heap [] := va_S.rf
  have hl := lv_entry ([.ref (a 0), .int p1, .int p2]) (n := 3) (Nat.le_of_ble_eq_true rfl)
  rw [lg_entry_eq]
  generalize (lg_sl ([.ref (a 0), .int p1, .int p2]) ++ List.replicate (3 - (lg_sl ([.ref (a 0), .int p1, .int p2])).length) Slot.unset).toArray = ls at hl ⊢
  have hl : lv_has ls 3 [(0, .ref (a 0)), (1, .int p1), (2, .int p2)] := hl
  unfold mX8_formulaTold at hm
  refine lv_iload_n hx hb dX8_formulaTold_0 rfl (lv_at hl 2 rfl) ?_
  refine lv_if_ne (tgt := 13) hx hb dX8_formulaTold_1 (by decide) (fun c1 => ?_) (fun c1 => ?_)
  · have hm := (if_neg c1).symm.trans hm
    refine lv_iload_n hx hb dX8_formulaTold_13 rfl (lv_at hl 2 rfl) ?_
    refine lv_iconst (v := 1) hx hb dX8_formulaTold_14 (by decide) ?_
    refine lv_icmp_ne (tgt := 27) hx hb dX8_formulaTold_15 (by decide) (fun c2 => ?_) (fun c2 => ?_)
    · have hm := (if_neg c2).symm.trans hm
      refine lv_iload_n hx hb dX8_formulaTold_27 rfl (lv_at hl 2 rfl) ?_
      refine lv_iconst (v := 2) hx hb dX8_formulaTold_28 (by decide) ?_
      refine lv_icmp_ne (tgt := 41) hx hb dX8_formulaTold_29 (by decide) (fun c3 => ?_) (fun c3 => ?_)
      · have hm := (if_neg c3).symm.trans hm
        refine lv_iload_n hx hb dX8_formulaTold_41 rfl (lv_at hl 2 rfl) ?_
        refine lv_iconst (v := 3) hx hb dX8_formulaTold_42 (by decide) ?_
        refine lv_icmp_ne (tgt := 55) hx hb dX8_formulaTold_43 (by decide) (fun c4 => ?_) (fun c4 => ?_)
        · have hm := (if_neg c4).symm.trans hm
          refine lv_iload_n hx hb dX8_formulaTold_55 rfl (lv_at hl 2 rfl) ?_
          refine lv_iconst (v := 4) hx hb dX8_formulaTold_56 (by decide) ?_
          refine lv_icmp_ne (tgt := 68) hx hb dX8_formulaTold_57 (by decide) (fun c5 => ?_) (fun c5 => ?_)
          · have hm := (if_neg c5).symm.trans hm
            refine lv_aload_n hx hb dX8_formulaTold_68 rfl (lv_at hl 0 rfl) ?_
            refine gfX8_sizes hx hb h_X8 hown hK hP l_f32 dX8_formulaTold_69 ?_
            refine lv_iload_n hx hb dX8_formulaTold_72 rfl (lv_at hl 1 rfl) ?_
            obtain ⟨hi, hm⟩ := ok_I hm
            refine ldM_7 hx hb hK hP hi dX8_formulaTold_73 ?_
            exact W.iret (v := σ.1 19 p1.toNatClampNeg) hx hb hr (fun T hT hW => ⟨⟨σ.1 19 p1.toNatClampNeg, σ, rfl, ⟨Option.some.inj hm, rfl⟩, by rw [posW, hT]; exact hP⟩, hS.F hT⟩) hS.2.2 dX8_formulaTold_74
          · have hm := (if_pos c5).symm.trans hm
            refine lv_aload_n hx hb dX8_formulaTold_60 rfl (lv_at hl 0 rfl) ?_
            refine lv_iload_n hx hb dX8_formulaTold_61 rfl (lv_at hl 1 rfl) ?_
            obtain ⟨r6, h7, hm⟩ := ok_bind hm
            refine calV_i (As := [.int p1]) (rest := []) ⟨hx, hb, hml, hown, hts⟩ (kX8_trueFor l D y a t hI _ σ p1 r6 h7) (cwV 1 hts (gAV aM_X8_174 aI_X8_trueFor aS_X8_trueFor aN_X8 aC_X8_trueFor) rfl rfl rfl eX8_trueFor ⟨Nat.le_of_ble_eq_true rfl, Nat.le_of_ble_eq_true rfl⟩) (preV_W (ci := 8) (q := (RX8, TX8, 42)) hK hP hF hS rfl (wM_0 y a σ)) rfl hl.1 rfl (Nat.le_of_ble_eq_true rfl) dX8_formulaTold_62 ⟨Nat.zero_le _, Nat.zero_le _⟩ hS (AC_le hS.1) (fun H locs hP hS hk1 => ?_)
            refine lv_goto (tgt := 74) hx hb dX8_formulaTold_65 (by decide) ?_
            exact W.iret (v := r6) hx hb hr (fun T hT hW => ⟨⟨r6, σ, rfl, ⟨Option.some.inj hm, rfl⟩, by rw [posW, hT]; exact hP⟩, hS.F hT⟩) hS.2.2 dX8_formulaTold_74
        · have hm := (if_pos c4).symm.trans hm
          refine lv_aload_n hx hb dX8_formulaTold_46 rfl (lv_at hl 0 rfl) ?_
          refine gfX8_letters hx hb h_X8 hown hK hP l_f29 dX8_formulaTold_47 ?_
          refine lv_iload_n hx hb dX8_formulaTold_50 rfl (lv_at hl 1 rfl) ?_
          obtain ⟨hi, hm⟩ := ok_I hm
          refine ldM_6 hx hb hK hP hi dX8_formulaTold_51 ?_
          refine lv_goto (tgt := 74) hx hb dX8_formulaTold_52 (by decide) ?_
          exact W.iret (v := σ.1 18 p1.toNatClampNeg) hx hb hr (fun T hT hW => ⟨⟨σ.1 18 p1.toNatClampNeg, σ, rfl, ⟨Option.some.inj hm, rfl⟩, by rw [posW, hT]; exact hP⟩, hS.F hT⟩) hS.2.2 dX8_formulaTold_74
      · have hm := (if_pos c3).symm.trans hm
        refine lv_aload_n hx hb dX8_formulaTold_32 rfl (lv_at hl 0 rfl) ?_
        refine gfX8_seconds hx hb h_X8 hown hK hP l_f26 dX8_formulaTold_33 ?_
        refine lv_iload_n hx hb dX8_formulaTold_36 rfl (lv_at hl 1 rfl) ?_
        obtain ⟨hi, hm⟩ := ok_I hm
        refine ldM_5 hx hb hK hP hi dX8_formulaTold_37 ?_
        refine lv_goto (tgt := 74) hx hb dX8_formulaTold_38 (by decide) ?_
        exact W.iret (v := σ.1 17 p1.toNatClampNeg) hx hb hr (fun T hT hW => ⟨⟨σ.1 17 p1.toNatClampNeg, σ, rfl, ⟨Option.some.inj hm, rfl⟩, by rw [posW, hT]; exact hP⟩, hS.F hT⟩) hS.2.2 dX8_formulaTold_74
    · have hm := (if_pos c2).symm.trans hm
      refine lv_aload_n hx hb dX8_formulaTold_18 rfl (lv_at hl 0 rfl) ?_
      refine gfX8_firsts hx hb h_X8 hown hK hP l_f23 dX8_formulaTold_19 ?_
      refine lv_iload_n hx hb dX8_formulaTold_22 rfl (lv_at hl 1 rfl) ?_
      obtain ⟨hi, hm⟩ := ok_I hm
      refine ldM_4 hx hb hK hP hi dX8_formulaTold_23 ?_
      refine lv_goto (tgt := 74) hx hb dX8_formulaTold_24 (by decide) ?_
      exact W.iret (v := σ.1 16 p1.toNatClampNeg) hx hb hr (fun T hT hW => ⟨⟨σ.1 16 p1.toNatClampNeg, σ, rfl, ⟨Option.some.inj hm, rfl⟩, by rw [posW, hT]; exact hP⟩, hS.F hT⟩) hS.2.2 dX8_formulaTold_74
  · have hm := (if_pos c1).symm.trans hm
    refine lv_aload_n hx hb dX8_formulaTold_4 rfl (lv_at hl 0 rfl) ?_
    refine gfX8_sorts hx hb h_X8 hown hK hP l_f20 dX8_formulaTold_5 ?_
    refine lv_iload_n hx hb dX8_formulaTold_8 rfl (lv_at hl 1 rfl) ?_
    obtain ⟨hi, hm⟩ := ok_I hm
    refine ldM_3 hx hb hK hP hi dX8_formulaTold_9 ?_
    refine lv_goto (tgt := 74) hx hb dX8_formulaTold_10 (by decide) ?_
    exact W.iret (v := σ.1 15 p1.toNatClampNeg) hx hb hr (fun T hT hW => ⟨⟨σ.1 15 p1.toNatClampNeg, σ, rfl, ⟨Option.some.inj hm, rfl⟩, by rw [posW, hT]; exact hP⟩, hS.F hT⟩) hS.2.2 dX8_formulaTold_74
theorem eX8_formula : yX8_formula.cls = RX8 ∧ yX8_formula.cls ≠ "java/lang/invoke/MethodHandle" ∧ yX8_formula.cls ≠ "java/lang/invoke/VarHandle" ∧ (parseMethodDescriptor yX8_formula.desc).map (fun d => d.parameters.length) = some 2 := by decide +kernel
def mX8_formula_31 (s1 : St) : Option (Int32 × St) :=
(mX8_no s1 1).bind fun ⟨r2, s4⟩ =>
some (r2, s4)
def mX8_formula (σ : St) (p1 : Int32) (p2 : Int32) : Option (Int32 × St) :=
bnd (su σ 0 (fun _ => 0)) fun s5 =>
(mX8_isFormula s5 p1).bind fun r6 =>
if r6 = 0 then (
mX8_formula_31 s5)
else (
(mX8_isIn s5 p2 0 5).bind fun r9 =>
if r9 = 0 then (
mX8_formula_31 s5)
else (
(mX8_formulaTold s5 p1 p2).bind fun r12 =>
some (r12, s5)))
set_option maxHeartbeats 4000000 in
set_option maxRecDepth 100000 in
theorem kX8_formula (l : Launch) (D : va_G) (y : Nat → ClassId) (a t : Nat → Nat) (hI : AI a 30) (sz : Nat) (σ τ : St) (p1 : Int32) (p2 : Int32) (r : Int32) (hm : mX8_formula σ p1 p2 = some (r, τ)) : Met l yX8_formula zX8_formula { frames := 3, cells := 0, slots := 0, locals := 67 } (va_Pc [.ref (a 0), .int p1, .int p2] (preW (wM y a) a 30 D y t σ sz)) (va_Qi (fun r' u => r' = r ∧ u = τ) (posW (wM y a) D) (AC a 30 sz)) 0 0 (AC a 30 sz) := by
  refine Met.ofW (cc := cX8_formula) (maxL := 3) (ret := (some .int)) (by decide) rfl ?_
  intro p e s m args below meth c s₁ B hml hv
  obtain ⟨rfl, hsz, hP, hK, hF⟩ := hv
  have hx := B.exec
  have hb := B.bytes
  have hr := B.returns
  have hts := atoms_spec (ws := zX8_formula) B.pre
  have hown : s.vm.findClass RX8 = some m.cls := findClass_of_methodNamed B.named
  have hlocks := B.notSynchronized
  subst hsz
  have l_f106 := hts _ (List.mem_cons_of_mem _ aF_X8_106)
  have h_X8 : ∀ w ∈ wsX80, w.before _ s = true := fun w hw => hts w (List.mem_cons_of_mem _ (hwX8 w hw))
  have hS : va_S (AC a 30 s.heap.size) s.heap s.heap [] := va_S.rf
  have hl := lv_entry ([.ref (a 0), .int p1, .int p2]) (n := 3) (Nat.le_of_ble_eq_true rfl)
  rw [lg_entry_eq]
  generalize (lg_sl ([.ref (a 0), .int p1, .int p2]) ++ List.replicate (3 - (lg_sl ([.ref (a 0), .int p1, .int p2])).length) Slot.unset).toArray = ls at hl ⊢
  have hl : lv_has ls 3 [(0, .ref (a 0)), (1, .int p1), (2, .int p2)] := hl
  have L_31 : ∀ (s1 : St) (H : Heap) (locs : List Loc) (ls : Array Slot), va_P D vwCl (wM y a s1) H → va_S (AC a 30 s.heap.size) s.heap H locs → lv_has ls 3 [(0, .ref (a 0))] → mX8_formula_31 s1 = some (r, τ) → W p l e (headSpec zX8_formula ({ frames := 3, cells := 0, slots := 0, locals := 67 })).room s m ([.ref (a 0), .int p1, .int p2] : List Value).toArray below meth c H locs 0 0 (MQ below (va_Qi (fun r' u => r' = r ∧ u = τ) (posW (wM y a) D) (AC a 30 s.heap.size)) ([.ref (a 0), .int p1, .int p2] : List Value).toArray s 0 0 (AC a 30 s.heap.size)) (F0 m 31 ls []) := by
    intro s1 H locs ls hP hS hl hm
    unfold mX8_formula_31 at hm
    refine lv_aload_n hx hb dX8_formula_31 rfl (lv_at hl 0 rfl) ?_
    refine lv_iconst (v := 1) hx hb dX8_formula_32 (by decide) ?_
    obtain ⟨⟨r2, s4⟩, h3, hm⟩ := ok_bind hm
    refine calV_i (As := [.int 1]) (rest := []) ⟨hx, hb, hml, hown, hts⟩ (kX8_no l D y a t hI _ s1 s4 1 r2 h3) (cwV 1 hts (gAV aM_X8_119 aI_X8_no aS_X8_no aN_X8 aC_X8_no) rfl rfl rfl eX8_no ⟨Nat.le_of_ble_eq_true rfl, Nat.le_of_ble_eq_true rfl⟩) (preV_W (ci := 8) (q := (RX8, TX8, 42)) hK hP hF hS rfl (wM_0 y a s1)) rfl hl.1 rfl (Nat.le_of_ble_eq_true rfl) dX8_formula_33 ⟨Nat.zero_le _, Nat.zero_le _⟩ hS (AC_le hS.1) (fun H locs hP hS hk1 => ?_)
    exact W.iret (v := r2) hx hb hr (fun T hT hW => ⟨⟨r2, s4, rfl, ⟨congrArg Prod.fst (Option.some.inj hm), congrArg Prod.snd (Option.some.inj hm)⟩, by rw [posW, hT]; exact hP⟩, hS.F hT⟩) hS.2.2 dX8_formula_36
  unfold mX8_formula at hm
  refine lv_aload_n hx hb dX8_formula_0 rfl (lv_at hl 0 rfl) ?_
  refine lv_iconst (v := 0) hx hb dX8_formula_1 (by decide) ?_
  refine pfX8_thrown hx hb h_X8 hown hK hP hI AC_in hS l_f106 dX8_formula_2 (fun H locs hP hS => ?_)
  generalize es5 : su σ 0 (fun _ => 0) = s5 at hP
  have hm := bnd_x es5.symm hm
  refine lv_aload_n hx hb dX8_formula_5 rfl (lv_at hl 0 rfl) ?_
  refine lv_iload_n hx hb dX8_formula_6 rfl (lv_at hl 1 rfl) ?_
  obtain ⟨r6, h7, hm⟩ := ok_bind hm
  refine calV_i (As := [.int p1]) (rest := []) ⟨hx, hb, hml, hown, hts⟩ (kX8_isFormula l D y a t hI _ s5 p1 r6 h7) (cwV 1 hts (gAV aM_X8_171 aI_X8_isFormula aS_X8_isFormula aN_X8 aC_X8_isFormula) rfl rfl rfl eX8_isFormula ⟨Nat.le_of_ble_eq_true rfl, Nat.le_of_ble_eq_true rfl⟩) (preV_W (ci := 8) (q := (RX8, TX8, 42)) hK hP hF hS rfl (wM_0 y a s5)) rfl hl.1 rfl (Nat.le_of_ble_eq_true rfl) dX8_formula_7 ⟨Nat.zero_le _, Nat.zero_le _⟩ hS (AC_le hS.1) (fun H locs hP hS hk1 => ?_)
  refine lv_if_eq (tgt := 31) hx hb dX8_formula_10 (by decide) (fun c8 => ?_) (fun c8 => ?_)
  · have hm := (if_pos c8).symm.trans hm
    exact L_31 s5 _ _ _ hP hS (lv_sub hl [0] rfl) hm
  · have hm := (if_neg c8).symm.trans hm
    refine lv_iload_n hx hb dX8_formula_13 rfl (lv_at hl 2 rfl) ?_
    refine lv_iconst (v := 0) hx hb dX8_formula_14 (by decide) ?_
    refine lv_iconst (v := 5) hx hb dX8_formula_15 (by decide) ?_
    obtain ⟨r9, h10, hm⟩ := ok_bind hm
    refine calS_i (As := [.int p2, .int 0, .int 5]) (rest := []) ⟨hx, hb, hml, hown, hts⟩ (kX8_isIn l D y a t hI _ s5 p2 0 5 r9 h10) (va_cwS 3 hts (gAS aM_X8_112 aT_X8_isIn aN_X8 aC_X8_isIn) rfl rfl rfl eX8_isIn ⟨Nat.le_of_ble_eq_true rfl, Nat.le_of_ble_eq_true rfl⟩) (preS_W hK hP hF hS) rfl hl.1 rfl (Nat.le_of_ble_eq_true rfl) dX8_formula_16 ⟨Nat.zero_le _, Nat.zero_le _⟩ hS (AC_le hS.1) (fun H locs hP hS hk1 => ?_)
    refine lv_if_eq (tgt := 31) hx hb dX8_formula_19 (by decide) (fun c11 => ?_) (fun c11 => ?_)
    · have hm := (if_pos c11).symm.trans hm
      exact L_31 s5 _ _ _ hP hS (lv_sub hl [0] rfl) hm
    · have hm := (if_neg c11).symm.trans hm
      refine lv_aload_n hx hb dX8_formula_22 rfl (lv_at hl 0 rfl) ?_
      refine lv_iload_n hx hb dX8_formula_23 rfl (lv_at hl 1 rfl) ?_
      refine lv_iload_n hx hb dX8_formula_24 rfl (lv_at hl 2 rfl) ?_
      obtain ⟨r12, h13, hm⟩ := ok_bind hm
      refine calV_i (As := [.int p1, .int p2]) (rest := []) ⟨hx, hb, hml, hown, hts⟩ (kX8_formulaTold l D y a t hI _ s5 p1 p2 r12 h13) (cwV 2 hts (gAV aM_X8_177 aI_X8_formulaTold aS_X8_formulaTold aN_X8 aC_X8_formulaTold) rfl rfl rfl eX8_formulaTold ⟨Nat.le_of_ble_eq_true rfl, Nat.le_of_ble_eq_true rfl⟩) (preV_W (ci := 8) (q := (RX8, TX8, 42)) hK hP hF hS rfl (wM_0 y a s5)) rfl hl.1 rfl (Nat.le_of_ble_eq_true rfl) dX8_formula_25 ⟨Nat.zero_le _, Nat.zero_le _⟩ hS (AC_le hS.1) (fun H locs hP hS hk1 => ?_)
      refine lv_goto (tgt := 36) hx hb dX8_formula_28 (by decide) ?_
      exact W.iret (v := r12) hx hb hr (fun T hT hW => ⟨⟨r12, s5, rfl, ⟨congrArg Prod.fst (Option.some.inj hm), congrArg Prod.snd (Option.some.inj hm)⟩, by rw [posW, hT]; exact hP⟩, hS.F hT⟩) hS.2.2 dX8_formula_36
theorem eX8_isTrue : yX8_isTrue.cls = RX8 ∧ yX8_isTrue.cls ≠ "java/lang/invoke/MethodHandle" ∧ yX8_isTrue.cls ≠ "java/lang/invoke/VarHandle" ∧ (parseMethodDescriptor yX8_isTrue.desc).map (fun d => d.parameters.length) = some 2 := by decide +kernel
def mX8_isTrue_29 (s4 : St) (v1 : Int32) (v2 : Int32) (v3 : Int32) : Option (Int32 × St) :=
bnd (su s4 0 (fun _ => v3)) fun s5 =>
if (s5.1 0 0) = 0 then (
(mX8_isTrueAt s5 v1 v2).bind fun r7 =>
if r7 = 0 then (
some (0, s5))
else (
some (1, s5)))
else (
some (0, s5))
def mX8_isTrue (σ : St) (p1 : Int32) (p2 : Int32) : Option (Int32 × St) :=
(mX8_isFormula σ p1).bind fun r10 =>
if r10 = 0 then (
mX8_isTrue_29 σ p1 p2 1)
else (
(mX8_isIn σ p2 0 255).bind fun r13 =>
if r13 = 0 then (
mX8_isTrue_29 σ p1 p2 2)
else (
mX8_isTrue_29 σ p1 p2 0))
set_option maxHeartbeats 4000000 in
set_option maxRecDepth 100000 in
theorem kX8_isTrue (l : Launch) (D : va_G) (y : Nat → ClassId) (a t : Nat → Nat) (hI : AI a 30) (sz : Nat) (σ τ : St) (p1 : Int32) (p2 : Int32) (r : Int32) (hm : mX8_isTrue σ p1 p2 = some (r, τ)) : Met l yX8_isTrue zX8_isTrue { frames := 2, cells := 0, slots := 0, locals := 43 } (va_Pc [.ref (a 0), .int p1, .int p2] (preW (wM y a) a 30 D y t σ sz)) (va_Qi (fun r' u => r' = r ∧ u = τ) (posW (wM y a) D) (AC a 30 sz)) 0 0 (AC a 30 sz) := by
  refine Met.ofW (cc := cX8_isTrue) (maxL := 3) (ret := (some .boolean)) (by decide) rfl ?_
  intro p e s m args below meth c s₁ B hml hv
  obtain ⟨rfl, hsz, hP, hK, hF⟩ := hv
  have hx := B.exec
  have hb := B.bytes
  have hr := B.returns
  have hts := atoms_spec (ws := zX8_isTrue) B.pre
  have hown : s.vm.findClass RX8 = some m.cls := findClass_of_methodNamed B.named
  have hlocks := B.notSynchronized
  subst hsz
  have l_f106 := hts _ (List.mem_cons_of_mem _ aF_X8_106)
  have h_X8 : ∀ w ∈ wsX80, w.before _ s = true := fun w hw => hts w (List.mem_cons_of_mem _ (hwX8 w hw))
  have hS : va_S (AC a 30 s.heap.size) s.heap s.heap [] := va_S.rf
  have hl := lv_entry ([.ref (a 0), .int p1, .int p2]) (n := 3) (Nat.le_of_ble_eq_true rfl)
  rw [lg_entry_eq]
  generalize (lg_sl ([.ref (a 0), .int p1, .int p2]) ++ List.replicate (3 - (lg_sl ([.ref (a 0), .int p1, .int p2])).length) Slot.unset).toArray = ls at hl ⊢
  have hl : lv_has ls 3 [(0, .ref (a 0)), (1, .int p1), (2, .int p2)] := hl
  have L_29 : ∀ (s4 : St) (v1 : Int32) (v2 : Int32) (v3 : Int32) (H : Heap) (locs : List Loc) (ls : Array Slot), va_P D vwCl (wM y a s4) H → va_S (AC a 30 s.heap.size) s.heap H locs → lv_has ls 3 [(0, .ref (a 0)), (1, .int v1), (2, .int v2)] → mX8_isTrue_29 s4 v1 v2 v3 = some (r, τ) → W p l e (headSpec zX8_isTrue ({ frames := 2, cells := 0, slots := 0, locals := 43 })).room s m ([.ref (a 0), .int p1, .int p2] : List Value).toArray below meth c H locs 0 0 (MQ below (va_Qi (fun r' u => r' = r ∧ u = τ) (posW (wM y a) D) (AC a 30 s.heap.size)) ([.ref (a 0), .int p1, .int p2] : List Value).toArray s 0 0 (AC a 30 s.heap.size)) (F0 m 29 ls [.int v3, .ref (a 0)]) := by
    intro s4 v1 v2 v3 H locs ls hP hS hl hm
    unfold mX8_isTrue_29 at hm
    refine pfX8_thrown hx hb h_X8 hown hK hP hI AC_in hS l_f106 dX8_isTrue_29 (fun H locs hP hS => ?_)
    generalize es5 : su s4 0 (fun _ => v3) = s5 at hP
    have hm := bnd_x es5.symm hm
    refine lv_aload_n hx hb dX8_isTrue_32 rfl (lv_at hl 0 rfl) ?_
    refine gfX8_thrown hx hb h_X8 hown hK hP l_f106 dX8_isTrue_33 ?_
    refine lv_if_ne (tgt := 52) hx hb dX8_isTrue_36 (by decide) (fun c6 => ?_) (fun c6 => ?_)
    · have hm := (if_neg c6).symm.trans hm
      refine lv_iconst (v := 0) hx hb dX8_isTrue_52 (by decide) ?_
      exact W.zret (v := 0) hx hb hr rfl (fun T hT hW => ⟨⟨0, s5, rfl, ⟨congrArg Prod.fst (Option.some.inj hm), congrArg Prod.snd (Option.some.inj hm)⟩, by rw [posW, hT]; exact hP⟩, hS.F hT⟩) hS.2.2 dX8_isTrue_53
    · have hm := (if_pos c6).symm.trans hm
      refine lv_aload_n hx hb dX8_isTrue_39 rfl (lv_at hl 0 rfl) ?_
      refine lv_iload_n hx hb dX8_isTrue_40 rfl (lv_at hl 1 rfl) ?_
      refine lv_iload_n hx hb dX8_isTrue_41 rfl (lv_at hl 2 rfl) ?_
      obtain ⟨r7, h8, hm⟩ := ok_bind hm
      refine calV_i (As := [.int v1, .int v2]) (rest := []) ⟨hx, hb, hml, hown, hts⟩ (kX8_isTrueAt l D y a t hI _ s5 v1 v2 r7 h8) (cwV 2 hts (gAV aM_X8_134 aI_X8_isTrueAt aS_X8_isTrueAt aN_X8 aC_X8_isTrueAt) rfl rfl rfl eX8_isTrueAt ⟨Nat.le_of_ble_eq_true rfl, Nat.le_of_ble_eq_true rfl⟩) (preV_W (ci := 8) (q := (RX8, TX8, 42)) hK hP hF hS rfl (wM_0 y a s5)) rfl hl.1 rfl (Nat.le_of_ble_eq_true rfl) dX8_isTrue_42 ⟨Nat.zero_le _, Nat.zero_le _⟩ hS (AC_le hS.1) (fun H locs hP hS hk1 => ?_)
      refine lv_if_eq (tgt := 52) hx hb dX8_isTrue_45 (by decide) (fun c9 => ?_) (fun c9 => ?_)
      · have hm := (if_pos c9).symm.trans hm
        refine lv_iconst (v := 0) hx hb dX8_isTrue_52 (by decide) ?_
        exact W.zret (v := 0) hx hb hr rfl (fun T hT hW => ⟨⟨0, s5, rfl, ⟨congrArg Prod.fst (Option.some.inj hm), congrArg Prod.snd (Option.some.inj hm)⟩, by rw [posW, hT]; exact hP⟩, hS.F hT⟩) hS.2.2 dX8_isTrue_53
      · have hm := (if_neg c9).symm.trans hm
        refine lv_iconst (v := 1) hx hb dX8_isTrue_48 (by decide) ?_
        refine lv_goto (tgt := 53) hx hb dX8_isTrue_49 (by decide) ?_
        exact W.zret (v := 1) hx hb hr rfl (fun T hT hW => ⟨⟨1, s5, rfl, ⟨congrArg Prod.fst (Option.some.inj hm), congrArg Prod.snd (Option.some.inj hm)⟩, by rw [posW, hT]; exact hP⟩, hS.F hT⟩) hS.2.2 dX8_isTrue_53
  unfold mX8_isTrue at hm
  refine lv_aload_n hx hb dX8_isTrue_0 rfl (lv_at hl 0 rfl) ?_
  refine lv_aload_n hx hb dX8_isTrue_1 rfl (lv_at hl 0 rfl) ?_
  refine lv_iload_n hx hb dX8_isTrue_2 rfl (lv_at hl 1 rfl) ?_
  obtain ⟨r10, h11, hm⟩ := ok_bind hm
  refine calV_i (As := [.int p1]) (rest := [.ref (a 0)]) ⟨hx, hb, hml, hown, hts⟩ (kX8_isFormula l D y a t hI _ σ p1 r10 h11) (cwV 1 hts (gAV aM_X8_171 aI_X8_isFormula aS_X8_isFormula aN_X8 aC_X8_isFormula) rfl rfl rfl eX8_isFormula ⟨Nat.le_of_ble_eq_true rfl, Nat.le_of_ble_eq_true rfl⟩) (preV_W (ci := 8) (q := (RX8, TX8, 42)) hK hP hF hS rfl (wM_0 y a σ)) rfl hl.1 rfl (Nat.le_of_ble_eq_true rfl) dX8_isTrue_3 ⟨Nat.zero_le _, Nat.zero_le _⟩ hS (AC_le hS.1) (fun H locs hP hS hk1 => ?_)
  refine lv_if_ne (tgt := 13) hx hb dX8_isTrue_6 (by decide) (fun c12 => ?_) (fun c12 => ?_)
  · have hm := (if_neg c12).symm.trans hm
    refine lv_iload_n hx hb dX8_isTrue_13 rfl (lv_at hl 2 rfl) ?_
    refine lv_iconst (v := 0) hx hb dX8_isTrue_14 (by decide) ?_
    refine lv_sipush (v := 255) hx hb dX8_isTrue_15 (by decide) ?_
    obtain ⟨r13, h14, hm⟩ := ok_bind hm
    refine calS_i (As := [.int p2, .int 0, .int 255]) (rest := [.ref (a 0)]) ⟨hx, hb, hml, hown, hts⟩ (kX8_isIn l D y a t hI _ σ p2 0 255 r13 h14) (va_cwS 3 hts (gAS aM_X8_112 aT_X8_isIn aN_X8 aC_X8_isIn) rfl rfl rfl eX8_isIn ⟨Nat.le_of_ble_eq_true rfl, Nat.le_of_ble_eq_true rfl⟩) (preS_W hK hP hF hS) rfl hl.1 rfl (Nat.le_of_ble_eq_true rfl) dX8_isTrue_18 ⟨Nat.zero_le _, Nat.zero_le _⟩ hS (AC_le hS.1) (fun H locs hP hS hk1 => ?_)
    refine lv_if_ne (tgt := 28) hx hb dX8_isTrue_21 (by decide) (fun c15 => ?_) (fun c15 => ?_)
    · have hm := (if_neg c15).symm.trans hm
      refine lv_iconst (v := 0) hx hb dX8_isTrue_28 (by decide) ?_
      exact L_29 σ p1 p2 0 _ _ _ hP hS (lv_sub hl [0, 1, 2] rfl) hm
    · have hm := (if_pos c15).symm.trans hm
      refine lv_iconst (v := 2) hx hb dX8_isTrue_24 (by decide) ?_
      refine lv_goto (tgt := 29) hx hb dX8_isTrue_25 (by decide) ?_
      exact L_29 σ p1 p2 2 _ _ _ hP hS (lv_sub hl [0, 1, 2] rfl) hm
  · have hm := (if_pos c12).symm.trans hm
    refine lv_iconst (v := 1) hx hb dX8_isTrue_9 (by decide) ?_
    refine lv_goto (tgt := 29) hx hb dX8_isTrue_10 (by decide) ?_
    exact L_29 σ p1 p2 1 _ _ _ hP hS (lv_sub hl [0, 1, 2] rfl) hm
theorem eX8_put : yX8_put.cls = RX8 ∧ yX8_put.cls ≠ "java/lang/invoke/MethodHandle" ∧ yX8_put.cls ≠ "java/lang/invoke/VarHandle" ∧ (parseMethodDescriptor yX8_put.desc).map (fun d => d.parameters.length) = some 1 := by decide +kernel
def mX8_put_20 (s1 : St) : Option St :=
bnd (su s1 12 (fun _ => (s1.1 12 0) + 1)) fun s2 =>
some s2
def mX8_put (σ : St) (p1 : Int32) : Option St :=
if 400 ≤ (σ.1 12 0) then (
mX8_put_20 σ)
else (
chkI (σ.1 12 0) 400 (
bnd (su σ 38 (upd (σ.1 38) (σ.1 12 0).toNatClampNeg p1)) fun s4 =>
mX8_put_20 s4))
set_option maxHeartbeats 4000000 in
set_option maxRecDepth 100000 in
theorem kX8_put (l : Launch) (D : va_G) (y : Nat → ClassId) (a t : Nat → Nat) (hI : AI a 30) (sz : Nat) (σ τ : St) (p1 : Int32) (hm : mX8_put σ p1 = some τ) : Met l yX8_put zX8_put { frames := 0, cells := 0, slots := 0, locals := 0 } (va_Pc [.ref (a 0), .int p1] (preW (wM y a) a 30 D y t σ sz)) (va_Qv (fun u => u = τ) (posW (wM y a) D) (AC a 30 sz)) 0 0 (AC a 30 sz) := by
  refine Met.ofW (cc := cX8_put) (maxL := 2) (ret := none) (by decide) rfl ?_
  intro p e s m args below meth c s₁ B hml hv
  obtain ⟨rfl, hsz, hP, hK, hF⟩ := hv
  have hx := B.exec
  have hb := B.bytes
  have hr := B.returns
  have hts := atoms_spec (ws := zX8_put) B.pre
  have hown : s.vm.findClass RX8 = some m.cls := findClass_of_methodNamed B.named
  have hlocks := B.notSynchronized
  subst hsz
  have l_f180 := hts _ (List.mem_cons_of_mem _ aF_X8_180)
  have l_f94 := hts _ (List.mem_cons_of_mem _ aF_X8_94)
  have h_X8 : ∀ w ∈ wsX80, w.before _ s = true := fun w hw => hts w (List.mem_cons_of_mem _ (hwX8 w hw))
  have hS : va_S (AC a 30 s.heap.size) s.heap s.heap [] := va_S.rf
  have hl := lv_entry ([.ref (a 0), .int p1]) (n := 2) (Nat.le_of_ble_eq_true rfl)
  rw [lg_entry_eq]
  generalize (lg_sl ([.ref (a 0), .int p1]) ++ List.replicate (2 - (lg_sl ([.ref (a 0), .int p1])).length) Slot.unset).toArray = ls at hl ⊢
  have hl : lv_has ls 2 [(0, .ref (a 0)), (1, .int p1)] := hl
  have L_20 : ∀ (s1 : St) (H : Heap) (locs : List Loc) (ls : Array Slot), va_P D vwCl (wM y a s1) H → va_S (AC a 30 s.heap.size) s.heap H locs → lv_has ls 2 [(0, .ref (a 0))] → mX8_put_20 s1 = some τ → W p l e (headSpec zX8_put ({ frames := 0, cells := 0, slots := 0, locals := 0 })).room s m ([.ref (a 0), .int p1] : List Value).toArray below meth c H locs 0 0 (MQ below (va_Qv (fun u => u = τ) (posW (wM y a) D) (AC a 30 s.heap.size)) ([.ref (a 0), .int p1] : List Value).toArray s 0 0 (AC a 30 s.heap.size)) (F0 m 20 ls []) := by
    intro s1 H locs ls hP hS hl hm
    unfold mX8_put_20 at hm
    refine lv_aload_n hx hb dX8_put_20 rfl (lv_at hl 0 rfl) ?_
    refine lv_dup hx hb dX8_put_21 rfl ?_
    refine gfX8_drafted hx hb h_X8 hown hK hP l_f180 dX8_put_22 ?_
    refine lv_iconst (v := 1) hx hb dX8_put_25 (by decide) ?_
    refine lv_iadd hx hb dX8_put_26 ?_
    refine pfX8_drafted hx hb h_X8 hown hK hP hI AC_in hS l_f180 dX8_put_27 (fun H locs hP hS => ?_)
    generalize es2 : su s1 12 (fun _ => (s1.1 12 0) + 1) = s2 at hP
    have hm := bnd_x es2.symm hm
    exact W.vret hx hb hr (fun T hT hW => ⟨⟨s2, rfl, Option.some.inj hm, by rw [posW, hT]; exact hP⟩, hS.F hT⟩) hS.2.2 dX8_put_30
  unfold mX8_put at hm
  refine lv_aload_n hx hb dX8_put_0 rfl (lv_at hl 0 rfl) ?_
  refine gfX8_drafted hx hb h_X8 hown hK hP l_f180 dX8_put_1 ?_
  refine lv_sipush (v := 400) hx hb dX8_put_4 (by decide) ?_
  refine lv_icmp_ge (tgt := 20) hx hb dX8_put_7 (by decide) (fun c3 => ?_) (fun c3 => ?_)
  · have hm := (if_pos c3).symm.trans hm
    exact L_20 σ _ _ _ hP hS (lv_sub hl [0] rfl) hm
  · have hm := (if_neg c3).symm.trans hm
    refine lv_aload_n hx hb dX8_put_10 rfl (lv_at hl 0 rfl) ?_
    refine gfX8_draft hx hb h_X8 hown hK hP l_f94 dX8_put_11 ?_
    refine lv_aload_n hx hb dX8_put_14 rfl (lv_at hl 0 rfl) ?_
    refine gfX8_drafted hx hb h_X8 hown hK hP l_f180 dX8_put_15 ?_
    refine lv_iload_n hx hb dX8_put_18 rfl (lv_at hl 1 rfl) ?_
    obtain ⟨hi, hm⟩ := ok_I hm
    refine stM_26 hx hb hK hP hI AC_in hS hi dX8_put_19 (fun H locs hP hS => ?_)
    generalize es4 : su σ 38 (upd (σ.1 38) (σ.1 12 0).toNatClampNeg p1) = s4 at hP
    have hm := bnd_x es4.symm hm
    exact L_20 s4 _ _ _ hP hS (lv_sub hl [0] rfl) hm
theorem eX8_put_ : yX8_put_.cls = RX8 ∧ yX8_put_.cls ≠ "java/lang/invoke/MethodHandle" ∧ yX8_put_.cls ≠ "java/lang/invoke/VarHandle" ∧ (parseMethodDescriptor yX8_put_.desc).map (fun d => d.parameters.length) = some 2 := by decide +kernel
def mX8_put__169 (f_X8_put_ : St → Int32 → Int32 → Option St) (s2 : St) (v1 : Int32) : Option St :=
if v1 = 0 then (
some s2)
else (
(mX8_put s2 41).bind fun s5 =>
some s5)
def mX8_put__166 (f_X8_put_ : St → Int32 → Int32 → Option St) (s9 : St) (v6 : Int32) (v7 : Int32) (v8 : Int32) : Option St :=
(f_X8_put_ s9 v8 v7).bind fun s11 =>
mX8_put__169 f_X8_put_ s11 v6
def mX8_put__145 (f_X8_put_ : St → Int32 → Int32 → Option St) (s16 : St) (v12 : Int32) (v13 : Int32) (v14 : Int32) (v15 : Int32) : Option St :=
(mX8_put s16 v15).bind fun s18 =>
chkI v12 240 (
if v13 = 5 then (
mX8_put__166 f_X8_put_ s18 v14 6 (s18.1 17 v12.toNatClampNeg))
else (
mX8_put__166 f_X8_put_ s18 v14 v13 (s18.1 17 v12.toNatClampNeg)))
def mX8_put__119 (f_X8_put_ : St → Int32 → Int32 → Option St) (s25 : St) (v20 : Int32) (v21 : Int32) (v22 : Int32) (v23 : Int32) (v24 : Int32) : Option St :=
(f_X8_put_ s25 v24 v23).bind fun s27 =>
if v21 = 3 then (
mX8_put__145 f_X8_put_ s27 v20 v21 v22 38)
else (
if v21 = 4 then (
mX8_put__145 f_X8_put_ s27 v20 v21 v22 124)
else (
mX8_put__145 f_X8_put_ s27 v20 v21 v22 62))
def mX8_put__41 (f_X8_put_ : St → Int32 → Int32 → Option St) (s33 : St) (v30 : Int32) (v31 : Int32) (v32 : Int32) : Option St :=
if v31 = 0 then (
chkI v30 240 (
(mX8_put s33 (97 + (s33.1 16 v30.toNatClampNeg))).bind fun s45 =>
mX8_put__169 f_X8_put_ s45 v32))
else (
if v31 = 1 then (
(mX8_put s33 35).bind fun s43 =>
mX8_put__169 f_X8_put_ s43 v32)
else (
if v31 = 2 then (
(mX8_put s33 45).bind fun s39 =>
chkI v30 240 (
(f_X8_put_ s39 (s39.1 16 v30.toNatClampNeg) 3).bind fun s41 =>
mX8_put__169 f_X8_put_ s41 v32))
else (
chkI v30 240 (
if v31 = 5 then (
mX8_put__119 f_X8_put_ s33 v30 v31 v32 5 (s33.1 16 v30.toNatClampNeg))
else (
mX8_put__119 f_X8_put_ s33 v30 v31 v32 (v31 + 1) (s33.1 16 v30.toNatClampNeg))))))
def mX8_put__28 (f_X8_put_ : St → Int32 → Int32 → Option St) (s49 : St) (v46 : Int32) (v47 : Int32) (v48 : Int32) : Option St :=
if v48 = 0 then (
mX8_put__41 f_X8_put_ s49 v46 v47 v48)
else (
(mX8_put s49 40).bind fun s52 =>
mX8_put__41 f_X8_put_ s52 v46 v47 v48)
def bX8_put_ (f_X8_put_ : St → Int32 → Int32 → Option St) (σ : St) (p1 : Int32) (p2 : Int32) : Option St :=
if (σ.1 12 0) ≤ 400 then (
chkI p1 240 (
bnd (σ.1 15 p1.toNatClampNeg) fun x54 =>
if x54 < p2 then (
mX8_put__28 f_X8_put_ σ p1 x54 0)
else (
mX8_put__28 f_X8_put_ σ p1 x54 1)))
else (
some σ)
def gX8_put_ (d : Nat) : (St → Int32 → Int32 → Option St) := fx (fun _ _ _ => none) (fun F => (bX8_put_ (F))) d
abbrev mX8_put_ : St → Int32 → Int32 → Option St := (gX8_put_ 256)
set_option maxHeartbeats 4000000 in
set_option maxRecDepth 100000 in
theorem oX8_put_ (l : Launch) (D : va_G) (y : Nat → ClassId) (a t : Nat → Nat) (hI : AI a 30) (fr lo : Nat) (hfr : 1 ≤ fr) (hlo : 8 ≤ lo) (f_X8_put_ : St → Int32 → Int32 → Option St) (c_X8_put_ : ∀ (sz : Nat) (σ τ : St) (p1 : Int32) (p2 : Int32), f_X8_put_ σ p1 p2 = some τ → Met l yX8_put_ zX8_put_ { frames := fr, cells := 0, slots := 0, locals := lo } (va_Pc [.ref (a 0), .int p1, .int p2] (preW (wM y a) a 30 D y t σ sz)) (va_Qv (fun u => u = τ) (posW (wM y a) D) (AC a 30 sz)) 0 0 (AC a 30 sz)) (sz : Nat) (σ τ : St) (p1 : Int32) (p2 : Int32) (hm : bX8_put_ f_X8_put_ σ p1 p2 = some τ) : Met l yX8_put_ zX8_put_ { frames := fr + 1, cells := 0, slots := 0, locals := lo + 24 } (va_Pc [.ref (a 0), .int p1, .int p2] (preW (wM y a) a 30 D y t σ sz)) (va_Qv (fun u => u = τ) (posW (wM y a) D) (AC a 30 sz)) 0 0 (AC a 30 sz) := by
  refine Met.ofW (cc := cX8_put_) (maxL := 5) (ret := none) (by decide) rfl ?_
  intro p e s m args below meth c s₁ B hml hv
  obtain ⟨rfl, hsz, hP, hK, hF⟩ := hv
  have hx := B.exec
  have hb := B.bytes
  have hr := B.returns
  have hts := atoms_spec (ws := zX8_put_) B.pre
  have hown : s.vm.findClass RX8 = some m.cls := findClass_of_methodNamed B.named
  have hlocks := B.notSynchronized
  subst hsz
  have l_f180 := hts _ (List.mem_cons_of_mem _ aF_X8_180)
  have l_f20 := hts _ (List.mem_cons_of_mem _ aF_X8_20)
  have l_f23 := hts _ (List.mem_cons_of_mem _ aF_X8_23)
  have l_f26 := hts _ (List.mem_cons_of_mem _ aF_X8_26)
  have h_X8 : ∀ w ∈ wsX80, w.before _ s = true := fun w hw => hts w (List.mem_cons_of_mem _ (hwX8 w hw))
  have hS : va_S (AC a 30 s.heap.size) s.heap s.heap [] := va_S.rf
  have hl := lv_entry ([.ref (a 0), .int p1, .int p2]) (n := 5) (Nat.le_of_ble_eq_true rfl)
  rw [lg_entry_eq]
  generalize (lg_sl ([.ref (a 0), .int p1, .int p2]) ++ List.replicate (5 - (lg_sl ([.ref (a 0), .int p1, .int p2])).length) Slot.unset).toArray = ls at hl ⊢
  have hl : lv_has ls 5 [(0, .ref (a 0)), (1, .int p1), (2, .int p2)] := hl
  have L_169 : ∀ (s2 : St) (v1 : Int32) (H : Heap) (locs : List Loc) (ls : Array Slot), va_P D vwCl (wM y a s2) H → va_S (AC a 30 s.heap.size) s.heap H locs → lv_has ls 5 [(0, .ref (a 0)), (4, .int v1)] → mX8_put__169 f_X8_put_ s2 v1 = some τ → W p l e (headSpec zX8_put_ ({ frames := fr + 1, cells := 0, slots := 0, locals := lo + 24 })).room s m ([.ref (a 0), .int p1, .int p2] : List Value).toArray below meth c H locs 0 0 (MQ below (va_Qv (fun u => u = τ) (posW (wM y a) D) (AC a 30 s.heap.size)) ([.ref (a 0), .int p1, .int p2] : List Value).toArray s 0 0 (AC a 30 s.heap.size)) (F0 m 169 ls []) := by
    intro s2 v1 H locs ls hP hS hl hm
    unfold mX8_put__169 at hm
    refine lv_iload hx hb dX8_put__169 (lv_at hl 1 rfl) ?_
    refine lv_if_eq (tgt := 180) hx hb dX8_put__171 (by decide) (fun c3 => ?_) (fun c3 => ?_)
    · have hm := (if_pos c3).symm.trans hm
      exact W.vret hx hb hr (fun T hT hW => ⟨⟨s2, rfl, Option.some.inj hm, by rw [posW, hT]; exact hP⟩, hS.F hT⟩) hS.2.2 dX8_put__180
    · have hm := (if_neg c3).symm.trans hm
      refine lv_aload_n hx hb dX8_put__174 rfl (lv_at hl 0 rfl) ?_
      refine lv_bipush (v := 41) hx hb dX8_put__175 (by decide) ?_
      obtain ⟨s5, h4, hm⟩ := ok_bind hm
      refine calV_v (As := [.int 41]) (rest := []) ⟨hx, hb, hml, hown, hts⟩ (kX8_put l D y a t hI _ s2 s5 41 h4) (cwV 1 hts (gAV aM_X8_183 aI_X8_put aS_X8_put aN_X8 aC_X8_put) rfl rfl rfl eX8_put ⟨by show 0 + 1 ≤ fr + 1; omega, by show 8 + (2 + 11) + 0 ≤ lo + 24; omega⟩) (preV_W (ci := 8) (q := (RX8, TX8, 42)) hK hP hF hS rfl (wM_0 y a s2)) rfl hl.1 rfl (Nat.le_of_ble_eq_true rfl) dX8_put__177 ⟨Nat.zero_le _, Nat.zero_le _⟩ hS (AC_le hS.1) (fun H locs hP hS hk1 => ?_)
      exact W.vret hx hb hr (fun T hT hW => ⟨⟨s5, rfl, Option.some.inj hm, by rw [posW, hT]; exact hP⟩, hS.F hT⟩) hS.2.2 dX8_put__180
  have L_166 : ∀ (s9 : St) (v6 : Int32) (v7 : Int32) (v8 : Int32) (H : Heap) (locs : List Loc) (ls : Array Slot), va_P D vwCl (wM y a s9) H → va_S (AC a 30 s.heap.size) s.heap H locs → lv_has ls 5 [(0, .ref (a 0)), (4, .int v6)] → mX8_put__166 f_X8_put_ s9 v6 v7 v8 = some τ → W p l e (headSpec zX8_put_ ({ frames := fr + 1, cells := 0, slots := 0, locals := lo + 24 })).room s m ([.ref (a 0), .int p1, .int p2] : List Value).toArray below meth c H locs 0 0 (MQ below (va_Qv (fun u => u = τ) (posW (wM y a) D) (AC a 30 s.heap.size)) ([.ref (a 0), .int p1, .int p2] : List Value).toArray s 0 0 (AC a 30 s.heap.size)) (F0 m 166 ls [.int v7, .int v8, .ref (a 0)]) := by
    intro s9 v6 v7 v8 H locs ls hP hS hl hm
    unfold mX8_put__166 at hm
    obtain ⟨s11, h10, hm⟩ := ok_bind hm
    refine calV_v (As := [.int v8, .int v7]) (rest := []) ⟨hx, hb, hml, hown, hts⟩ (c_X8_put_ _ s9 s11 v8 v7 h10) (cwV 2 hts (gAV aM_X8_187 aI_X8_put_ aS_X8_put_ aN_X8 aC_X8_put_) rfl rfl rfl eX8_put_ ⟨Nat.le_refl _, by show 8 + (5 + 11) + lo ≤ lo + 24; omega⟩) (preV_W (ci := 8) (q := (RX8, TX8, 42)) hK hP hF hS rfl (wM_0 y a s9)) rfl hl.1 rfl (Nat.le_of_ble_eq_true rfl) dX8_put__166 ⟨Nat.zero_le _, Nat.zero_le _⟩ hS (AC_le hS.1) (fun H locs hP hS hk1 => ?_)
    exact L_169 s11 v6 _ _ _ hP hS (lv_sub hl [0, 1] rfl) hm
  have L_145 : ∀ (s16 : St) (v12 : Int32) (v13 : Int32) (v14 : Int32) (v15 : Int32) (H : Heap) (locs : List Loc) (ls : Array Slot), va_P D vwCl (wM y a s16) H → va_S (AC a 30 s.heap.size) s.heap H locs → lv_has ls 5 [(0, .ref (a 0)), (1, .int v12), (3, .int v13), (4, .int v14)] → mX8_put__145 f_X8_put_ s16 v12 v13 v14 v15 = some τ → W p l e (headSpec zX8_put_ ({ frames := fr + 1, cells := 0, slots := 0, locals := lo + 24 })).room s m ([.ref (a 0), .int p1, .int p2] : List Value).toArray below meth c H locs 0 0 (MQ below (va_Qv (fun u => u = τ) (posW (wM y a) D) (AC a 30 s.heap.size)) ([.ref (a 0), .int p1, .int p2] : List Value).toArray s 0 0 (AC a 30 s.heap.size)) (F0 m 145 ls [.int v15, .ref (a 0)]) := by
    intro s16 v12 v13 v14 v15 H locs ls hP hS hl hm
    unfold mX8_put__145 at hm
    obtain ⟨s18, h17, hm⟩ := ok_bind hm
    refine calV_v (As := [.int v15]) (rest := []) ⟨hx, hb, hml, hown, hts⟩ (kX8_put l D y a t hI _ s16 s18 v15 h17) (cwV 1 hts (gAV aM_X8_183 aI_X8_put aS_X8_put aN_X8 aC_X8_put) rfl rfl rfl eX8_put ⟨by show 0 + 1 ≤ fr + 1; omega, by show 8 + (2 + 11) + 0 ≤ lo + 24; omega⟩) (preV_W (ci := 8) (q := (RX8, TX8, 42)) hK hP hF hS rfl (wM_0 y a s16)) rfl hl.1 rfl (Nat.le_of_ble_eq_true rfl) dX8_put__145 ⟨Nat.zero_le _, Nat.zero_le _⟩ hS (AC_le hS.1) (fun H locs hP hS hk1 => ?_)
    refine lv_aload_n hx hb dX8_put__148 rfl (lv_at hl 0 rfl) ?_
    refine lv_aload_n hx hb dX8_put__149 rfl (lv_at hl 0 rfl) ?_
    refine gfX8_seconds hx hb h_X8 hown hK hP l_f26 dX8_put__150 ?_
    refine lv_iload_n hx hb dX8_put__153 rfl (lv_at hl 1 rfl) ?_
    obtain ⟨hi, hm⟩ := ok_I hm
    refine ldM_5 hx hb hK hP hi dX8_put__154 ?_
    refine lv_iload_n hx hb dX8_put__155 rfl (lv_at hl 2 rfl) ?_
    refine lv_iconst (v := 5) hx hb dX8_put__156 (by decide) ?_
    refine lv_icmp_ne (tgt := 165) hx hb dX8_put__157 (by decide) (fun c19 => ?_) (fun c19 => ?_)
    · have hm := (if_neg c19).symm.trans hm
      refine lv_iload_n hx hb dX8_put__165 rfl (lv_at hl 2 rfl) ?_
      exact L_166 s18 v14 v13 (s18.1 17 v12.toNatClampNeg) _ _ _ hP hS (lv_sub hl [0, 3] rfl) hm
    · have hm := (if_pos c19).symm.trans hm
      refine lv_bipush (v := 6) hx hb dX8_put__160 (by decide) ?_
      refine lv_goto (tgt := 166) hx hb dX8_put__162 (by decide) ?_
      exact L_166 s18 v14 6 (s18.1 17 v12.toNatClampNeg) _ _ _ hP hS (lv_sub hl [0, 3] rfl) hm
  have L_119 : ∀ (s25 : St) (v20 : Int32) (v21 : Int32) (v22 : Int32) (v23 : Int32) (v24 : Int32) (H : Heap) (locs : List Loc) (ls : Array Slot), va_P D vwCl (wM y a s25) H → va_S (AC a 30 s.heap.size) s.heap H locs → lv_has ls 5 [(0, .ref (a 0)), (1, .int v20), (3, .int v21), (4, .int v22)] → mX8_put__119 f_X8_put_ s25 v20 v21 v22 v23 v24 = some τ → W p l e (headSpec zX8_put_ ({ frames := fr + 1, cells := 0, slots := 0, locals := lo + 24 })).room s m ([.ref (a 0), .int p1, .int p2] : List Value).toArray below meth c H locs 0 0 (MQ below (va_Qv (fun u => u = τ) (posW (wM y a) D) (AC a 30 s.heap.size)) ([.ref (a 0), .int p1, .int p2] : List Value).toArray s 0 0 (AC a 30 s.heap.size)) (F0 m 119 ls [.int v23, .int v24, .ref (a 0)]) := by
    intro s25 v20 v21 v22 v23 v24 H locs ls hP hS hl hm
    unfold mX8_put__119 at hm
    obtain ⟨s27, h26, hm⟩ := ok_bind hm
    refine calV_v (As := [.int v24, .int v23]) (rest := []) ⟨hx, hb, hml, hown, hts⟩ (c_X8_put_ _ s25 s27 v24 v23 h26) (cwV 2 hts (gAV aM_X8_187 aI_X8_put_ aS_X8_put_ aN_X8 aC_X8_put_) rfl rfl rfl eX8_put_ ⟨Nat.le_refl _, by show 8 + (5 + 11) + lo ≤ lo + 24; omega⟩) (preV_W (ci := 8) (q := (RX8, TX8, 42)) hK hP hF hS rfl (wM_0 y a s25)) rfl hl.1 rfl (Nat.le_of_ble_eq_true rfl) dX8_put__119 ⟨Nat.zero_le _, Nat.zero_le _⟩ hS (AC_le hS.1) (fun H locs hP hS hk1 => ?_)
    refine lv_aload_n hx hb dX8_put__122 rfl (lv_at hl 0 rfl) ?_
    refine lv_iload_n hx hb dX8_put__123 rfl (lv_at hl 2 rfl) ?_
    refine lv_iconst (v := 3) hx hb dX8_put__124 (by decide) ?_
    refine lv_icmp_ne (tgt := 133) hx hb dX8_put__125 (by decide) (fun c28 => ?_) (fun c28 => ?_)
    · have hm := (if_neg c28).symm.trans hm
      refine lv_iload_n hx hb dX8_put__133 rfl (lv_at hl 2 rfl) ?_
      refine lv_iconst (v := 4) hx hb dX8_put__134 (by decide) ?_
      refine lv_icmp_ne (tgt := 143) hx hb dX8_put__135 (by decide) (fun c29 => ?_) (fun c29 => ?_)
      · have hm := (if_neg c29).symm.trans hm
        refine lv_bipush (v := 62) hx hb dX8_put__143 (by decide) ?_
        exact L_145 s27 v20 v21 v22 62 _ _ _ hP hS (lv_sub hl [0, 1, 2, 3] rfl) hm
      · have hm := (if_pos c29).symm.trans hm
        refine lv_bipush (v := 124) hx hb dX8_put__138 (by decide) ?_
        refine lv_goto (tgt := 145) hx hb dX8_put__140 (by decide) ?_
        exact L_145 s27 v20 v21 v22 124 _ _ _ hP hS (lv_sub hl [0, 1, 2, 3] rfl) hm
    · have hm := (if_pos c28).symm.trans hm
      refine lv_bipush (v := 38) hx hb dX8_put__128 (by decide) ?_
      refine lv_goto (tgt := 145) hx hb dX8_put__130 (by decide) ?_
      exact L_145 s27 v20 v21 v22 38 _ _ _ hP hS (lv_sub hl [0, 1, 2, 3] rfl) hm
  have L_41 : ∀ (s33 : St) (v30 : Int32) (v31 : Int32) (v32 : Int32) (H : Heap) (locs : List Loc) (ls : Array Slot), va_P D vwCl (wM y a s33) H → va_S (AC a 30 s.heap.size) s.heap H locs → lv_has ls 5 [(0, .ref (a 0)), (1, .int v30), (3, .int v31), (4, .int v32)] → mX8_put__41 f_X8_put_ s33 v30 v31 v32 = some τ → W p l e (headSpec zX8_put_ ({ frames := fr + 1, cells := 0, slots := 0, locals := lo + 24 })).room s m ([.ref (a 0), .int p1, .int p2] : List Value).toArray below meth c H locs 0 0 (MQ below (va_Qv (fun u => u = τ) (posW (wM y a) D) (AC a 30 s.heap.size)) ([.ref (a 0), .int p1, .int p2] : List Value).toArray s 0 0 (AC a 30 s.heap.size)) (F0 m 41 ls []) := by
    intro s33 v30 v31 v32 H locs ls hP hS hl hm
    unfold mX8_put__41 at hm
    refine lv_iload_n hx hb dX8_put__41 rfl (lv_at hl 2 rfl) ?_
    refine lv_if_ne (tgt := 61) hx hb dX8_put__42 (by decide) (fun c34 => ?_) (fun c34 => ?_)
    · have hm := (if_neg c34).symm.trans hm
      refine lv_iload_n hx hb dX8_put__61 rfl (lv_at hl 2 rfl) ?_
      refine lv_iconst (v := 1) hx hb dX8_put__62 (by decide) ?_
      refine lv_icmp_ne (tgt := 75) hx hb dX8_put__63 (by decide) (fun c35 => ?_) (fun c35 => ?_)
      · have hm := (if_neg c35).symm.trans hm
        refine lv_iload_n hx hb dX8_put__75 rfl (lv_at hl 2 rfl) ?_
        refine lv_iconst (v := 2) hx hb dX8_put__76 (by decide) ?_
        refine lv_icmp_ne (tgt := 100) hx hb dX8_put__77 (by decide) (fun c36 => ?_) (fun c36 => ?_)
        · have hm := (if_neg c36).symm.trans hm
          refine lv_aload_n hx hb dX8_put__100 rfl (lv_at hl 0 rfl) ?_
          refine lv_aload_n hx hb dX8_put__101 rfl (lv_at hl 0 rfl) ?_
          refine gfX8_firsts hx hb h_X8 hown hK hP l_f23 dX8_put__102 ?_
          refine lv_iload_n hx hb dX8_put__105 rfl (lv_at hl 1 rfl) ?_
          obtain ⟨hi, hm⟩ := ok_I hm
          refine ldM_4 hx hb hK hP hi dX8_put__106 ?_
          refine lv_iload_n hx hb dX8_put__107 rfl (lv_at hl 2 rfl) ?_
          refine lv_iconst (v := 5) hx hb dX8_put__108 (by decide) ?_
          refine lv_icmp_ne (tgt := 116) hx hb dX8_put__109 (by decide) (fun c37 => ?_) (fun c37 => ?_)
          · have hm := (if_neg c37).symm.trans hm
            refine lv_iload_n hx hb dX8_put__116 rfl (lv_at hl 2 rfl) ?_
            refine lv_iconst (v := 1) hx hb dX8_put__117 (by decide) ?_
            refine lv_iadd hx hb dX8_put__118 ?_
            exact L_119 s33 v30 v31 v32 (v31 + 1) (s33.1 16 v30.toNatClampNeg) _ _ _ hP hS (lv_sub hl [0, 1, 2, 3] rfl) hm
          · have hm := (if_pos c37).symm.trans hm
            refine lv_iconst (v := 5) hx hb dX8_put__112 (by decide) ?_
            refine lv_goto (tgt := 119) hx hb dX8_put__113 (by decide) ?_
            exact L_119 s33 v30 v31 v32 5 (s33.1 16 v30.toNatClampNeg) _ _ _ hP hS (lv_sub hl [0, 1, 2, 3] rfl) hm
        · have hm := (if_pos c36).symm.trans hm
          refine lv_aload_n hx hb dX8_put__80 rfl (lv_at hl 0 rfl) ?_
          refine lv_bipush (v := 45) hx hb dX8_put__81 (by decide) ?_
          obtain ⟨s39, h38, hm⟩ := ok_bind hm
          refine calV_v (As := [.int 45]) (rest := []) ⟨hx, hb, hml, hown, hts⟩ (kX8_put l D y a t hI _ s33 s39 45 h38) (cwV 1 hts (gAV aM_X8_183 aI_X8_put aS_X8_put aN_X8 aC_X8_put) rfl rfl rfl eX8_put ⟨by show 0 + 1 ≤ fr + 1; omega, by show 8 + (2 + 11) + 0 ≤ lo + 24; omega⟩) (preV_W (ci := 8) (q := (RX8, TX8, 42)) hK hP hF hS rfl (wM_0 y a s33)) rfl hl.1 rfl (Nat.le_of_ble_eq_true rfl) dX8_put__83 ⟨Nat.zero_le _, Nat.zero_le _⟩ hS (AC_le hS.1) (fun H locs hP hS hk1 => ?_)
          refine lv_aload_n hx hb dX8_put__86 rfl (lv_at hl 0 rfl) ?_
          refine lv_aload_n hx hb dX8_put__87 rfl (lv_at hl 0 rfl) ?_
          refine gfX8_firsts hx hb h_X8 hown hK hP l_f23 dX8_put__88 ?_
          refine lv_iload_n hx hb dX8_put__91 rfl (lv_at hl 1 rfl) ?_
          obtain ⟨hi, hm⟩ := ok_I hm
          refine ldM_4 hx hb hK hP hi dX8_put__92 ?_
          refine lv_iconst (v := 3) hx hb dX8_put__93 (by decide) ?_
          obtain ⟨s41, h40, hm⟩ := ok_bind hm
          refine calV_v (As := [.int (s39.1 16 v30.toNatClampNeg), .int 3]) (rest := []) ⟨hx, hb, hml, hown, hts⟩ (c_X8_put_ _ s39 s41 (s39.1 16 v30.toNatClampNeg) 3 h40) (cwV 2 hts (gAV aM_X8_187 aI_X8_put_ aS_X8_put_ aN_X8 aC_X8_put_) rfl rfl rfl eX8_put_ ⟨Nat.le_refl _, by show 8 + (5 + 11) + lo ≤ lo + 24; omega⟩) (preV_W (ci := 8) (q := (RX8, TX8, 42)) hK hP hF hS rfl (wM_0 y a s39)) rfl hl.1 rfl (Nat.le_of_ble_eq_true rfl) dX8_put__94 ⟨Nat.zero_le _, Nat.zero_le _⟩ hS (AC_le hS.1) (fun H locs hP hS hk1 => ?_)
          refine lv_goto (tgt := 169) hx hb dX8_put__97 (by decide) ?_
          exact L_169 s41 v32 _ _ _ hP hS (lv_sub hl [0, 3] rfl) hm
      · have hm := (if_pos c35).symm.trans hm
        refine lv_aload_n hx hb dX8_put__66 rfl (lv_at hl 0 rfl) ?_
        refine lv_bipush (v := 35) hx hb dX8_put__67 (by decide) ?_
        obtain ⟨s43, h42, hm⟩ := ok_bind hm
        refine calV_v (As := [.int 35]) (rest := []) ⟨hx, hb, hml, hown, hts⟩ (kX8_put l D y a t hI _ s33 s43 35 h42) (cwV 1 hts (gAV aM_X8_183 aI_X8_put aS_X8_put aN_X8 aC_X8_put) rfl rfl rfl eX8_put ⟨by show 0 + 1 ≤ fr + 1; omega, by show 8 + (2 + 11) + 0 ≤ lo + 24; omega⟩) (preV_W (ci := 8) (q := (RX8, TX8, 42)) hK hP hF hS rfl (wM_0 y a s33)) rfl hl.1 rfl (Nat.le_of_ble_eq_true rfl) dX8_put__69 ⟨Nat.zero_le _, Nat.zero_le _⟩ hS (AC_le hS.1) (fun H locs hP hS hk1 => ?_)
        refine lv_goto (tgt := 169) hx hb dX8_put__72 (by decide) ?_
        exact L_169 s43 v32 _ _ _ hP hS (lv_sub hl [0, 3] rfl) hm
    · have hm := (if_pos c34).symm.trans hm
      refine lv_aload_n hx hb dX8_put__45 rfl (lv_at hl 0 rfl) ?_
      refine lv_bipush (v := 97) hx hb dX8_put__46 (by decide) ?_
      refine lv_aload_n hx hb dX8_put__48 rfl (lv_at hl 0 rfl) ?_
      refine gfX8_firsts hx hb h_X8 hown hK hP l_f23 dX8_put__49 ?_
      refine lv_iload_n hx hb dX8_put__52 rfl (lv_at hl 1 rfl) ?_
      obtain ⟨hi, hm⟩ := ok_I hm
      refine ldM_4 hx hb hK hP hi dX8_put__53 ?_
      refine lv_iadd hx hb dX8_put__54 ?_
      obtain ⟨s45, h44, hm⟩ := ok_bind hm
      refine calV_v (As := [.int (97 + (s33.1 16 v30.toNatClampNeg))]) (rest := []) ⟨hx, hb, hml, hown, hts⟩ (kX8_put l D y a t hI _ s33 s45 (97 + (s33.1 16 v30.toNatClampNeg)) h44) (cwV 1 hts (gAV aM_X8_183 aI_X8_put aS_X8_put aN_X8 aC_X8_put) rfl rfl rfl eX8_put ⟨by show 0 + 1 ≤ fr + 1; omega, by show 8 + (2 + 11) + 0 ≤ lo + 24; omega⟩) (preV_W (ci := 8) (q := (RX8, TX8, 42)) hK hP hF hS rfl (wM_0 y a s33)) rfl hl.1 rfl (Nat.le_of_ble_eq_true rfl) dX8_put__55 ⟨Nat.zero_le _, Nat.zero_le _⟩ hS (AC_le hS.1) (fun H locs hP hS hk1 => ?_)
      refine lv_goto (tgt := 169) hx hb dX8_put__58 (by decide) ?_
      exact L_169 s45 v32 _ _ _ hP hS (lv_sub hl [0, 3] rfl) hm
  have L_28 : ∀ (s49 : St) (v46 : Int32) (v47 : Int32) (v48 : Int32) (H : Heap) (locs : List Loc) (ls : Array Slot), va_P D vwCl (wM y a s49) H → va_S (AC a 30 s.heap.size) s.heap H locs → lv_has ls 5 [(0, .ref (a 0)), (1, .int v46), (3, .int v47)] → mX8_put__28 f_X8_put_ s49 v46 v47 v48 = some τ → W p l e (headSpec zX8_put_ ({ frames := fr + 1, cells := 0, slots := 0, locals := lo + 24 })).room s m ([.ref (a 0), .int p1, .int p2] : List Value).toArray below meth c H locs 0 0 (MQ below (va_Qv (fun u => u = τ) (posW (wM y a) D) (AC a 30 s.heap.size)) ([.ref (a 0), .int p1, .int p2] : List Value).toArray s 0 0 (AC a 30 s.heap.size)) (F0 m 28 ls [.int v48]) := by
    intro s49 v46 v47 v48 H locs ls hP hS hl hm
    unfold mX8_put__28 at hm
    refine lv_istore (lv' := [(4, .int v48), (0, .ref (a 0)), (1, .int v46), (3, .int v47)]) hx hb dX8_put__28 hl (by decide) rfl (fun ls hl => ?_)
    refine lv_iload hx hb dX8_put__30 (lv_at hl 0 rfl) ?_
    refine lv_if_eq (tgt := 41) hx hb dX8_put__32 (by decide) (fun c50 => ?_) (fun c50 => ?_)
    · have hm := (if_pos c50).symm.trans hm
      exact L_41 s49 v46 v47 v48 _ _ _ hP hS (lv_sub hl [1, 2, 3, 0] rfl) hm
    · have hm := (if_neg c50).symm.trans hm
      refine lv_aload_n hx hb dX8_put__35 rfl (lv_at hl 1 rfl) ?_
      refine lv_bipush (v := 40) hx hb dX8_put__36 (by decide) ?_
      obtain ⟨s52, h51, hm⟩ := ok_bind hm
      refine calV_v (As := [.int 40]) (rest := []) ⟨hx, hb, hml, hown, hts⟩ (kX8_put l D y a t hI _ s49 s52 40 h51) (cwV 1 hts (gAV aM_X8_183 aI_X8_put aS_X8_put aN_X8 aC_X8_put) rfl rfl rfl eX8_put ⟨by show 0 + 1 ≤ fr + 1; omega, by show 8 + (2 + 11) + 0 ≤ lo + 24; omega⟩) (preV_W (ci := 8) (q := (RX8, TX8, 42)) hK hP hF hS rfl (wM_0 y a s49)) rfl hl.1 rfl (Nat.le_of_ble_eq_true rfl) dX8_put__38 ⟨Nat.zero_le _, Nat.zero_le _⟩ hS (AC_le hS.1) (fun H locs hP hS hk1 => ?_)
      exact L_41 s52 v46 v47 v48 _ _ _ hP hS (lv_sub hl [1, 2, 3, 0] rfl) hm
  unfold bX8_put_ at hm
  refine lv_aload_n hx hb dX8_put__0 rfl (lv_at hl 0 rfl) ?_
  refine gfX8_drafted hx hb h_X8 hown hK hP l_f180 dX8_put__1 ?_
  refine lv_sipush (v := 400) hx hb dX8_put__4 (by decide) ?_
  refine lv_icmp_le (tgt := 11) hx hb dX8_put__7 (by decide) (fun c53 => ?_) (fun c53 => ?_)
  · have hm := (if_pos c53).symm.trans hm
    refine lv_aload_n hx hb dX8_put__11 rfl (lv_at hl 0 rfl) ?_
    refine gfX8_sorts hx hb h_X8 hown hK hP l_f20 dX8_put__12 ?_
    refine lv_iload_n hx hb dX8_put__15 rfl (lv_at hl 1 rfl) ?_
    obtain ⟨hi, hm⟩ := ok_I hm
    refine ldM_3 hx hb hK hP hi dX8_put__16 ?_
    refine lv_topi (fun x54 ex54 => ?_)
    have hm := bnd_x ex54 hm
    refine lv_istore_n (lv' := [(3, .int x54), (0, .ref (a 0)), (1, .int p1), (2, .int p2)]) hx hb dX8_put__17 rfl hl (by decide) rfl (fun ls hl => ?_)
    refine lv_iload_n hx hb dX8_put__18 rfl (lv_at hl 0 rfl) ?_
    refine lv_iload_n hx hb dX8_put__19 rfl (lv_at hl 3 rfl) ?_
    refine lv_icmp_lt (tgt := 27) hx hb dX8_put__20 (by decide) (fun c55 => ?_) (fun c55 => ?_)
    · have hm := (if_pos c55).symm.trans hm
      refine lv_iconst (v := 0) hx hb dX8_put__27 (by decide) ?_
      exact L_28 σ p1 x54 0 _ _ _ hP hS (lv_sub hl [1, 2, 0] rfl) hm
    · have hm := (if_neg c55).symm.trans hm
      refine lv_iconst (v := 1) hx hb dX8_put__23 (by decide) ?_
      refine lv_goto (tgt := 28) hx hb dX8_put__24 (by decide) ?_
      exact L_28 σ p1 x54 1 _ _ _ hP hS (lv_sub hl [1, 2, 0] rfl) hm
  · have hm := (if_neg c53).symm.trans hm
    exact W.vret hx hb hr (fun T hT hW => ⟨⟨σ, rfl, Option.some.inj hm, by rw [posW, hT]; exact hP⟩, hS.F hT⟩) hS.2.2 dX8_put__10
set_option maxHeartbeats 4000000 in
set_option maxRecDepth 100000 in
theorem qX8_put_ (l : Launch) (D : va_G) (y : Nat → ClassId) (a t : Nat → Nat) (hI : AI a 30) : ∀ d : Nat, (∀ (sz : Nat) (σ τ : St) (p1 : Int32) (p2 : Int32), ((gX8_put_ d)) σ p1 p2 = some τ → Met l yX8_put_ zX8_put_ { frames := 1 + d, cells := 0, slots := 0, locals := 8 + 24 * d } (va_Pc [.ref (a 0), .int p1, .int p2] (preW (wM y a) a 30 D y t σ sz)) (va_Qv (fun u => u = τ) (posW (wM y a) D) (AC a 30 sz)) 0 0 (AC a 30 sz)) := by
  intro d
  induction d with
  | zero => exact fun _ _ _ _ _ h => (by cases h)
  | succ d ih =>
    have ih0 := ih
    have q0 : ∀ (sz : Nat) (σ τ : St) (p1 : Int32) (p2 : Int32), ((gX8_put_ (d + 1))) σ p1 p2 = some τ → Met l yX8_put_ zX8_put_ { frames := 1 + (d + 1), cells := 0, slots := 0, locals := 8 + 24 * (d + 1) } (va_Pc [.ref (a 0), .int p1, .int p2] (preW (wM y a) a 30 D y t σ sz)) (va_Qv (fun u => u = τ) (posW (wM y a) D) (AC a 30 sz)) 0 0 (AC a 30 sz) := by
      intro sz σ τ p1 p2 hm
      rw [show 8 + 24 * (d + 1) = 8 + 24 * d + 24 by omega]
      exact oX8_put_ l D y a t hI (1 + d) (8 + 24 * d) (by omega) (by omega) ((gX8_put_ d)) ih0 sz σ τ p1 p2 hm
    exact q0
theorem kX8_put_ (l : Launch) (D : va_G) (y : Nat → ClassId) (a t : Nat → Nat) (hI : AI a 30) : ∀ (sz : Nat) (σ τ : St) (p1 : Int32) (p2 : Int32), mX8_put_ σ p1 p2 = some τ → Met l yX8_put_ zX8_put_ { frames := 257, cells := 0, slots := 0, locals := 6152 } (va_Pc [.ref (a 0), .int p1, .int p2] (preW (wM y a) a 30 D y t σ sz)) (va_Qv (fun u => u = τ) (posW (wM y a) D) (AC a 30 sz)) 0 0 (AC a 30 sz) := (qX8_put_ l D y a t hI 256)
theorem eX8_write : yX8_write.cls = RX8 ∧ yX8_write.cls ≠ "java/lang/invoke/MethodHandle" ∧ yX8_write.cls ≠ "java/lang/invoke/VarHandle" ∧ (parseMethodDescriptor yX8_write.desc).map (fun d => d.parameters.length) = some 1 := by decide +kernel
def mX8_write (σ : St) (p1 : Int32) : Option (Int32 × St) :=
bnd (su σ 0 (fun _ => 0)) fun s1 =>
(mX8_isFormula s1 p1).bind fun r2 =>
if r2 = 0 then (
(mX8_no s1 1).bind fun ⟨r14, s16⟩ =>
some (r14, s16))
else (
bnd (su s1 12 (fun _ => 0)) fun s5 =>
(mX8_put_ s5 p1 6).bind fun s7 =>
if (s7.1 12 0) ≤ 400 then (
chkL (s7.1 12 0) 400 (
bnd (su s7 14 (va_cpy (s7.1 38) (s7.1 14) 0 0 (s7.1 12 0).toNatClampNeg)) fun s9 =>
bnd (su s9 4 (fun _ => s9.1 12 0)) fun s10 =>
some (s10.1 4 0, s10)))
else (
(mX8_no s7 2).bind fun ⟨r11, s13⟩ =>
some (r11, s13)))
set_option maxHeartbeats 4000000 in
set_option maxRecDepth 100000 in
theorem kX8_write (l : Launch) (D : va_G) (y : Nat → ClassId) (a t : Nat → Nat) (hI : AI a 30) (sz : Nat) (σ τ : St) (p1 : Int32) (r : Int32) (hm : mX8_write σ p1 = some (r, τ)) : Met l yX8_write zX8_write { frames := 258, cells := 0, slots := 0, locals := 6176 } (va_Pc [.ref (a 0), .int p1] (preW (wM y a) a 30 D y t σ sz)) (va_Qi (fun r' u => r' = r ∧ u = τ) (posW (wM y a) D) (AC a 30 sz)) 0 0 (AC a 30 sz) := by
  refine Met.ofW (cc := cX8_write) (maxL := 2) (ret := (some .int)) (by decide) rfl ?_
  intro p e s m args below meth c s₁ B hml hv
  obtain ⟨rfl, hsz, hP, hK, hF⟩ := hv
  have hx := B.exec
  have hb := B.bytes
  have hr := B.returns
  have hts := atoms_spec (ws := zX8_write) B.pre
  have hown : s.vm.findClass RX8 = some m.cls := findClass_of_methodNamed B.named
  have hlocks := B.notSynchronized
  subst hsz
  have l_f106 := hts _ (List.mem_cons_of_mem _ aF_X8_106)
  have l_f180 := hts _ (List.mem_cons_of_mem _ aF_X8_180)
  have l_f94 := hts _ (List.mem_cons_of_mem _ aF_X8_94)
  have l_f17 := hts _ (List.mem_cons_of_mem _ aF_X8_17)
  have l_ml190 := hts _ (List.mem_cons_of_mem _ aM_X8_190)
  have l_mv := hts _ (List.mem_cons_of_mem _ aV_arraycopy)
  have l_ms := hts _ (List.mem_cons_of_mem _ aT_arraycopy)
  have l_mi := hts _ (List.mem_cons_of_mem _ aN_J10)
  have l_f196 := hts _ (List.mem_cons_of_mem _ aF_X8_196)
  have h_X8 : ∀ w ∈ wsX80, w.before _ s = true := fun w hw => hts w (List.mem_cons_of_mem _ (hwX8 w hw))
  have hS : va_S (AC a 30 s.heap.size) s.heap s.heap [] := va_S.rf
  have hl := lv_entry ([.ref (a 0), .int p1]) (n := 2) (Nat.le_of_ble_eq_true rfl)
  rw [lg_entry_eq]
  generalize (lg_sl ([.ref (a 0), .int p1]) ++ List.replicate (2 - (lg_sl ([.ref (a 0), .int p1])).length) Slot.unset).toArray = ls at hl ⊢
  have hl : lv_has ls 2 [(0, .ref (a 0)), (1, .int p1)] := hl
  unfold mX8_write at hm
  refine lv_aload_n hx hb dX8_write_0 rfl (lv_at hl 0 rfl) ?_
  refine lv_iconst (v := 0) hx hb dX8_write_1 (by decide) ?_
  refine pfX8_thrown hx hb h_X8 hown hK hP hI AC_in hS l_f106 dX8_write_2 (fun H locs hP hS => ?_)
  generalize es1 : su σ 0 (fun _ => 0) = s1 at hP
  have hm := bnd_x es1.symm hm
  refine lv_aload_n hx hb dX8_write_5 rfl (lv_at hl 0 rfl) ?_
  refine lv_iload_n hx hb dX8_write_6 rfl (lv_at hl 1 rfl) ?_
  obtain ⟨r2, h3, hm⟩ := ok_bind hm
  refine calV_i (As := [.int p1]) (rest := []) ⟨hx, hb, hml, hown, hts⟩ (kX8_isFormula l D y a t hI _ s1 p1 r2 h3) (cwV 1 hts (gAV aM_X8_171 aI_X8_isFormula aS_X8_isFormula aN_X8 aC_X8_isFormula) rfl rfl rfl eX8_isFormula ⟨Nat.le_of_ble_eq_true rfl, Nat.le_of_ble_eq_true rfl⟩) (preV_W (ci := 8) (q := (RX8, TX8, 42)) hK hP hF hS rfl (wM_0 y a s1)) rfl hl.1 rfl (Nat.le_of_ble_eq_true rfl) dX8_write_7 ⟨Nat.zero_le _, Nat.zero_le _⟩ hS (AC_le hS.1) (fun H locs hP hS hk1 => ?_)
  refine lv_if_ne (tgt := 19) hx hb dX8_write_10 (by decide) (fun c4 => ?_) (fun c4 => ?_)
  · have hm := (if_neg c4).symm.trans hm
    refine lv_aload_n hx hb dX8_write_19 rfl (lv_at hl 0 rfl) ?_
    refine lv_iconst (v := 0) hx hb dX8_write_20 (by decide) ?_
    refine pfX8_drafted hx hb h_X8 hown hK hP hI AC_in hS l_f180 dX8_write_21 (fun H locs hP hS => ?_)
    generalize es5 : su s1 12 (fun _ => 0) = s5 at hP
    have hm := bnd_x es5.symm hm
    refine lv_aload_n hx hb dX8_write_24 rfl (lv_at hl 0 rfl) ?_
    refine lv_iload_n hx hb dX8_write_25 rfl (lv_at hl 1 rfl) ?_
    refine lv_bipush (v := 6) hx hb dX8_write_26 (by decide) ?_
    obtain ⟨s7, h6, hm⟩ := ok_bind hm
    refine calV_v (As := [.int p1, .int 6]) (rest := []) ⟨hx, hb, hml, hown, hts⟩ (kX8_put_ l D y a t hI _ s5 s7 p1 6 h6) (cwV 2 hts (gAV aM_X8_187 aI_X8_put_ aS_X8_put_ aN_X8 aC_X8_put_) rfl rfl rfl eX8_put_ ⟨Nat.le_of_ble_eq_true rfl, Nat.le_of_ble_eq_true rfl⟩) (preV_W (ci := 8) (q := (RX8, TX8, 42)) hK hP hF hS rfl (wM_0 y a s5)) rfl hl.1 rfl (Nat.le_of_ble_eq_true rfl) dX8_write_28 ⟨Nat.zero_le _, Nat.zero_le _⟩ hS (AC_le hS.1) (fun H locs hP hS hk1 => ?_)
    refine lv_aload_n hx hb dX8_write_31 rfl (lv_at hl 0 rfl) ?_
    refine gfX8_drafted hx hb h_X8 hown hK hP l_f180 dX8_write_32 ?_
    refine lv_sipush (v := 400) hx hb dX8_write_35 (by decide) ?_
    refine lv_icmp_le (tgt := 47) hx hb dX8_write_38 (by decide) (fun c8 => ?_) (fun c8 => ?_)
    · have hm := (if_pos c8).symm.trans hm
      refine lv_aload_n hx hb dX8_write_47 rfl (lv_at hl 0 rfl) ?_
      refine gfX8_draft hx hb h_X8 hown hK hP l_f94 dX8_write_48 ?_
      refine lv_iconst (v := 0) hx hb dX8_write_51 (by decide) ?_
      refine lv_aload_n hx hb dX8_write_52 rfl (lv_at hl 0 rfl) ?_
      refine gfX8_paper hx hb h_X8 hown hK hP l_f17 dX8_write_53 ?_
      refine lv_iconst (v := 0) hx hb dX8_write_56 (by decide) ?_
      refine lv_aload_n hx hb dX8_write_57 rfl (lv_at hl 0 rfl) ?_
      refine gfX8_drafted hx hb h_X8 hown hK hP l_f180 dX8_write_58 ?_
      obtain ⟨hi, hm⟩ := ok_L hm
      refine cpM hx hb (hml.trans hl.1.symm) hown l_ml190 l_mv l_ms l_mi hK hP hI AC_in hS hi (Nat.le_of_ble_eq_true rfl) (Nat.le_of_ble_eq_true rfl) dX8_write_61 (fun H locs hP hS => ?_)
      generalize es9 : su s7 14 (va_cpy (s7.1 38) (s7.1 14) 0 0 (s7.1 12 0).toNatClampNeg) = s9 at hP
      have hm := bnd_x es9.symm hm
      refine lv_aload_n hx hb dX8_write_64 rfl (lv_at hl 0 rfl) ?_
      refine lv_aload_n hx hb dX8_write_65 rfl (lv_at hl 0 rfl) ?_
      refine gfX8_drafted hx hb h_X8 hown hK hP l_f180 dX8_write_66 ?_
      refine pfX8_papered hx hb h_X8 hown hK hP hI AC_in hS l_f196 dX8_write_69 (fun H locs hP hS => ?_)
      generalize es10 : su s9 4 (fun _ => s9.1 12 0) = s10 at hP
      have hm := bnd_x es10.symm hm
      refine lv_aload_n hx hb dX8_write_72 rfl (lv_at hl 0 rfl) ?_
      refine gfX8_papered hx hb h_X8 hown hK hP l_f196 dX8_write_73 ?_
      exact W.iret (v := s10.1 4 0) hx hb hr (fun T hT hW => ⟨⟨s10.1 4 0, s10, rfl, ⟨congrArg Prod.fst (Option.some.inj hm), congrArg Prod.snd (Option.some.inj hm)⟩, by rw [posW, hT]; exact hP⟩, hS.F hT⟩) hS.2.2 dX8_write_76
    · have hm := (if_neg c8).symm.trans hm
      refine lv_aload_n hx hb dX8_write_41 rfl (lv_at hl 0 rfl) ?_
      refine lv_iconst (v := 2) hx hb dX8_write_42 (by decide) ?_
      obtain ⟨⟨r11, s13⟩, h12, hm⟩ := ok_bind hm
      refine calV_i (As := [.int 2]) (rest := []) ⟨hx, hb, hml, hown, hts⟩ (kX8_no l D y a t hI _ s7 s13 2 r11 h12) (cwV 1 hts (gAV aM_X8_119 aI_X8_no aS_X8_no aN_X8 aC_X8_no) rfl rfl rfl eX8_no ⟨Nat.le_of_ble_eq_true rfl, Nat.le_of_ble_eq_true rfl⟩) (preV_W (ci := 8) (q := (RX8, TX8, 42)) hK hP hF hS rfl (wM_0 y a s7)) rfl hl.1 rfl (Nat.le_of_ble_eq_true rfl) dX8_write_43 ⟨Nat.zero_le _, Nat.zero_le _⟩ hS (AC_le hS.1) (fun H locs hP hS hk1 => ?_)
      exact W.iret (v := r11) hx hb hr (fun T hT hW => ⟨⟨r11, s13, rfl, ⟨congrArg Prod.fst (Option.some.inj hm), congrArg Prod.snd (Option.some.inj hm)⟩, by rw [posW, hT]; exact hP⟩, hS.F hT⟩) hS.2.2 dX8_write_46
  · have hm := (if_pos c4).symm.trans hm
    refine lv_aload_n hx hb dX8_write_13 rfl (lv_at hl 0 rfl) ?_
    refine lv_iconst (v := 1) hx hb dX8_write_14 (by decide) ?_
    obtain ⟨⟨r14, s16⟩, h15, hm⟩ := ok_bind hm
    refine calV_i (As := [.int 1]) (rest := []) ⟨hx, hb, hml, hown, hts⟩ (kX8_no l D y a t hI _ s1 s16 1 r14 h15) (cwV 1 hts (gAV aM_X8_119 aI_X8_no aS_X8_no aN_X8 aC_X8_no) rfl rfl rfl eX8_no ⟨Nat.le_of_ble_eq_true rfl, Nat.le_of_ble_eq_true rfl⟩) (preV_W (ci := 8) (q := (RX8, TX8, 42)) hK hP hF hS rfl (wM_0 y a s1)) rfl hl.1 rfl (Nat.le_of_ble_eq_true rfl) dX8_write_15 ⟨Nat.zero_le _, Nat.zero_le _⟩ hS (AC_le hS.1) (fun H locs hP hS hk1 => ?_)
    exact W.iret (v := r14) hx hb hr (fun T hT hW => ⟨⟨r14, s16, rfl, ⟨congrArg Prod.fst (Option.some.inj hm), congrArg Prod.snd (Option.some.inj hm)⟩, by rw [posW, hT]; exact hP⟩, hS.F hT⟩) hS.2.2 dX8_write_18
theorem eX8_byteAt : yX8_byteAt.cls = RX8 ∧ yX8_byteAt.cls ≠ "java/lang/invoke/MethodHandle" ∧ yX8_byteAt.cls ≠ "java/lang/invoke/VarHandle" ∧ (parseMethodDescriptor yX8_byteAt.desc).map (fun d => d.parameters.length) = some 1 := by decide +kernel
def mX8_byteAt (σ : St) (p1 : Int32) : Option (Int32 × St) :=
bnd (su σ 0 (fun _ => 0)) fun s1 =>
(mX8_isIn s1 p1 0 ((s1.1 4 0) - 1)).bind fun r2 =>
if r2 = 0 then (
(mX8_no s1 1).bind fun ⟨r5, s7⟩ =>
some (r5, s7))
else (
chkI p1 400 (
some (s1.1 14 p1.toNatClampNeg, s1)))
set_option maxHeartbeats 4000000 in
set_option maxRecDepth 100000 in
theorem kX8_byteAt (l : Launch) (D : va_G) (y : Nat → ClassId) (a t : Nat → Nat) (hI : AI a 30) (sz : Nat) (σ τ : St) (p1 : Int32) (r : Int32) (hm : mX8_byteAt σ p1 = some (r, τ)) : Met l yX8_byteAt zX8_byteAt { frames := 1, cells := 0, slots := 0, locals := 22 } (va_Pc [.ref (a 0), .int p1] (preW (wM y a) a 30 D y t σ sz)) (va_Qi (fun r' u => r' = r ∧ u = τ) (posW (wM y a) D) (AC a 30 sz)) 0 0 (AC a 30 sz) := by
  refine Met.ofW (cc := cX8_byteAt) (maxL := 2) (ret := (some .int)) (by decide) rfl ?_
  intro p e s m args below meth c s₁ B hml hv
  obtain ⟨rfl, hsz, hP, hK, hF⟩ := hv
  have hx := B.exec
  have hb := B.bytes
  have hr := B.returns
  have hts := atoms_spec (ws := zX8_byteAt) B.pre
  have hown : s.vm.findClass RX8 = some m.cls := findClass_of_methodNamed B.named
  have hlocks := B.notSynchronized
  subst hsz
  have l_f106 := hts _ (List.mem_cons_of_mem _ aF_X8_106)
  have l_f196 := hts _ (List.mem_cons_of_mem _ aF_X8_196)
  have l_f17 := hts _ (List.mem_cons_of_mem _ aF_X8_17)
  have h_X8 : ∀ w ∈ wsX80, w.before _ s = true := fun w hw => hts w (List.mem_cons_of_mem _ (hwX8 w hw))
  have hS : va_S (AC a 30 s.heap.size) s.heap s.heap [] := va_S.rf
  have hl := lv_entry ([.ref (a 0), .int p1]) (n := 2) (Nat.le_of_ble_eq_true rfl)
  rw [lg_entry_eq]
  generalize (lg_sl ([.ref (a 0), .int p1]) ++ List.replicate (2 - (lg_sl ([.ref (a 0), .int p1])).length) Slot.unset).toArray = ls at hl ⊢
  have hl : lv_has ls 2 [(0, .ref (a 0)), (1, .int p1)] := hl
  unfold mX8_byteAt at hm
  refine lv_aload_n hx hb dX8_byteAt_0 rfl (lv_at hl 0 rfl) ?_
  refine lv_iconst (v := 0) hx hb dX8_byteAt_1 (by decide) ?_
  refine pfX8_thrown hx hb h_X8 hown hK hP hI AC_in hS l_f106 dX8_byteAt_2 (fun H locs hP hS => ?_)
  generalize es1 : su σ 0 (fun _ => 0) = s1 at hP
  have hm := bnd_x es1.symm hm
  refine lv_iload_n hx hb dX8_byteAt_5 rfl (lv_at hl 1 rfl) ?_
  refine lv_iconst (v := 0) hx hb dX8_byteAt_6 (by decide) ?_
  refine lv_aload_n hx hb dX8_byteAt_7 rfl (lv_at hl 0 rfl) ?_
  refine gfX8_papered hx hb h_X8 hown hK hP l_f196 dX8_byteAt_8 ?_
  refine lv_iconst (v := 1) hx hb dX8_byteAt_11 (by decide) ?_
  refine lv_isub hx hb dX8_byteAt_12 ?_
  obtain ⟨r2, h3, hm⟩ := ok_bind hm
  refine calS_i (As := [.int p1, .int 0, .int ((s1.1 4 0) - 1)]) (rest := []) ⟨hx, hb, hml, hown, hts⟩ (kX8_isIn l D y a t hI _ s1 p1 0 ((s1.1 4 0) - 1) r2 h3) (va_cwS 3 hts (gAS aM_X8_112 aT_X8_isIn aN_X8 aC_X8_isIn) rfl rfl rfl eX8_isIn ⟨Nat.le_of_ble_eq_true rfl, Nat.le_of_ble_eq_true rfl⟩) (preS_W hK hP hF hS) rfl hl.1 rfl (Nat.le_of_ble_eq_true rfl) dX8_byteAt_13 ⟨Nat.zero_le _, Nat.zero_le _⟩ hS (AC_le hS.1) (fun H locs hP hS hk1 => ?_)
  refine lv_if_eq (tgt := 28) hx hb dX8_byteAt_16 (by decide) (fun c4 => ?_) (fun c4 => ?_)
  · have hm := (if_pos c4).symm.trans hm
    refine lv_aload_n hx hb dX8_byteAt_28 rfl (lv_at hl 0 rfl) ?_
    refine lv_iconst (v := 1) hx hb dX8_byteAt_29 (by decide) ?_
    obtain ⟨⟨r5, s7⟩, h6, hm⟩ := ok_bind hm
    refine calV_i (As := [.int 1]) (rest := []) ⟨hx, hb, hml, hown, hts⟩ (kX8_no l D y a t hI _ s1 s7 1 r5 h6) (cwV 1 hts (gAV aM_X8_119 aI_X8_no aS_X8_no aN_X8 aC_X8_no) rfl rfl rfl eX8_no ⟨Nat.le_of_ble_eq_true rfl, Nat.le_of_ble_eq_true rfl⟩) (preV_W (ci := 8) (q := (RX8, TX8, 42)) hK hP hF hS rfl (wM_0 y a s1)) rfl hl.1 rfl (Nat.le_of_ble_eq_true rfl) dX8_byteAt_30 ⟨Nat.zero_le _, Nat.zero_le _⟩ hS (AC_le hS.1) (fun H locs hP hS hk1 => ?_)
    exact W.iret (v := r5) hx hb hr (fun T hT hW => ⟨⟨r5, s7, rfl, ⟨congrArg Prod.fst (Option.some.inj hm), congrArg Prod.snd (Option.some.inj hm)⟩, by rw [posW, hT]; exact hP⟩, hS.F hT⟩) hS.2.2 dX8_byteAt_33
  · have hm := (if_neg c4).symm.trans hm
    refine lv_aload_n hx hb dX8_byteAt_19 rfl (lv_at hl 0 rfl) ?_
    refine gfX8_paper hx hb h_X8 hown hK hP l_f17 dX8_byteAt_20 ?_
    refine lv_iload_n hx hb dX8_byteAt_23 rfl (lv_at hl 1 rfl) ?_
    obtain ⟨hi, hm⟩ := ok_I hm
    refine ldM_2 hx hb hK hP hi dX8_byteAt_24 ?_
    refine lv_goto (tgt := 33) hx hb dX8_byteAt_25 (by decide) ?_
    exact W.iret (v := s1.1 14 p1.toNatClampNeg) hx hb hr (fun T hT hW => ⟨⟨s1.1 14 p1.toNatClampNeg, s1, rfl, ⟨congrArg Prod.fst (Option.some.inj hm), congrArg Prod.snd (Option.some.inj hm)⟩, by rw [posW, hT]; exact hP⟩, hS.F hT⟩) hS.2.2 dX8_byteAt_33
theorem eX8_clear : yX8_clear.cls = RX8 ∧ yX8_clear.cls ≠ "java/lang/invoke/MethodHandle" ∧ yX8_clear.cls ≠ "java/lang/invoke/VarHandle" ∧ (parseMethodDescriptor yX8_clear.desc).map (fun d => d.parameters.length) = some 0 := by decide +kernel
def mX8_clear (σ : St) : Option (Int32 × St) :=
bnd (σ.1 6 0) fun x1 =>
bnd (su σ 6 (fun _ => 0)) fun s2 =>
bnd (su s2 7 (fun _ => 0)) fun s3 =>
bnd (su s3 8 (fun _ => (-1))) fun s4 =>
bnd (su s4 9 (fun _ => 0)) fun s5 =>
some (x1, s5)
set_option maxHeartbeats 4000000 in
set_option maxRecDepth 100000 in
theorem kX8_clear (l : Launch) (D : va_G) (y : Nat → ClassId) (a t : Nat → Nat) (hI : AI a 30) (sz : Nat) (σ τ : St) (r : Int32) (hm : mX8_clear σ = some (r, τ)) : Met l yX8_clear zX8_clear { frames := 0, cells := 0, slots := 0, locals := 0 } (va_Pc [.ref (a 0)] (preW (wM y a) a 30 D y t σ sz)) (va_Qi (fun r' u => r' = r ∧ u = τ) (posW (wM y a) D) (AC a 30 sz)) 0 0 (AC a 30 sz) := by
  refine Met.ofW (cc := cX8_clear) (maxL := 2) (ret := (some .int)) (by decide) rfl ?_
  intro p e s m args below meth c s₁ B hml hv
  obtain ⟨rfl, hsz, hP, hK, hF⟩ := hv
  have hx := B.exec
  have hb := B.bytes
  have hr := B.returns
  have hts := atoms_spec (ws := zX8_clear) B.pre
  have hown : s.vm.findClass RX8 = some m.cls := findClass_of_methodNamed B.named
  have hlocks := B.notSynchronized
  subst hsz
  have l_f199 := hts _ (List.mem_cons_of_mem _ aF_X8_199)
  have l_f202 := hts _ (List.mem_cons_of_mem _ aF_X8_202)
  have l_f61 := hts _ (List.mem_cons_of_mem _ aF_X8_61)
  have l_f205 := hts _ (List.mem_cons_of_mem _ aF_X8_205)
  have h_X8 : ∀ w ∈ wsX80, w.before _ s = true := fun w hw => hts w (List.mem_cons_of_mem _ (hwX8 w hw))
  have hS : va_S (AC a 30 s.heap.size) s.heap s.heap [] := va_S.rf
  have hl := lv_entry ([.ref (a 0)]) (n := 2) (Nat.le_of_ble_eq_true rfl)
  rw [lg_entry_eq]
  generalize (lg_sl ([.ref (a 0)]) ++ List.replicate (2 - (lg_sl ([.ref (a 0)])).length) Slot.unset).toArray = ls at hl ⊢
  have hl : lv_has ls 2 [(0, .ref (a 0))] := hl
  unfold mX8_clear at hm
  refine lv_aload_n hx hb dX8_clear_0 rfl (lv_at hl 0 rfl) ?_
  refine gfX8_lines hx hb h_X8 hown hK hP l_f199 dX8_clear_1 ?_
  refine lv_topi (fun x1 ex1 => ?_)
  have hm := bnd_x ex1 hm
  refine lv_istore_n (lv' := [(1, .int x1), (0, .ref (a 0))]) hx hb dX8_clear_4 rfl hl (by decide) rfl (fun ls hl => ?_)
  refine lv_aload_n hx hb dX8_clear_5 rfl (lv_at hl 1 rfl) ?_
  refine lv_iconst (v := 0) hx hb dX8_clear_6 (by decide) ?_
  refine pfX8_lines hx hb h_X8 hown hK hP hI AC_in hS l_f199 dX8_clear_7 (fun H locs hP hS => ?_)
  generalize es2 : su σ 6 (fun _ => 0) = s2 at hP
  have hm := bnd_x es2.symm hm
  refine lv_aload_n hx hb dX8_clear_10 rfl (lv_at hl 1 rfl) ?_
  refine lv_iconst (v := 0) hx hb dX8_clear_11 (by decide) ?_
  refine pfX8_boxes hx hb h_X8 hown hK hP hI AC_in hS l_f202 dX8_clear_12 (fun H locs hP hS => ?_)
  generalize es3 : su s2 7 (fun _ => 0) = s3 at hP
  have hm := bnd_x es3.symm hm
  refine lv_aload_n hx hb dX8_clear_15 rfl (lv_at hl 1 rfl) ?_
  refine lv_iconst (v := (-1)) hx hb dX8_clear_16 (by decide) ?_
  refine pfX8_inner hx hb h_X8 hown hK hP hI AC_in hS l_f61 dX8_clear_17 (fun H locs hP hS => ?_)
  generalize es4 : su s3 8 (fun _ => (-1)) = s4 at hP
  have hm := bnd_x es4.symm hm
  refine lv_aload_n hx hb dX8_clear_20 rfl (lv_at hl 1 rfl) ?_
  refine lv_iconst (v := 0) hx hb dX8_clear_21 (by decide) ?_
  refine pfX8_done hx hb h_X8 hown hK hP hI AC_in hS l_f205 dX8_clear_22 (fun H locs hP hS => ?_)
  generalize es5 : su s4 9 (fun _ => 0) = s5 at hP
  have hm := bnd_x es5.symm hm
  refine lv_iload_n hx hb dX8_clear_25 rfl (lv_at hl 0 rfl) ?_
  exact W.iret (v := x1) hx hb hr (fun T hT hW => ⟨⟨x1, s5, rfl, ⟨congrArg Prod.fst (Option.some.inj hm), congrArg Prod.snd (Option.some.inj hm)⟩, by rw [posW, hT]; exact hP⟩, hS.F hT⟩) hS.2.2 dX8_clear_26
theorem eX8_begin : yX8_begin.cls = RX8 ∧ yX8_begin.cls ≠ "java/lang/invoke/MethodHandle" ∧ yX8_begin.cls ≠ "java/lang/invoke/VarHandle" ∧ (parseMethodDescriptor yX8_begin.desc).map (fun d => d.parameters.length) = some 0 := by decide +kernel
def mX8_begin (σ : St) : Option (Int32 × St) :=
bnd (su σ 0 (fun _ => 0)) fun s1 =>
(mX8_clear s1).bind fun ⟨r2, s4⟩ =>
some (r2, s4)
set_option maxHeartbeats 4000000 in
set_option maxRecDepth 100000 in
theorem kX8_begin (l : Launch) (D : va_G) (y : Nat → ClassId) (a t : Nat → Nat) (hI : AI a 30) (sz : Nat) (σ τ : St) (r : Int32) (hm : mX8_begin σ = some (r, τ)) : Met l yX8_begin zX8_begin { frames := 1, cells := 0, slots := 0, locals := 21 } (va_Pc [.ref (a 0)] (preW (wM y a) a 30 D y t σ sz)) (va_Qi (fun r' u => r' = r ∧ u = τ) (posW (wM y a) D) (AC a 30 sz)) 0 0 (AC a 30 sz) := by
  refine Met.ofW (cc := cX8_begin) (maxL := 1) (ret := (some .int)) (by decide) rfl ?_
  intro p e s m args below meth c s₁ B hml hv
  obtain ⟨rfl, hsz, hP, hK, hF⟩ := hv
  have hx := B.exec
  have hb := B.bytes
  have hr := B.returns
  have hts := atoms_spec (ws := zX8_begin) B.pre
  have hown : s.vm.findClass RX8 = some m.cls := findClass_of_methodNamed B.named
  have hlocks := B.notSynchronized
  subst hsz
  have l_f106 := hts _ (List.mem_cons_of_mem _ aF_X8_106)
  have h_X8 : ∀ w ∈ wsX80, w.before _ s = true := fun w hw => hts w (List.mem_cons_of_mem _ (hwX8 w hw))
  have hS : va_S (AC a 30 s.heap.size) s.heap s.heap [] := va_S.rf
  have hl := lv_entry ([.ref (a 0)]) (n := 1) (Nat.le_of_ble_eq_true rfl)
  rw [lg_entry_eq]
  generalize (lg_sl ([.ref (a 0)]) ++ List.replicate (1 - (lg_sl ([.ref (a 0)])).length) Slot.unset).toArray = ls at hl ⊢
  have hl : lv_has ls 1 [(0, .ref (a 0))] := hl
  unfold mX8_begin at hm
  refine lv_aload_n hx hb dX8_begin_0 rfl (lv_at hl 0 rfl) ?_
  refine lv_iconst (v := 0) hx hb dX8_begin_1 (by decide) ?_
  refine pfX8_thrown hx hb h_X8 hown hK hP hI AC_in hS l_f106 dX8_begin_2 (fun H locs hP hS => ?_)
  generalize es1 : su σ 0 (fun _ => 0) = s1 at hP
  have hm := bnd_x es1.symm hm
  refine lv_aload_n hx hb dX8_begin_5 rfl (lv_at hl 0 rfl) ?_
  obtain ⟨⟨r2, s4⟩, h3, hm⟩ := ok_bind hm
  refine calV_i (As := []) (rest := []) ⟨hx, hb, hml, hown, hts⟩ (kX8_clear l D y a t hI _ s1 s4 r2 h3) (cwV 0 hts (gAV aM_X8_208 aI_X8_clear aS_X8_clear aN_X8 aC_X8_clear) rfl rfl rfl eX8_clear ⟨Nat.le_of_ble_eq_true rfl, Nat.le_of_ble_eq_true rfl⟩) (preV_W (ci := 8) (q := (RX8, TX8, 42)) hK hP hF hS rfl (wM_0 y a s1)) rfl hl.1 rfl (Nat.le_of_ble_eq_true rfl) dX8_begin_6 ⟨Nat.zero_le _, Nat.zero_le _⟩ hS (AC_le hS.1) (fun H locs hP hS hk1 => ?_)
  exact W.iret (v := r2) hx hb hr (fun T hT hW => ⟨⟨r2, s4, rfl, ⟨congrArg Prod.fst (Option.some.inj hm), congrArg Prod.snd (Option.some.inj hm)⟩, by rw [posW, hT]; exact hP⟩, hS.F hT⟩) hS.2.2 dX8_begin_9
theorem eX8_add : yX8_add.cls = RX8 ∧ yX8_add.cls ≠ "java/lang/invoke/MethodHandle" ∧ yX8_add.cls ≠ "java/lang/invoke/VarHandle" ∧ (parseMethodDescriptor yX8_add.desc).map (fun d => d.parameters.length) = some 5 := by decide +kernel
def mX8_add (σ : St) (p1 : Int32) (p2 : Int32) (p3 : Int32) (p4 : Int32) (p5 : Int32) : Option (Int32 × St) :=
chkI (σ.1 6 0) 60 (
bnd (su σ 21 (upd (σ.1 21) (σ.1 6 0).toNatClampNeg p1)) fun s1 =>
chkI (s1.1 6 0) 60 (
bnd (su s1 22 (upd (s1.1 22) (s1.1 6 0).toNatClampNeg p2)) fun s2 =>
chkI (3 * (s2.1 6 0)) 180 (
bnd (su s2 23 (upd (s2.1 23) (3 * (s2.1 6 0)).toNatClampNeg p3)) fun s3 =>
chkI ((3 * (s3.1 6 0)) + 1) 180 (
bnd (su s3 23 (upd (s3.1 23) ((3 * (s3.1 6 0)) + 1).toNatClampNeg p4)) fun s4 =>
chkI ((3 * (s4.1 6 0)) + 2) 180 (
bnd (su s4 23 (upd (s4.1 23) ((3 * (s4.1 6 0)) + 2).toNatClampNeg p5)) fun s5 =>
chkI (s5.1 6 0) 60 (
bnd (su s5 24 (upd (s5.1 24) (s5.1 6 0).toNatClampNeg (s5.1 8 0))) fun s6 =>
chkI (s6.1 9 0) 120 (
bnd (su s6 28 (upd (s6.1 28) (s6.1 9 0).toNatClampNeg (s6.1 6 0))) fun s7 =>
bnd (su s7 9 (fun _ => (s7.1 9 0) + 1)) fun s8 =>
bnd (su s8 6 (fun _ => (s8.1 6 0) + 1)) fun s9 =>
some ((s9.1 6 0) - 1, s9))))))))
set_option maxHeartbeats 4000000 in
set_option maxRecDepth 100000 in
theorem kX8_add (l : Launch) (D : va_G) (y : Nat → ClassId) (a t : Nat → Nat) (hI : AI a 30) (sz : Nat) (σ τ : St) (p1 : Int32) (p2 : Int32) (p3 : Int32) (p4 : Int32) (p5 : Int32) (r : Int32) (hm : mX8_add σ p1 p2 p3 p4 p5 = some (r, τ)) : Met l yX8_add zX8_add { frames := 0, cells := 0, slots := 0, locals := 0 } (va_Pc [.ref (a 0), .int p1, .int p2, .int p3, .int p4, .int p5] (preW (wM y a) a 30 D y t σ sz)) (va_Qi (fun r' u => r' = r ∧ u = τ) (posW (wM y a) D) (AC a 30 sz)) 0 0 (AC a 30 sz) := by
  refine Met.ofW (cc := cX8_add) (maxL := 6) (ret := (some .int)) (by decide) rfl ?_
  intro p e s m args below meth c s₁ B hml hv
  obtain ⟨rfl, hsz, hP, hK, hF⟩ := hv
  have hx := B.exec
  have hb := B.bytes
  have hr := B.returns
  have hts := atoms_spec (ws := zX8_add) B.pre
  have hown : s.vm.findClass RX8 = some m.cls := findClass_of_methodNamed B.named
  have hlocks := B.notSynchronized
  subst hsz
  have l_f40 := hts _ (List.mem_cons_of_mem _ aF_X8_40)
  have l_f199 := hts _ (List.mem_cons_of_mem _ aF_X8_199)
  have l_f43 := hts _ (List.mem_cons_of_mem _ aF_X8_43)
  have l_f46 := hts _ (List.mem_cons_of_mem _ aF_X8_46)
  have l_f49 := hts _ (List.mem_cons_of_mem _ aF_X8_49)
  have l_f61 := hts _ (List.mem_cons_of_mem _ aF_X8_61)
  have l_f64 := hts _ (List.mem_cons_of_mem _ aF_X8_64)
  have l_f205 := hts _ (List.mem_cons_of_mem _ aF_X8_205)
  have h_X8 : ∀ w ∈ wsX80, w.before _ s = true := fun w hw => hts w (List.mem_cons_of_mem _ (hwX8 w hw))
  have hS : va_S (AC a 30 s.heap.size) s.heap s.heap [] := va_S.rf
  have hl := lv_entry ([.ref (a 0), .int p1, .int p2, .int p3, .int p4, .int p5]) (n := 6) (Nat.le_of_ble_eq_true rfl)
  rw [lg_entry_eq]
  generalize (lg_sl ([.ref (a 0), .int p1, .int p2, .int p3, .int p4, .int p5]) ++ List.replicate (6 - (lg_sl ([.ref (a 0), .int p1, .int p2, .int p3, .int p4, .int p5])).length) Slot.unset).toArray = ls at hl ⊢
  have hl : lv_has ls 6 [(0, .ref (a 0)), (1, .int p1), (2, .int p2), (3, .int p3), (4, .int p4), (5, .int p5)] := hl
  unfold mX8_add at hm
  refine lv_aload_n hx hb dX8_add_0 rfl (lv_at hl 0 rfl) ?_
  refine gfX8_shown hx hb h_X8 hown hK hP l_f40 dX8_add_1 ?_
  refine lv_aload_n hx hb dX8_add_4 rfl (lv_at hl 0 rfl) ?_
  refine gfX8_lines hx hb h_X8 hown hK hP l_f199 dX8_add_5 ?_
  refine lv_iload_n hx hb dX8_add_8 rfl (lv_at hl 1 rfl) ?_
  obtain ⟨hi, hm⟩ := ok_I hm
  refine stM_9 hx hb hK hP hI AC_in hS hi dX8_add_9 (fun H locs hP hS => ?_)
  generalize es1 : su σ 21 (upd (σ.1 21) (σ.1 6 0).toNatClampNeg p1) = s1 at hP
  have hm := bnd_x es1.symm hm
  refine lv_aload_n hx hb dX8_add_10 rfl (lv_at hl 0 rfl) ?_
  refine gfX8_rules hx hb h_X8 hown hK hP l_f43 dX8_add_11 ?_
  refine lv_aload_n hx hb dX8_add_14 rfl (lv_at hl 0 rfl) ?_
  refine gfX8_lines hx hb h_X8 hown hK hP l_f199 dX8_add_15 ?_
  refine lv_iload_n hx hb dX8_add_18 rfl (lv_at hl 2 rfl) ?_
  obtain ⟨hi, hm⟩ := ok_I hm
  refine stM_10 hx hb hK hP hI AC_in hS hi dX8_add_19 (fun H locs hP hS => ?_)
  generalize es2 : su s1 22 (upd (s1.1 22) (s1.1 6 0).toNatClampNeg p2) = s2 at hP
  have hm := bnd_x es2.symm hm
  refine lv_aload_n hx hb dX8_add_20 rfl (lv_at hl 0 rfl) ?_
  refine gfX8_references hx hb h_X8 hown hK hP l_f46 dX8_add_21 ?_
  refine lv_iconst (v := 3) hx hb dX8_add_24 (by decide) ?_
  refine lv_aload_n hx hb dX8_add_25 rfl (lv_at hl 0 rfl) ?_
  refine gfX8_lines hx hb h_X8 hown hK hP l_f199 dX8_add_26 ?_
  refine lv_imul hx hb dX8_add_29 ?_
  refine lv_iload_n hx hb dX8_add_30 rfl (lv_at hl 3 rfl) ?_
  obtain ⟨hi, hm⟩ := ok_I hm
  refine stM_11 hx hb hK hP hI AC_in hS hi dX8_add_31 (fun H locs hP hS => ?_)
  generalize es3 : su s2 23 (upd (s2.1 23) (3 * (s2.1 6 0)).toNatClampNeg p3) = s3 at hP
  have hm := bnd_x es3.symm hm
  refine lv_aload_n hx hb dX8_add_32 rfl (lv_at hl 0 rfl) ?_
  refine gfX8_references hx hb h_X8 hown hK hP l_f46 dX8_add_33 ?_
  refine lv_iconst (v := 3) hx hb dX8_add_36 (by decide) ?_
  refine lv_aload_n hx hb dX8_add_37 rfl (lv_at hl 0 rfl) ?_
  refine gfX8_lines hx hb h_X8 hown hK hP l_f199 dX8_add_38 ?_
  refine lv_imul hx hb dX8_add_41 ?_
  refine lv_iconst (v := 1) hx hb dX8_add_42 (by decide) ?_
  refine lv_iadd hx hb dX8_add_43 ?_
  refine lv_iload hx hb dX8_add_44 (lv_at hl 4 rfl) ?_
  obtain ⟨hi, hm⟩ := ok_I hm
  refine stM_11 hx hb hK hP hI AC_in hS hi dX8_add_46 (fun H locs hP hS => ?_)
  generalize es4 : su s3 23 (upd (s3.1 23) ((3 * (s3.1 6 0)) + 1).toNatClampNeg p4) = s4 at hP
  have hm := bnd_x es4.symm hm
  refine lv_aload_n hx hb dX8_add_47 rfl (lv_at hl 0 rfl) ?_
  refine gfX8_references hx hb h_X8 hown hK hP l_f46 dX8_add_48 ?_
  refine lv_iconst (v := 3) hx hb dX8_add_51 (by decide) ?_
  refine lv_aload_n hx hb dX8_add_52 rfl (lv_at hl 0 rfl) ?_
  refine gfX8_lines hx hb h_X8 hown hK hP l_f199 dX8_add_53 ?_
  refine lv_imul hx hb dX8_add_56 ?_
  refine lv_iconst (v := 2) hx hb dX8_add_57 (by decide) ?_
  refine lv_iadd hx hb dX8_add_58 ?_
  refine lv_iload hx hb dX8_add_59 (lv_at hl 5 rfl) ?_
  obtain ⟨hi, hm⟩ := ok_I hm
  refine stM_11 hx hb hK hP hI AC_in hS hi dX8_add_61 (fun H locs hP hS => ?_)
  generalize es5 : su s4 23 (upd (s4.1 23) ((3 * (s4.1 6 0)) + 2).toNatClampNeg p5) = s5 at hP
  have hm := bnd_x es5.symm hm
  refine lv_aload_n hx hb dX8_add_62 rfl (lv_at hl 0 rfl) ?_
  refine gfX8_boxOf hx hb h_X8 hown hK hP l_f49 dX8_add_63 ?_
  refine lv_aload_n hx hb dX8_add_66 rfl (lv_at hl 0 rfl) ?_
  refine gfX8_lines hx hb h_X8 hown hK hP l_f199 dX8_add_67 ?_
  refine lv_aload_n hx hb dX8_add_70 rfl (lv_at hl 0 rfl) ?_
  refine gfX8_inner hx hb h_X8 hown hK hP l_f61 dX8_add_71 ?_
  obtain ⟨hi, hm⟩ := ok_I hm
  refine stM_12 hx hb hK hP hI AC_in hS hi dX8_add_74 (fun H locs hP hS => ?_)
  generalize es6 : su s5 24 (upd (s5.1 24) (s5.1 6 0).toNatClampNeg (s5.1 8 0)) = s6 at hP
  have hm := bnd_x es6.symm hm
  refine lv_aload_n hx hb dX8_add_75 rfl (lv_at hl 0 rfl) ?_
  refine gfX8_deeds hx hb h_X8 hown hK hP l_f64 dX8_add_76 ?_
  refine lv_aload_n hx hb dX8_add_79 rfl (lv_at hl 0 rfl) ?_
  refine gfX8_done hx hb h_X8 hown hK hP l_f205 dX8_add_80 ?_
  refine lv_aload_n hx hb dX8_add_83 rfl (lv_at hl 0 rfl) ?_
  refine gfX8_lines hx hb h_X8 hown hK hP l_f199 dX8_add_84 ?_
  obtain ⟨hi, hm⟩ := ok_I hm
  refine stM_16 hx hb hK hP hI AC_in hS hi dX8_add_87 (fun H locs hP hS => ?_)
  generalize es7 : su s6 28 (upd (s6.1 28) (s6.1 9 0).toNatClampNeg (s6.1 6 0)) = s7 at hP
  have hm := bnd_x es7.symm hm
  refine lv_aload_n hx hb dX8_add_88 rfl (lv_at hl 0 rfl) ?_
  refine lv_dup hx hb dX8_add_89 rfl ?_
  refine gfX8_done hx hb h_X8 hown hK hP l_f205 dX8_add_90 ?_
  refine lv_iconst (v := 1) hx hb dX8_add_93 (by decide) ?_
  refine lv_iadd hx hb dX8_add_94 ?_
  refine pfX8_done hx hb h_X8 hown hK hP hI AC_in hS l_f205 dX8_add_95 (fun H locs hP hS => ?_)
  generalize es8 : su s7 9 (fun _ => (s7.1 9 0) + 1) = s8 at hP
  have hm := bnd_x es8.symm hm
  refine lv_aload_n hx hb dX8_add_98 rfl (lv_at hl 0 rfl) ?_
  refine lv_dup hx hb dX8_add_99 rfl ?_
  refine gfX8_lines hx hb h_X8 hown hK hP l_f199 dX8_add_100 ?_
  refine lv_iconst (v := 1) hx hb dX8_add_103 (by decide) ?_
  refine lv_iadd hx hb dX8_add_104 ?_
  refine pfX8_lines hx hb h_X8 hown hK hP hI AC_in hS l_f199 dX8_add_105 (fun H locs hP hS => ?_)
  generalize es9 : su s8 6 (fun _ => (s8.1 6 0) + 1) = s9 at hP
  have hm := bnd_x es9.symm hm
  refine lv_aload_n hx hb dX8_add_108 rfl (lv_at hl 0 rfl) ?_
  refine gfX8_lines hx hb h_X8 hown hK hP l_f199 dX8_add_109 ?_
  refine lv_iconst (v := 1) hx hb dX8_add_112 (by decide) ?_
  refine lv_isub hx hb dX8_add_113 ?_
  exact W.iret (v := (s9.1 6 0) - 1) hx hb hr (fun T hT hW => ⟨⟨(s9.1 6 0) - 1, s9, rfl, ⟨congrArg Prod.fst (Option.some.inj hm), congrArg Prod.snd (Option.some.inj hm)⟩, by rw [posW, hT]; exact hP⟩, hS.F hT⟩) hS.2.2 dX8_add_114
theorem eX8_premisesNow : yX8_premisesNow.cls = RX8 ∧ yX8_premisesNow.cls ≠ "java/lang/invoke/MethodHandle" ∧ yX8_premisesNow.cls ≠ "java/lang/invoke/VarHandle" ∧ (parseMethodDescriptor yX8_premisesNow.desc).map (fun d => d.parameters.length) = some 0 := by decide +kernel
def bX8_premisesNow_2 (kh2 : St → Int32 → Option Int32) (σ : St) (v1 : Int32) : Option Int32 :=
if (σ.1 6 0) ≤ v1 then (
some v1)
else (
chkI v1 60 (
if (σ.1 22 v1.toNatClampNeg) = 15 then (
bnd (v1 + 1) fun x4 =>
kh2 σ x4)
else (
some v1)))
abbrev mX8_premisesNow_2 (n : Nat) : St → Int32 → Option Int32 := fx (fun _ _ => none) (bX8_premisesNow_2) n
def mX8_premisesNow (σ : St) : Option Int32 :=
mX8_premisesNow_2 NF σ 0
set_option maxHeartbeats 4000000 in
set_option maxRecDepth 100000 in
theorem kX8_premisesNow (l : Launch) (D : va_G) (y : Nat → ClassId) (a t : Nat → Nat) (hI : AI a 30) (sz : Nat) (σ : St) (r : Int32) (hm : mX8_premisesNow σ = some r) : Met l yX8_premisesNow zX8_premisesNow { frames := 0, cells := 0, slots := 0, locals := 0 } (va_Pc [.ref (a 0)] (preW (wM y a) a 30 D y t σ sz)) (va_Qi (fun r' u => r' = r ∧ u = σ) (posW (wM y a) D) (AC a 30 sz)) 0 0 (AC a 30 sz) := by
  refine Met.ofW (cc := cX8_premisesNow) (maxL := 2) (ret := (some .int)) (by decide) rfl ?_
  intro p e s m args below meth c s₁ B hml hv
  obtain ⟨rfl, hsz, hP, hK, hF⟩ := hv
  have hx := B.exec
  have hb := B.bytes
  have hr := B.returns
  have hts := atoms_spec (ws := zX8_premisesNow) B.pre
  have hown : s.vm.findClass RX8 = some m.cls := findClass_of_methodNamed B.named
  have hlocks := B.notSynchronized
  subst hsz
  have l_f199 := hts _ (List.mem_cons_of_mem _ aF_X8_199)
  have l_f43 := hts _ (List.mem_cons_of_mem _ aF_X8_43)
  have h_X8 : ∀ w ∈ wsX80, w.before _ s = true := fun w hw => hts w (List.mem_cons_of_mem _ (hwX8 w hw))
  have hS : va_S (AC a 30 s.heap.size) s.heap s.heap [] := va_S.rf
  have hl := lv_entry ([.ref (a 0)]) (n := 2) (Nat.le_of_ble_eq_true rfl)
  rw [lg_entry_eq]
  generalize (lg_sl ([.ref (a 0)]) ++ List.replicate (2 - (lg_sl ([.ref (a 0)])).length) Slot.unset).toArray = ls at hl ⊢
  have hl : lv_has ls 2 [(0, .ref (a 0))] := hl
  have L_2 : ∀ (n : Nat) (v1 : Int32) (H : Heap) (locs : List Loc) (ls : Array Slot), va_P D vwCl (wM y a σ) H → va_S (AC a 30 s.heap.size) s.heap H locs → lv_has ls 2 [(0, .ref (a 0)), (1, .int v1)] → mX8_premisesNow_2 n σ v1 = some r → W p l e (headSpec zX8_premisesNow ({ frames := 0, cells := 0, slots := 0, locals := 0 })).room s m ([.ref (a 0)] : List Value).toArray below meth c H locs 0 0 (MQ below (va_Qi (fun r' u => r' = r ∧ u = σ) (posW (wM y a) D) (AC a 30 s.heap.size)) ([.ref (a 0)] : List Value).toArray s 0 0 (AC a 30 s.heap.size)) (F0 m 2 ls []) := by
    intro n
    induction n with
    | zero =>
      intro v1 H locs ls hP hS hl hm
      exact absurd (show (none : Option Int32) = some r from hm) (by intro h; cases h)
    | succ n ih2 =>
      obtain ⟨kh2, ekh2⟩ : ∃ z, z = mX8_premisesNow_2 n := ⟨_, rfl⟩
      have ih2 : ∀ (v1 : Int32) (H : Heap) (locs : List Loc) (ls : Array Slot), va_P D vwCl (wM y a σ) H → va_S (AC a 30 s.heap.size) s.heap H locs → lv_has ls 2 [(0, .ref (a 0)), (1, .int v1)] → kh2 σ v1 = some r → W p l e (headSpec zX8_premisesNow ({ frames := 0, cells := 0, slots := 0, locals := 0 })).room s m ([.ref (a 0)] : List Value).toArray below meth c H locs 0 0 (MQ below (va_Qi (fun r' u => r' = r ∧ u = σ) (posW (wM y a) D) (AC a 30 s.heap.size)) ([.ref (a 0)] : List Value).toArray s 0 0 (AC a 30 s.heap.size)) (F0 m 2 ls []) := by rw [ekh2]; exact ih2
      intro v1 H locs ls hP hS hl hm
      have hm : bX8_premisesNow_2 (mX8_premisesNow_2 n) σ v1 = some r := hm
      rw [← ekh2] at hm
      unfold bX8_premisesNow_2 at hm
      refine lv_iload_n hx hb dX8_premisesNow_2 rfl (lv_at hl 1 rfl) ?_
      refine lv_aload_n hx hb dX8_premisesNow_3 rfl (lv_at hl 0 rfl) ?_
      refine gfX8_lines hx hb h_X8 hown hK hP l_f199 dX8_premisesNow_4 ?_
      refine lv_icmp_ge (tgt := 27) hx hb dX8_premisesNow_7 (by decide) (fun c2 => ?_) (fun c2 => ?_)
      · have hm := (if_pos c2).symm.trans hm
        refine lv_iload_n hx hb dX8_premisesNow_27 rfl (lv_at hl 1 rfl) ?_
        exact W.iret (v := v1) hx hb hr (fun T hT hW => ⟨⟨v1, σ, rfl, ⟨Option.some.inj hm, rfl⟩, by rw [posW, hT]; exact hP⟩, hS.F hT⟩) hS.2.2 dX8_premisesNow_28
      · have hm := (if_neg c2).symm.trans hm
        refine lv_aload_n hx hb dX8_premisesNow_10 rfl (lv_at hl 0 rfl) ?_
        refine gfX8_rules hx hb h_X8 hown hK hP l_f43 dX8_premisesNow_11 ?_
        refine lv_iload_n hx hb dX8_premisesNow_14 rfl (lv_at hl 1 rfl) ?_
        obtain ⟨hi, hm⟩ := ok_I hm
        refine ldM_10 hx hb hK hP hi dX8_premisesNow_15 ?_
        refine lv_bipush (v := 15) hx hb dX8_premisesNow_16 (by decide) ?_
        refine lv_icmp_ne (tgt := 27) hx hb dX8_premisesNow_18 (by decide) (fun c3 => ?_) (fun c3 => ?_)
        · have hm := (if_neg c3).symm.trans hm
          refine lv_iload_n hx hb dX8_premisesNow_27 rfl (lv_at hl 1 rfl) ?_
          exact W.iret (v := v1) hx hb hr (fun T hT hW => ⟨⟨v1, σ, rfl, ⟨Option.some.inj hm, rfl⟩, by rw [posW, hT]; exact hP⟩, hS.F hT⟩) hS.2.2 dX8_premisesNow_28
        · have hm := (if_pos c3).symm.trans hm
          obtain ⟨x4, ex4⟩ : ∃ z : Int32, z = v1 + 1 := ⟨_, rfl⟩
          have hm := bnd_x ex4 hm
          refine lv_iinc (v := x4) (lv' := [(1, .int x4), (0, .ref (a 0))]) hx hb dX8_premisesNow_21 hl (k := 1) rfl (by rw [ex4]; rfl) (by decide) rfl (fun ls hl => ?_)
          refine lv_goto (tgt := 2) hx hb dX8_premisesNow_24 (by decide) ?_
          exact ih2 x4 _ _ _ hP hS (lv_sub hl [1, 0] rfl) hm
  unfold mX8_premisesNow at hm
  refine lv_iconst (v := 0) hx hb dX8_premisesNow_0 (by decide) ?_
  refine lv_istore_n (lv' := [(1, .int 0), (0, .ref (a 0))]) hx hb dX8_premisesNow_1 rfl hl (by decide) rfl (fun ls hl => ?_)
  exact L_2 NF 0 _ _ _ hP hS (lv_sub hl [1, 0] rfl) hm
theorem eX8_premise : yX8_premise.cls = RX8 ∧ yX8_premise.cls ≠ "java/lang/invoke/MethodHandle" ∧ yX8_premise.cls ≠ "java/lang/invoke/VarHandle" ∧ (parseMethodDescriptor yX8_premise.desc).map (fun d => d.parameters.length) = some 1 := by decide +kernel
def mX8_premise_38 (s1 : St) : Option (Int32 × St) :=
(mX8_no s1 2).bind fun ⟨r2, s4⟩ =>
some (r2, s4)
def mX8_premise (σ : St) (p1 : Int32) : Option (Int32 × St) :=
bnd (su σ 0 (fun _ => 0)) fun s5 =>
(mX8_isFormula s5 p1).bind fun r6 =>
if r6 = 0 then (
(mX8_no s5 1).bind fun ⟨r16, s18⟩ =>
some (r16, s18))
else (
(mX8_premisesNow s5).bind fun r9 =>
if r9 < (s5.1 6 0) then (
mX8_premise_38 s5)
else (
if (s5.1 6 0) = 2 then (
mX8_premise_38 s5)
else (
(mX8_add s5 p1 15 0 0 0).bind fun ⟨r13, s15⟩ =>
some (r13, s15))))
set_option maxHeartbeats 4000000 in
set_option maxRecDepth 100000 in
theorem kX8_premise (l : Launch) (D : va_G) (y : Nat → ClassId) (a t : Nat → Nat) (hI : AI a 30) (sz : Nat) (σ τ : St) (p1 : Int32) (r : Int32) (hm : mX8_premise σ p1 = some (r, τ)) : Met l yX8_premise zX8_premise { frames := 2, cells := 0, slots := 0, locals := 43 } (va_Pc [.ref (a 0), .int p1] (preW (wM y a) a 30 D y t σ sz)) (va_Qi (fun r' u => r' = r ∧ u = τ) (posW (wM y a) D) (AC a 30 sz)) 0 0 (AC a 30 sz) := by
  refine Met.ofW (cc := cX8_premise) (maxL := 2) (ret := (some .int)) (by decide) rfl ?_
  intro p e s m args below meth c s₁ B hml hv
  obtain ⟨rfl, hsz, hP, hK, hF⟩ := hv
  have hx := B.exec
  have hb := B.bytes
  have hr := B.returns
  have hts := atoms_spec (ws := zX8_premise) B.pre
  have hown : s.vm.findClass RX8 = some m.cls := findClass_of_methodNamed B.named
  have hlocks := B.notSynchronized
  subst hsz
  have l_f106 := hts _ (List.mem_cons_of_mem _ aF_X8_106)
  have l_f199 := hts _ (List.mem_cons_of_mem _ aF_X8_199)
  have h_X8 : ∀ w ∈ wsX80, w.before _ s = true := fun w hw => hts w (List.mem_cons_of_mem _ (hwX8 w hw))
  have hS : va_S (AC a 30 s.heap.size) s.heap s.heap [] := va_S.rf
  have hl := lv_entry ([.ref (a 0), .int p1]) (n := 2) (Nat.le_of_ble_eq_true rfl)
  rw [lg_entry_eq]
  generalize (lg_sl ([.ref (a 0), .int p1]) ++ List.replicate (2 - (lg_sl ([.ref (a 0), .int p1])).length) Slot.unset).toArray = ls at hl ⊢
  have hl : lv_has ls 2 [(0, .ref (a 0)), (1, .int p1)] := hl
  have L_38 : ∀ (s1 : St) (H : Heap) (locs : List Loc) (ls : Array Slot), va_P D vwCl (wM y a s1) H → va_S (AC a 30 s.heap.size) s.heap H locs → lv_has ls 2 [(0, .ref (a 0))] → mX8_premise_38 s1 = some (r, τ) → W p l e (headSpec zX8_premise ({ frames := 2, cells := 0, slots := 0, locals := 43 })).room s m ([.ref (a 0), .int p1] : List Value).toArray below meth c H locs 0 0 (MQ below (va_Qi (fun r' u => r' = r ∧ u = τ) (posW (wM y a) D) (AC a 30 s.heap.size)) ([.ref (a 0), .int p1] : List Value).toArray s 0 0 (AC a 30 s.heap.size)) (F0 m 38 ls []) := by
    intro s1 H locs ls hP hS hl hm
    unfold mX8_premise_38 at hm
    refine lv_aload_n hx hb dX8_premise_38 rfl (lv_at hl 0 rfl) ?_
    refine lv_iconst (v := 2) hx hb dX8_premise_39 (by decide) ?_
    obtain ⟨⟨r2, s4⟩, h3, hm⟩ := ok_bind hm
    refine calV_i (As := [.int 2]) (rest := []) ⟨hx, hb, hml, hown, hts⟩ (kX8_no l D y a t hI _ s1 s4 2 r2 h3) (cwV 1 hts (gAV aM_X8_119 aI_X8_no aS_X8_no aN_X8 aC_X8_no) rfl rfl rfl eX8_no ⟨Nat.le_of_ble_eq_true rfl, Nat.le_of_ble_eq_true rfl⟩) (preV_W (ci := 8) (q := (RX8, TX8, 42)) hK hP hF hS rfl (wM_0 y a s1)) rfl hl.1 rfl (Nat.le_of_ble_eq_true rfl) dX8_premise_40 ⟨Nat.zero_le _, Nat.zero_le _⟩ hS (AC_le hS.1) (fun H locs hP hS hk1 => ?_)
    exact W.iret (v := r2) hx hb hr (fun T hT hW => ⟨⟨r2, s4, rfl, ⟨congrArg Prod.fst (Option.some.inj hm), congrArg Prod.snd (Option.some.inj hm)⟩, by rw [posW, hT]; exact hP⟩, hS.F hT⟩) hS.2.2 dX8_premise_43
  unfold mX8_premise at hm
  refine lv_aload_n hx hb dX8_premise_0 rfl (lv_at hl 0 rfl) ?_
  refine lv_iconst (v := 0) hx hb dX8_premise_1 (by decide) ?_
  refine pfX8_thrown hx hb h_X8 hown hK hP hI AC_in hS l_f106 dX8_premise_2 (fun H locs hP hS => ?_)
  generalize es5 : su σ 0 (fun _ => 0) = s5 at hP
  have hm := bnd_x es5.symm hm
  refine lv_aload_n hx hb dX8_premise_5 rfl (lv_at hl 0 rfl) ?_
  refine lv_iload_n hx hb dX8_premise_6 rfl (lv_at hl 1 rfl) ?_
  obtain ⟨r6, h7, hm⟩ := ok_bind hm
  refine calV_i (As := [.int p1]) (rest := []) ⟨hx, hb, hml, hown, hts⟩ (kX8_isFormula l D y a t hI _ s5 p1 r6 h7) (cwV 1 hts (gAV aM_X8_171 aI_X8_isFormula aS_X8_isFormula aN_X8 aC_X8_isFormula) rfl rfl rfl eX8_isFormula ⟨Nat.le_of_ble_eq_true rfl, Nat.le_of_ble_eq_true rfl⟩) (preV_W (ci := 8) (q := (RX8, TX8, 42)) hK hP hF hS rfl (wM_0 y a s5)) rfl hl.1 rfl (Nat.le_of_ble_eq_true rfl) dX8_premise_7 ⟨Nat.zero_le _, Nat.zero_le _⟩ hS (AC_le hS.1) (fun H locs hP hS hk1 => ?_)
  refine lv_if_ne (tgt := 19) hx hb dX8_premise_10 (by decide) (fun c8 => ?_) (fun c8 => ?_)
  · have hm := (if_neg c8).symm.trans hm
    refine lv_aload_n hx hb dX8_premise_19 rfl (lv_at hl 0 rfl) ?_
    obtain ⟨r9, h10, hm⟩ := ok_bind hm
    refine calV_i (As := []) (rest := []) ⟨hx, hb, hml, hown, hts⟩ (kX8_premisesNow l D y a t hI _ s5 r9 h10) (cwV 0 hts (gAV aM_X8_211 aI_X8_premisesNow aS_X8_premisesNow aN_X8 aC_X8_premisesNow) rfl rfl rfl eX8_premisesNow ⟨Nat.le_of_ble_eq_true rfl, Nat.le_of_ble_eq_true rfl⟩) (preV_W (ci := 8) (q := (RX8, TX8, 42)) hK hP hF hS rfl (wM_0 y a s5)) rfl hl.1 rfl (Nat.le_of_ble_eq_true rfl) dX8_premise_20 ⟨Nat.zero_le _, Nat.zero_le _⟩ hS (AC_le hS.1) (fun H locs hP hS hk1 => ?_)
    refine lv_aload_n hx hb dX8_premise_23 rfl (lv_at hl 0 rfl) ?_
    refine gfX8_lines hx hb h_X8 hown hK hP l_f199 dX8_premise_24 ?_
    refine lv_icmp_lt (tgt := 38) hx hb dX8_premise_27 (by decide) (fun c11 => ?_) (fun c11 => ?_)
    · have hm := (if_pos c11).symm.trans hm
      exact L_38 s5 _ _ _ hP hS (lv_sub hl [0] rfl) hm
    · have hm := (if_neg c11).symm.trans hm
      refine lv_aload_n hx hb dX8_premise_30 rfl (lv_at hl 0 rfl) ?_
      refine gfX8_lines hx hb h_X8 hown hK hP l_f199 dX8_premise_31 ?_
      refine lv_iconst (v := 2) hx hb dX8_premise_34 (by decide) ?_
      refine lv_icmp_ne (tgt := 44) hx hb dX8_premise_35 (by decide) (fun c12 => ?_) (fun c12 => ?_)
      · have hm := (if_neg c12).symm.trans hm
        refine lv_aload_n hx hb dX8_premise_44 rfl (lv_at hl 0 rfl) ?_
        refine lv_iload_n hx hb dX8_premise_45 rfl (lv_at hl 1 rfl) ?_
        refine lv_bipush (v := 15) hx hb dX8_premise_46 (by decide) ?_
        refine lv_iconst (v := 0) hx hb dX8_premise_48 (by decide) ?_
        refine lv_iconst (v := 0) hx hb dX8_premise_49 (by decide) ?_
        refine lv_iconst (v := 0) hx hb dX8_premise_50 (by decide) ?_
        obtain ⟨⟨r13, s15⟩, h14, hm⟩ := ok_bind hm
        refine calV_i (As := [.int p1, .int 15, .int 0, .int 0, .int 0]) (rest := []) ⟨hx, hb, hml, hown, hts⟩ (kX8_add l D y a t hI _ s5 s15 p1 15 0 0 0 r13 h14) (cwV 5 hts (gAV aM_X8_214 aI_X8_add aS_X8_add aN_X8 aC_X8_add) rfl rfl rfl eX8_add ⟨Nat.le_of_ble_eq_true rfl, Nat.le_of_ble_eq_true rfl⟩) (preV_W (ci := 8) (q := (RX8, TX8, 42)) hK hP hF hS rfl (wM_0 y a s5)) rfl hl.1 rfl (Nat.le_of_ble_eq_true rfl) dX8_premise_51 ⟨Nat.zero_le _, Nat.zero_le _⟩ hS (AC_le hS.1) (fun H locs hP hS hk1 => ?_)
        exact W.iret (v := r13) hx hb hr (fun T hT hW => ⟨⟨r13, s15, rfl, ⟨congrArg Prod.fst (Option.some.inj hm), congrArg Prod.snd (Option.some.inj hm)⟩, by rw [posW, hT]; exact hP⟩, hS.F hT⟩) hS.2.2 dX8_premise_54
      · have hm := (if_pos c12).symm.trans hm
        exact L_38 s5 _ _ _ hP hS (lv_sub hl [0] rfl) hm
  · have hm := (if_pos c8).symm.trans hm
    refine lv_aload_n hx hb dX8_premise_13 rfl (lv_at hl 0 rfl) ?_
    refine lv_iconst (v := 1) hx hb dX8_premise_14 (by decide) ?_
    obtain ⟨⟨r16, s18⟩, h17, hm⟩ := ok_bind hm
    refine calV_i (As := [.int 1]) (rest := []) ⟨hx, hb, hml, hown, hts⟩ (kX8_no l D y a t hI _ s5 s18 1 r16 h17) (cwV 1 hts (gAV aM_X8_119 aI_X8_no aS_X8_no aN_X8 aC_X8_no) rfl rfl rfl eX8_no ⟨Nat.le_of_ble_eq_true rfl, Nat.le_of_ble_eq_true rfl⟩) (preV_W (ci := 8) (q := (RX8, TX8, 42)) hK hP hF hS rfl (wM_0 y a s5)) rfl hl.1 rfl (Nat.le_of_ble_eq_true rfl) dX8_premise_15 ⟨Nat.zero_le _, Nat.zero_le _⟩ hS (AC_le hS.1) (fun H locs hP hS hk1 => ?_)
    exact W.iret (v := r16) hx hb hr (fun T hT hW => ⟨⟨r16, s18, rfl, ⟨congrArg Prod.fst (Option.some.inj hm), congrArg Prod.snd (Option.some.inj hm)⟩, by rw [posW, hT]; exact hP⟩, hS.F hT⟩) hS.2.2 dX8_premise_18
theorem eX8_open : yX8_open.cls = RX8 ∧ yX8_open.cls ≠ "java/lang/invoke/MethodHandle" ∧ yX8_open.cls ≠ "java/lang/invoke/VarHandle" ∧ (parseMethodDescriptor yX8_open.desc).map (fun d => d.parameters.length) = some 0 := by decide +kernel
def bX8_open_7 (kh7 : St → Int32 → Int32 → Option Int32) (σ : St) (v1 : Int32) (v2 : Int32) : Option Int32 :=
if v2 = (-1) then (
some v1)
else (
bnd (v1 + 1) fun x4 =>
chkI v2 60 (
bnd (σ.1 27 v2.toNatClampNeg) fun x5 =>
kh7 σ x4 x5))
abbrev mX8_open_7 (n : Nat) : St → Int32 → Int32 → Option Int32 := fx (fun _ _ _ => none) (bX8_open_7) n
def mX8_open (σ : St) : Option Int32 :=
bnd (σ.1 8 0) fun x6 =>
mX8_open_7 NF σ 0 x6
set_option maxHeartbeats 4000000 in
set_option maxRecDepth 100000 in
theorem kX8_open (l : Launch) (D : va_G) (y : Nat → ClassId) (a t : Nat → Nat) (hI : AI a 30) (sz : Nat) (σ : St) (r : Int32) (hm : mX8_open σ = some r) : Met l yX8_open zX8_open { frames := 0, cells := 0, slots := 0, locals := 0 } (va_Pc [.ref (a 0)] (preW (wM y a) a 30 D y t σ sz)) (va_Qi (fun r' u => r' = r ∧ u = σ) (posW (wM y a) D) (AC a 30 sz)) 0 0 (AC a 30 sz) := by
  refine Met.ofW (cc := cX8_open) (maxL := 3) (ret := (some .int)) (by decide) rfl ?_
  intro p e s m args below meth c s₁ B hml hv
  obtain ⟨rfl, hsz, hP, hK, hF⟩ := hv
  have hx := B.exec
  have hb := B.bytes
  have hr := B.returns
  have hts := atoms_spec (ws := zX8_open) B.pre
  have hown : s.vm.findClass RX8 = some m.cls := findClass_of_methodNamed B.named
  have hlocks := B.notSynchronized
  subst hsz
  have l_f61 := hts _ (List.mem_cons_of_mem _ aF_X8_61)
  have l_f58 := hts _ (List.mem_cons_of_mem _ aF_X8_58)
  have h_X8 : ∀ w ∈ wsX80, w.before _ s = true := fun w hw => hts w (List.mem_cons_of_mem _ (hwX8 w hw))
  have hS : va_S (AC a 30 s.heap.size) s.heap s.heap [] := va_S.rf
  have hl := lv_entry ([.ref (a 0)]) (n := 3) (Nat.le_of_ble_eq_true rfl)
  rw [lg_entry_eq]
  generalize (lg_sl ([.ref (a 0)]) ++ List.replicate (3 - (lg_sl ([.ref (a 0)])).length) Slot.unset).toArray = ls at hl ⊢
  have hl : lv_has ls 3 [(0, .ref (a 0))] := hl
  have L_7 : ∀ (n : Nat) (v1 : Int32) (v2 : Int32) (H : Heap) (locs : List Loc) (ls : Array Slot), va_P D vwCl (wM y a σ) H → va_S (AC a 30 s.heap.size) s.heap H locs → lv_has ls 3 [(0, .ref (a 0)), (1, .int v1), (2, .int v2)] → mX8_open_7 n σ v1 v2 = some r → W p l e (headSpec zX8_open ({ frames := 0, cells := 0, slots := 0, locals := 0 })).room s m ([.ref (a 0)] : List Value).toArray below meth c H locs 0 0 (MQ below (va_Qi (fun r' u => r' = r ∧ u = σ) (posW (wM y a) D) (AC a 30 s.heap.size)) ([.ref (a 0)] : List Value).toArray s 0 0 (AC a 30 s.heap.size)) (F0 m 7 ls []) := by
    intro n
    induction n with
    | zero =>
      intro v1 v2 H locs ls hP hS hl hm
      exact absurd (show (none : Option Int32) = some r from hm) (by intro h; cases h)
    | succ n ih7 =>
      obtain ⟨kh7, ekh7⟩ : ∃ z, z = mX8_open_7 n := ⟨_, rfl⟩
      have ih7 : ∀ (v1 : Int32) (v2 : Int32) (H : Heap) (locs : List Loc) (ls : Array Slot), va_P D vwCl (wM y a σ) H → va_S (AC a 30 s.heap.size) s.heap H locs → lv_has ls 3 [(0, .ref (a 0)), (1, .int v1), (2, .int v2)] → kh7 σ v1 v2 = some r → W p l e (headSpec zX8_open ({ frames := 0, cells := 0, slots := 0, locals := 0 })).room s m ([.ref (a 0)] : List Value).toArray below meth c H locs 0 0 (MQ below (va_Qi (fun r' u => r' = r ∧ u = σ) (posW (wM y a) D) (AC a 30 s.heap.size)) ([.ref (a 0)] : List Value).toArray s 0 0 (AC a 30 s.heap.size)) (F0 m 7 ls []) := by rw [ekh7]; exact ih7
      intro v1 v2 H locs ls hP hS hl hm
      have hm : bX8_open_7 (mX8_open_7 n) σ v1 v2 = some r := hm
      rw [← ekh7] at hm
      unfold bX8_open_7 at hm
      refine lv_iload_n hx hb dX8_open_7 rfl (lv_at hl 2 rfl) ?_
      refine lv_iconst (v := (-1)) hx hb dX8_open_8 (by decide) ?_
      refine lv_icmp_eq (tgt := 25) hx hb dX8_open_9 (by decide) (fun c3 => ?_) (fun c3 => ?_)
      · have hm := (if_pos c3).symm.trans hm
        refine lv_iload_n hx hb dX8_open_25 rfl (lv_at hl 1 rfl) ?_
        exact W.iret (v := v1) hx hb hr (fun T hT hW => ⟨⟨v1, σ, rfl, ⟨Option.some.inj hm, rfl⟩, by rw [posW, hT]; exact hP⟩, hS.F hT⟩) hS.2.2 dX8_open_26
      · have hm := (if_neg c3).symm.trans hm
        obtain ⟨x4, ex4⟩ : ∃ z : Int32, z = v1 + 1 := ⟨_, rfl⟩
        have hm := bnd_x ex4 hm
        refine lv_iinc (v := x4) (lv' := [(1, .int x4), (0, .ref (a 0)), (2, .int v2)]) hx hb dX8_open_12 hl (k := 1) rfl (by rw [ex4]; rfl) (by decide) rfl (fun ls hl => ?_)
        refine lv_aload_n hx hb dX8_open_15 rfl (lv_at hl 1 rfl) ?_
        refine gfX8_outer hx hb h_X8 hown hK hP l_f58 dX8_open_16 ?_
        refine lv_iload_n hx hb dX8_open_19 rfl (lv_at hl 2 rfl) ?_
        obtain ⟨hi, hm⟩ := ok_I hm
        refine ldM_15 hx hb hK hP hi dX8_open_20 ?_
        refine lv_topi (fun x5 ex5 => ?_)
        have hm := bnd_x ex5 hm
        refine lv_istore_n (lv' := [(2, .int x5), (1, .int x4), (0, .ref (a 0))]) hx hb dX8_open_21 rfl hl (by decide) rfl (fun ls hl => ?_)
        refine lv_goto (tgt := 7) hx hb dX8_open_22 (by decide) ?_
        exact ih7 x4 x5 _ _ _ hP hS (lv_sub hl [2, 1, 0] rfl) hm
  unfold mX8_open at hm
  refine lv_iconst (v := 0) hx hb dX8_open_0 (by decide) ?_
  refine lv_istore_n (lv' := [(1, .int 0), (0, .ref (a 0))]) hx hb dX8_open_1 rfl hl (by decide) rfl (fun ls hl => ?_)
  refine lv_aload_n hx hb dX8_open_2 rfl (lv_at hl 1 rfl) ?_
  refine gfX8_inner hx hb h_X8 hown hK hP l_f61 dX8_open_3 ?_
  refine lv_topi (fun x6 ex6 => ?_)
  have hm := bnd_x ex6 hm
  refine lv_istore_n (lv' := [(2, .int x6), (1, .int 0), (0, .ref (a 0))]) hx hb dX8_open_6 rfl hl (by decide) rfl (fun ls hl => ?_)
  exact L_7 NF 0 x6 _ _ _ hP hS (lv_sub hl [2, 1, 0] rfl) hm
theorem eX8_assume : yX8_assume.cls = RX8 ∧ yX8_assume.cls ≠ "java/lang/invoke/MethodHandle" ∧ yX8_assume.cls ≠ "java/lang/invoke/VarHandle" ∧ (parseMethodDescriptor yX8_assume.desc).map (fun d => d.parameters.length) = some 1 := by decide +kernel
def mX8_assume_37 (s1 : St) : Option (Int32 × St) :=
(mX8_no s1 2).bind fun ⟨r2, s4⟩ =>
some (r2, s4)
def mX8_assume (σ : St) (p1 : Int32) : Option (Int32 × St) :=
bnd (su σ 0 (fun _ => 0)) fun s5 =>
(mX8_isFormula s5 p1).bind fun r6 =>
if r6 = 0 then (
(mX8_no s5 1).bind fun ⟨r21, s23⟩ =>
some (r21, s23))
else (
(mX8_open s5).bind fun r9 =>
if r9 = 6 then (
mX8_assume_37 s5)
else (
if (s5.1 6 0) = 60 then (
mX8_assume_37 s5)
else (
chkI (s5.1 7 0) 60 (
bnd (su s5 27 (upd (s5.1 27) (s5.1 7 0).toNatClampNeg (s5.1 8 0))) fun s13 =>
chkI (s13.1 7 0) 60 (
bnd (su s13 25 (upd (s13.1 25) (s13.1 7 0).toNatClampNeg (s13.1 6 0))) fun s14 =>
chkI (s14.1 7 0) 60 (
bnd (su s14 26 (upd (s14.1 26) (s14.1 7 0).toNatClampNeg (-1))) fun s15 =>
bnd (su s15 8 (fun _ => s15.1 7 0)) fun s16 =>
bnd (su s16 7 (fun _ => (s16.1 7 0) + 1)) fun s17 =>
(mX8_add s17 p1 14 0 0 0).bind fun ⟨r18, s20⟩ =>
some (r18, s20)))))))
set_option maxHeartbeats 4000000 in
set_option maxRecDepth 100000 in
theorem kX8_assume (l : Launch) (D : va_G) (y : Nat → ClassId) (a t : Nat → Nat) (hI : AI a 30) (sz : Nat) (σ τ : St) (p1 : Int32) (r : Int32) (hm : mX8_assume σ p1 = some (r, τ)) : Met l yX8_assume zX8_assume { frames := 2, cells := 0, slots := 0, locals := 43 } (va_Pc [.ref (a 0), .int p1] (preW (wM y a) a 30 D y t σ sz)) (va_Qi (fun r' u => r' = r ∧ u = τ) (posW (wM y a) D) (AC a 30 sz)) 0 0 (AC a 30 sz) := by
  refine Met.ofW (cc := cX8_assume) (maxL := 2) (ret := (some .int)) (by decide) rfl ?_
  intro p e s m args below meth c s₁ B hml hv
  obtain ⟨rfl, hsz, hP, hK, hF⟩ := hv
  have hx := B.exec
  have hb := B.bytes
  have hr := B.returns
  have hts := atoms_spec (ws := zX8_assume) B.pre
  have hown : s.vm.findClass RX8 = some m.cls := findClass_of_methodNamed B.named
  have hlocks := B.notSynchronized
  subst hsz
  have l_f106 := hts _ (List.mem_cons_of_mem _ aF_X8_106)
  have l_f199 := hts _ (List.mem_cons_of_mem _ aF_X8_199)
  have l_f58 := hts _ (List.mem_cons_of_mem _ aF_X8_58)
  have l_f202 := hts _ (List.mem_cons_of_mem _ aF_X8_202)
  have l_f61 := hts _ (List.mem_cons_of_mem _ aF_X8_61)
  have l_f52 := hts _ (List.mem_cons_of_mem _ aF_X8_52)
  have l_f55 := hts _ (List.mem_cons_of_mem _ aF_X8_55)
  have h_X8 : ∀ w ∈ wsX80, w.before _ s = true := fun w hw => hts w (List.mem_cons_of_mem _ (hwX8 w hw))
  have hS : va_S (AC a 30 s.heap.size) s.heap s.heap [] := va_S.rf
  have hl := lv_entry ([.ref (a 0), .int p1]) (n := 2) (Nat.le_of_ble_eq_true rfl)
  rw [lg_entry_eq]
  generalize (lg_sl ([.ref (a 0), .int p1]) ++ List.replicate (2 - (lg_sl ([.ref (a 0), .int p1])).length) Slot.unset).toArray = ls at hl ⊢
  have hl : lv_has ls 2 [(0, .ref (a 0)), (1, .int p1)] := hl
  have L_37 : ∀ (s1 : St) (H : Heap) (locs : List Loc) (ls : Array Slot), va_P D vwCl (wM y a s1) H → va_S (AC a 30 s.heap.size) s.heap H locs → lv_has ls 2 [(0, .ref (a 0))] → mX8_assume_37 s1 = some (r, τ) → W p l e (headSpec zX8_assume ({ frames := 2, cells := 0, slots := 0, locals := 43 })).room s m ([.ref (a 0), .int p1] : List Value).toArray below meth c H locs 0 0 (MQ below (va_Qi (fun r' u => r' = r ∧ u = τ) (posW (wM y a) D) (AC a 30 s.heap.size)) ([.ref (a 0), .int p1] : List Value).toArray s 0 0 (AC a 30 s.heap.size)) (F0 m 37 ls []) := by
    intro s1 H locs ls hP hS hl hm
    unfold mX8_assume_37 at hm
    refine lv_aload_n hx hb dX8_assume_37 rfl (lv_at hl 0 rfl) ?_
    refine lv_iconst (v := 2) hx hb dX8_assume_38 (by decide) ?_
    obtain ⟨⟨r2, s4⟩, h3, hm⟩ := ok_bind hm
    refine calV_i (As := [.int 2]) (rest := []) ⟨hx, hb, hml, hown, hts⟩ (kX8_no l D y a t hI _ s1 s4 2 r2 h3) (cwV 1 hts (gAV aM_X8_119 aI_X8_no aS_X8_no aN_X8 aC_X8_no) rfl rfl rfl eX8_no ⟨Nat.le_of_ble_eq_true rfl, Nat.le_of_ble_eq_true rfl⟩) (preV_W (ci := 8) (q := (RX8, TX8, 42)) hK hP hF hS rfl (wM_0 y a s1)) rfl hl.1 rfl (Nat.le_of_ble_eq_true rfl) dX8_assume_39 ⟨Nat.zero_le _, Nat.zero_le _⟩ hS (AC_le hS.1) (fun H locs hP hS hk1 => ?_)
    exact W.iret (v := r2) hx hb hr (fun T hT hW => ⟨⟨r2, s4, rfl, ⟨congrArg Prod.fst (Option.some.inj hm), congrArg Prod.snd (Option.some.inj hm)⟩, by rw [posW, hT]; exact hP⟩, hS.F hT⟩) hS.2.2 dX8_assume_42
  unfold mX8_assume at hm
  refine lv_aload_n hx hb dX8_assume_0 rfl (lv_at hl 0 rfl) ?_
  refine lv_iconst (v := 0) hx hb dX8_assume_1 (by decide) ?_
  refine pfX8_thrown hx hb h_X8 hown hK hP hI AC_in hS l_f106 dX8_assume_2 (fun H locs hP hS => ?_)
  generalize es5 : su σ 0 (fun _ => 0) = s5 at hP
  have hm := bnd_x es5.symm hm
  refine lv_aload_n hx hb dX8_assume_5 rfl (lv_at hl 0 rfl) ?_
  refine lv_iload_n hx hb dX8_assume_6 rfl (lv_at hl 1 rfl) ?_
  obtain ⟨r6, h7, hm⟩ := ok_bind hm
  refine calV_i (As := [.int p1]) (rest := []) ⟨hx, hb, hml, hown, hts⟩ (kX8_isFormula l D y a t hI _ s5 p1 r6 h7) (cwV 1 hts (gAV aM_X8_171 aI_X8_isFormula aS_X8_isFormula aN_X8 aC_X8_isFormula) rfl rfl rfl eX8_isFormula ⟨Nat.le_of_ble_eq_true rfl, Nat.le_of_ble_eq_true rfl⟩) (preV_W (ci := 8) (q := (RX8, TX8, 42)) hK hP hF hS rfl (wM_0 y a s5)) rfl hl.1 rfl (Nat.le_of_ble_eq_true rfl) dX8_assume_7 ⟨Nat.zero_le _, Nat.zero_le _⟩ hS (AC_le hS.1) (fun H locs hP hS hk1 => ?_)
  refine lv_if_ne (tgt := 19) hx hb dX8_assume_10 (by decide) (fun c8 => ?_) (fun c8 => ?_)
  · have hm := (if_neg c8).symm.trans hm
    refine lv_aload_n hx hb dX8_assume_19 rfl (lv_at hl 0 rfl) ?_
    obtain ⟨r9, h10, hm⟩ := ok_bind hm
    refine calV_i (As := []) (rest := []) ⟨hx, hb, hml, hown, hts⟩ (kX8_open l D y a t hI _ s5 r9 h10) (cwV 0 hts (gAV aM_X8_218 aI_X8_open aS_X8_open aN_X8 aC_X8_open) rfl rfl rfl eX8_open ⟨Nat.le_of_ble_eq_true rfl, Nat.le_of_ble_eq_true rfl⟩) (preV_W (ci := 8) (q := (RX8, TX8, 42)) hK hP hF hS rfl (wM_0 y a s5)) rfl hl.1 rfl (Nat.le_of_ble_eq_true rfl) dX8_assume_20 ⟨Nat.zero_le _, Nat.zero_le _⟩ hS (AC_le hS.1) (fun H locs hP hS hk1 => ?_)
    refine lv_bipush (v := 6) hx hb dX8_assume_23 (by decide) ?_
    refine lv_icmp_eq (tgt := 37) hx hb dX8_assume_25 (by decide) (fun c11 => ?_) (fun c11 => ?_)
    · have hm := (if_pos c11).symm.trans hm
      exact L_37 s5 _ _ _ hP hS (lv_sub hl [0] rfl) hm
    · have hm := (if_neg c11).symm.trans hm
      refine lv_aload_n hx hb dX8_assume_28 rfl (lv_at hl 0 rfl) ?_
      refine gfX8_lines hx hb h_X8 hown hK hP l_f199 dX8_assume_29 ?_
      refine lv_bipush (v := 60) hx hb dX8_assume_32 (by decide) ?_
      refine lv_icmp_ne (tgt := 43) hx hb dX8_assume_34 (by decide) (fun c12 => ?_) (fun c12 => ?_)
      · have hm := (if_neg c12).symm.trans hm
        refine lv_aload_n hx hb dX8_assume_43 rfl (lv_at hl 0 rfl) ?_
        refine gfX8_outer hx hb h_X8 hown hK hP l_f58 dX8_assume_44 ?_
        refine lv_aload_n hx hb dX8_assume_47 rfl (lv_at hl 0 rfl) ?_
        refine gfX8_boxes hx hb h_X8 hown hK hP l_f202 dX8_assume_48 ?_
        refine lv_aload_n hx hb dX8_assume_51 rfl (lv_at hl 0 rfl) ?_
        refine gfX8_inner hx hb h_X8 hown hK hP l_f61 dX8_assume_52 ?_
        obtain ⟨hi, hm⟩ := ok_I hm
        refine stM_15 hx hb hK hP hI AC_in hS hi dX8_assume_55 (fun H locs hP hS => ?_)
        generalize es13 : su s5 27 (upd (s5.1 27) (s5.1 7 0).toNatClampNeg (s5.1 8 0)) = s13 at hP
        have hm := bnd_x es13.symm hm
        refine lv_aload_n hx hb dX8_assume_56 rfl (lv_at hl 0 rfl) ?_
        refine gfX8_begins hx hb h_X8 hown hK hP l_f52 dX8_assume_57 ?_
        refine lv_aload_n hx hb dX8_assume_60 rfl (lv_at hl 0 rfl) ?_
        refine gfX8_boxes hx hb h_X8 hown hK hP l_f202 dX8_assume_61 ?_
        refine lv_aload_n hx hb dX8_assume_64 rfl (lv_at hl 0 rfl) ?_
        refine gfX8_lines hx hb h_X8 hown hK hP l_f199 dX8_assume_65 ?_
        obtain ⟨hi, hm⟩ := ok_I hm
        refine stM_13 hx hb hK hP hI AC_in hS hi dX8_assume_68 (fun H locs hP hS => ?_)
        generalize es14 : su s13 25 (upd (s13.1 25) (s13.1 7 0).toNatClampNeg (s13.1 6 0)) = s14 at hP
        have hm := bnd_x es14.symm hm
        refine lv_aload_n hx hb dX8_assume_69 rfl (lv_at hl 0 rfl) ?_
        refine gfX8_ends hx hb h_X8 hown hK hP l_f55 dX8_assume_70 ?_
        refine lv_aload_n hx hb dX8_assume_73 rfl (lv_at hl 0 rfl) ?_
        refine gfX8_boxes hx hb h_X8 hown hK hP l_f202 dX8_assume_74 ?_
        refine lv_iconst (v := (-1)) hx hb dX8_assume_77 (by decide) ?_
        obtain ⟨hi, hm⟩ := ok_I hm
        refine stM_14 hx hb hK hP hI AC_in hS hi dX8_assume_78 (fun H locs hP hS => ?_)
        generalize es15 : su s14 26 (upd (s14.1 26) (s14.1 7 0).toNatClampNeg (-1)) = s15 at hP
        have hm := bnd_x es15.symm hm
        refine lv_aload_n hx hb dX8_assume_79 rfl (lv_at hl 0 rfl) ?_
        refine lv_aload_n hx hb dX8_assume_80 rfl (lv_at hl 0 rfl) ?_
        refine gfX8_boxes hx hb h_X8 hown hK hP l_f202 dX8_assume_81 ?_
        refine pfX8_inner hx hb h_X8 hown hK hP hI AC_in hS l_f61 dX8_assume_84 (fun H locs hP hS => ?_)
        generalize es16 : su s15 8 (fun _ => s15.1 7 0) = s16 at hP
        have hm := bnd_x es16.symm hm
        refine lv_aload_n hx hb dX8_assume_87 rfl (lv_at hl 0 rfl) ?_
        refine lv_dup hx hb dX8_assume_88 rfl ?_
        refine gfX8_boxes hx hb h_X8 hown hK hP l_f202 dX8_assume_89 ?_
        refine lv_iconst (v := 1) hx hb dX8_assume_92 (by decide) ?_
        refine lv_iadd hx hb dX8_assume_93 ?_
        refine pfX8_boxes hx hb h_X8 hown hK hP hI AC_in hS l_f202 dX8_assume_94 (fun H locs hP hS => ?_)
        generalize es17 : su s16 7 (fun _ => (s16.1 7 0) + 1) = s17 at hP
        have hm := bnd_x es17.symm hm
        refine lv_aload_n hx hb dX8_assume_97 rfl (lv_at hl 0 rfl) ?_
        refine lv_iload_n hx hb dX8_assume_98 rfl (lv_at hl 1 rfl) ?_
        refine lv_bipush (v := 14) hx hb dX8_assume_99 (by decide) ?_
        refine lv_iconst (v := 0) hx hb dX8_assume_101 (by decide) ?_
        refine lv_iconst (v := 0) hx hb dX8_assume_102 (by decide) ?_
        refine lv_iconst (v := 0) hx hb dX8_assume_103 (by decide) ?_
        obtain ⟨⟨r18, s20⟩, h19, hm⟩ := ok_bind hm
        refine calV_i (As := [.int p1, .int 14, .int 0, .int 0, .int 0]) (rest := []) ⟨hx, hb, hml, hown, hts⟩ (kX8_add l D y a t hI _ s17 s20 p1 14 0 0 0 r18 h19) (cwV 5 hts (gAV aM_X8_214 aI_X8_add aS_X8_add aN_X8 aC_X8_add) rfl rfl rfl eX8_add ⟨Nat.le_of_ble_eq_true rfl, Nat.le_of_ble_eq_true rfl⟩) (preV_W (ci := 8) (q := (RX8, TX8, 42)) hK hP hF hS rfl (wM_0 y a s17)) rfl hl.1 rfl (Nat.le_of_ble_eq_true rfl) dX8_assume_104 ⟨Nat.zero_le _, Nat.zero_le _⟩ hS (AC_le hS.1) (fun H locs hP hS hk1 => ?_)
        exact W.iret (v := r18) hx hb hr (fun T hT hW => ⟨⟨r18, s20, rfl, ⟨congrArg Prod.fst (Option.some.inj hm), congrArg Prod.snd (Option.some.inj hm)⟩, by rw [posW, hT]; exact hP⟩, hS.F hT⟩) hS.2.2 dX8_assume_107
      · have hm := (if_pos c12).symm.trans hm
        exact L_37 s5 _ _ _ hP hS (lv_sub hl [0] rfl) hm
  · have hm := (if_pos c8).symm.trans hm
    refine lv_aload_n hx hb dX8_assume_13 rfl (lv_at hl 0 rfl) ?_
    refine lv_iconst (v := 1) hx hb dX8_assume_14 (by decide) ?_
    obtain ⟨⟨r21, s23⟩, h22, hm⟩ := ok_bind hm
    refine calV_i (As := [.int 1]) (rest := []) ⟨hx, hb, hml, hown, hts⟩ (kX8_no l D y a t hI _ s5 s23 1 r21 h22) (cwV 1 hts (gAV aM_X8_119 aI_X8_no aS_X8_no aN_X8 aC_X8_no) rfl rfl rfl eX8_no ⟨Nat.le_of_ble_eq_true rfl, Nat.le_of_ble_eq_true rfl⟩) (preV_W (ci := 8) (q := (RX8, TX8, 42)) hK hP hF hS rfl (wM_0 y a s5)) rfl hl.1 rfl (Nat.le_of_ble_eq_true rfl) dX8_assume_15 ⟨Nat.zero_le _, Nat.zero_le _⟩ hS (AC_le hS.1) (fun H locs hP hS hk1 => ?_)
    exact W.iret (v := r21) hx hb hr (fun T hT hW => ⟨⟨r21, s23, rfl, ⟨congrArg Prod.fst (Option.some.inj hm), congrArg Prod.snd (Option.some.inj hm)⟩, by rw [posW, hT]; exact hP⟩, hS.F hT⟩) hS.2.2 dX8_assume_18
theorem eX8_close : yX8_close.cls = RX8 ∧ yX8_close.cls ≠ "java/lang/invoke/MethodHandle" ∧ yX8_close.cls ≠ "java/lang/invoke/VarHandle" ∧ (parseMethodDescriptor yX8_close.desc).map (fun d => d.parameters.length) = some 0 := by decide +kernel
def mX8_close_57 (s2 : St) (v1 : Int32) : Option (Int32 × St) :=
chkI (s2.1 9 0) 120 (
bnd (su s2 28 (upd (s2.1 28) (s2.1 9 0).toNatClampNeg ((-1) - v1))) fun s3 =>
bnd (su s3 9 (fun _ => (s3.1 9 0) + 1)) fun s4 =>
chkI v1 60 (
bnd (su s4 8 (fun _ => s4.1 27 v1.toNatClampNeg)) fun s5 =>
some (v1, s5)))
def mX8_close_51 (kh26 : St → Int32 → Int32 → Option (Int32 × St)) (s8 : St) (v6 : Int32) (v7 : Int32) : Option (Int32 × St) :=
bnd (v7 + 1) fun x9 =>
kh26 s8 v6 x9
def bX8_close_26 (kh26 : St → Int32 → Int32 → Option (Int32 × St)) (s12 : St) (v10 : Int32) (v11 : Int32) : Option (Int32 × St) :=
if (s12.1 6 0) ≤ v11 then (
mX8_close_57 s12 v10)
else (
chkI v11 60 (
if (s12.1 24 v11.toNatClampNeg) = v10 then (
chkI v10 60 (
bnd (su s12 26 (upd (s12.1 26) v10.toNatClampNeg v11)) fun s15 =>
mX8_close_51 kh26 s15 v10 v11))
else (
mX8_close_51 kh26 s12 v10 v11)))
abbrev mX8_close_26 (n : Nat) : St → Int32 → Int32 → Option (Int32 × St) := fx (fun _ _ _ => none) (bX8_close_26) n
def mX8_close (σ : St) : Option (Int32 × St) :=
bnd (su σ 0 (fun _ => 0)) fun s16 =>
if (s16.1 8 0) = (-1) then (
(mX8_no s16 1).bind fun ⟨r19, s21⟩ =>
some (r19, s21))
else (
bnd (s16.1 8 0) fun x18 =>
mX8_close_26 NF s16 x18 0)
set_option maxHeartbeats 4000000 in
set_option maxRecDepth 100000 in
theorem kX8_close (l : Launch) (D : va_G) (y : Nat → ClassId) (a t : Nat → Nat) (hI : AI a 30) (sz : Nat) (σ τ : St) (r : Int32) (hm : mX8_close σ = some (r, τ)) : Met l yX8_close zX8_close { frames := 1, cells := 0, slots := 0, locals := 21 } (va_Pc [.ref (a 0)] (preW (wM y a) a 30 D y t σ sz)) (va_Qi (fun r' u => r' = r ∧ u = τ) (posW (wM y a) D) (AC a 30 sz)) 0 0 (AC a 30 sz) := by
  refine Met.ofW (cc := cX8_close) (maxL := 3) (ret := (some .int)) (by decide) rfl ?_
  intro p e s m args below meth c s₁ B hml hv
  obtain ⟨rfl, hsz, hP, hK, hF⟩ := hv
  have hx := B.exec
  have hb := B.bytes
  have hr := B.returns
  have hts := atoms_spec (ws := zX8_close) B.pre
  have hown : s.vm.findClass RX8 = some m.cls := findClass_of_methodNamed B.named
  have hlocks := B.notSynchronized
  subst hsz
  have l_f106 := hts _ (List.mem_cons_of_mem _ aF_X8_106)
  have l_f61 := hts _ (List.mem_cons_of_mem _ aF_X8_61)
  have l_f199 := hts _ (List.mem_cons_of_mem _ aF_X8_199)
  have l_f49 := hts _ (List.mem_cons_of_mem _ aF_X8_49)
  have l_f55 := hts _ (List.mem_cons_of_mem _ aF_X8_55)
  have l_f64 := hts _ (List.mem_cons_of_mem _ aF_X8_64)
  have l_f205 := hts _ (List.mem_cons_of_mem _ aF_X8_205)
  have l_f58 := hts _ (List.mem_cons_of_mem _ aF_X8_58)
  have h_X8 : ∀ w ∈ wsX80, w.before _ s = true := fun w hw => hts w (List.mem_cons_of_mem _ (hwX8 w hw))
  have hS : va_S (AC a 30 s.heap.size) s.heap s.heap [] := va_S.rf
  have hl := lv_entry ([.ref (a 0)]) (n := 3) (Nat.le_of_ble_eq_true rfl)
  rw [lg_entry_eq]
  generalize (lg_sl ([.ref (a 0)]) ++ List.replicate (3 - (lg_sl ([.ref (a 0)])).length) Slot.unset).toArray = ls at hl ⊢
  have hl : lv_has ls 3 [(0, .ref (a 0))] := hl
  have L_57 : ∀ (s2 : St) (v1 : Int32) (H : Heap) (locs : List Loc) (ls : Array Slot), va_P D vwCl (wM y a s2) H → va_S (AC a 30 s.heap.size) s.heap H locs → lv_has ls 3 [(0, .ref (a 0)), (1, .int v1)] → mX8_close_57 s2 v1 = some (r, τ) → W p l e (headSpec zX8_close ({ frames := 1, cells := 0, slots := 0, locals := 21 })).room s m ([.ref (a 0)] : List Value).toArray below meth c H locs 0 0 (MQ below (va_Qi (fun r' u => r' = r ∧ u = τ) (posW (wM y a) D) (AC a 30 s.heap.size)) ([.ref (a 0)] : List Value).toArray s 0 0 (AC a 30 s.heap.size)) (F0 m 57 ls []) := by
    intro s2 v1 H locs ls hP hS hl hm
    unfold mX8_close_57 at hm
    refine lv_aload_n hx hb dX8_close_57 rfl (lv_at hl 0 rfl) ?_
    refine gfX8_deeds hx hb h_X8 hown hK hP l_f64 dX8_close_58 ?_
    refine lv_aload_n hx hb dX8_close_61 rfl (lv_at hl 0 rfl) ?_
    refine gfX8_done hx hb h_X8 hown hK hP l_f205 dX8_close_62 ?_
    refine lv_iconst (v := (-1)) hx hb dX8_close_65 (by decide) ?_
    refine lv_iload_n hx hb dX8_close_66 rfl (lv_at hl 1 rfl) ?_
    refine lv_isub hx hb dX8_close_67 ?_
    obtain ⟨hi, hm⟩ := ok_I hm
    refine stM_16 hx hb hK hP hI AC_in hS hi dX8_close_68 (fun H locs hP hS => ?_)
    generalize es3 : su s2 28 (upd (s2.1 28) (s2.1 9 0).toNatClampNeg ((-1) - v1)) = s3 at hP
    have hm := bnd_x es3.symm hm
    refine lv_aload_n hx hb dX8_close_69 rfl (lv_at hl 0 rfl) ?_
    refine lv_dup hx hb dX8_close_70 rfl ?_
    refine gfX8_done hx hb h_X8 hown hK hP l_f205 dX8_close_71 ?_
    refine lv_iconst (v := 1) hx hb dX8_close_74 (by decide) ?_
    refine lv_iadd hx hb dX8_close_75 ?_
    refine pfX8_done hx hb h_X8 hown hK hP hI AC_in hS l_f205 dX8_close_76 (fun H locs hP hS => ?_)
    generalize es4 : su s3 9 (fun _ => (s3.1 9 0) + 1) = s4 at hP
    have hm := bnd_x es4.symm hm
    refine lv_aload_n hx hb dX8_close_79 rfl (lv_at hl 0 rfl) ?_
    refine lv_aload_n hx hb dX8_close_80 rfl (lv_at hl 0 rfl) ?_
    refine gfX8_outer hx hb h_X8 hown hK hP l_f58 dX8_close_81 ?_
    refine lv_iload_n hx hb dX8_close_84 rfl (lv_at hl 1 rfl) ?_
    obtain ⟨hi, hm⟩ := ok_I hm
    refine ldM_15 hx hb hK hP hi dX8_close_85 ?_
    refine pfX8_inner hx hb h_X8 hown hK hP hI AC_in hS l_f61 dX8_close_86 (fun H locs hP hS => ?_)
    generalize es5 : su s4 8 (fun _ => s4.1 27 v1.toNatClampNeg) = s5 at hP
    have hm := bnd_x es5.symm hm
    refine lv_iload_n hx hb dX8_close_89 rfl (lv_at hl 1 rfl) ?_
    exact W.iret (v := v1) hx hb hr (fun T hT hW => ⟨⟨v1, s5, rfl, ⟨congrArg Prod.fst (Option.some.inj hm), congrArg Prod.snd (Option.some.inj hm)⟩, by rw [posW, hT]; exact hP⟩, hS.F hT⟩) hS.2.2 dX8_close_90
  have L_26 : ∀ (n : Nat) (s12 : St) (v10 : Int32) (v11 : Int32) (H : Heap) (locs : List Loc) (ls : Array Slot), va_P D vwCl (wM y a s12) H → va_S (AC a 30 s.heap.size) s.heap H locs → lv_has ls 3 [(0, .ref (a 0)), (1, .int v10), (2, .int v11)] → mX8_close_26 n s12 v10 v11 = some (r, τ) → W p l e (headSpec zX8_close ({ frames := 1, cells := 0, slots := 0, locals := 21 })).room s m ([.ref (a 0)] : List Value).toArray below meth c H locs 0 0 (MQ below (va_Qi (fun r' u => r' = r ∧ u = τ) (posW (wM y a) D) (AC a 30 s.heap.size)) ([.ref (a 0)] : List Value).toArray s 0 0 (AC a 30 s.heap.size)) (F0 m 26 ls []) := by
    intro n
    induction n with
    | zero =>
      intro s12 v10 v11 H locs ls hP hS hl hm
      exact absurd (show (none : Option (Int32 × St)) = some (r, τ) from hm) (by intro h; cases h)
    | succ n ih26 =>
      obtain ⟨kh26, ekh26⟩ : ∃ z, z = mX8_close_26 n := ⟨_, rfl⟩
      have ih26 : ∀ (s12 : St) (v10 : Int32) (v11 : Int32) (H : Heap) (locs : List Loc) (ls : Array Slot), va_P D vwCl (wM y a s12) H → va_S (AC a 30 s.heap.size) s.heap H locs → lv_has ls 3 [(0, .ref (a 0)), (1, .int v10), (2, .int v11)] → kh26 s12 v10 v11 = some (r, τ) → W p l e (headSpec zX8_close ({ frames := 1, cells := 0, slots := 0, locals := 21 })).room s m ([.ref (a 0)] : List Value).toArray below meth c H locs 0 0 (MQ below (va_Qi (fun r' u => r' = r ∧ u = τ) (posW (wM y a) D) (AC a 30 s.heap.size)) ([.ref (a 0)] : List Value).toArray s 0 0 (AC a 30 s.heap.size)) (F0 m 26 ls []) := by rw [ekh26]; exact ih26
      have L_51 : ∀ (s8 : St) (v6 : Int32) (v7 : Int32) (H : Heap) (locs : List Loc) (ls : Array Slot), va_P D vwCl (wM y a s8) H → va_S (AC a 30 s.heap.size) s.heap H locs → lv_has ls 3 [(0, .ref (a 0)), (1, .int v6), (2, .int v7)] → mX8_close_51 kh26 s8 v6 v7 = some (r, τ) → W p l e (headSpec zX8_close ({ frames := 1, cells := 0, slots := 0, locals := 21 })).room s m ([.ref (a 0)] : List Value).toArray below meth c H locs 0 0 (MQ below (va_Qi (fun r' u => r' = r ∧ u = τ) (posW (wM y a) D) (AC a 30 s.heap.size)) ([.ref (a 0)] : List Value).toArray s 0 0 (AC a 30 s.heap.size)) (F0 m 51 ls []) := by
        intro s8 v6 v7 H locs ls hP hS hl hm
        unfold mX8_close_51 at hm
        obtain ⟨x9, ex9⟩ : ∃ z : Int32, z = v7 + 1 := ⟨_, rfl⟩
        have hm := bnd_x ex9 hm
        refine lv_iinc (v := x9) (lv' := [(2, .int x9), (0, .ref (a 0)), (1, .int v6)]) hx hb dX8_close_51 hl (k := 2) rfl (by rw [ex9]; rfl) (by decide) rfl (fun ls hl => ?_)
        refine lv_goto (tgt := 26) hx hb dX8_close_54 (by decide) ?_
        exact ih26 s8 v6 x9 _ _ _ hP hS (lv_sub hl [1, 2, 0] rfl) hm
      intro s12 v10 v11 H locs ls hP hS hl hm
      have hm : bX8_close_26 (mX8_close_26 n) s12 v10 v11 = some (r, τ) := hm
      rw [← ekh26] at hm
      unfold bX8_close_26 at hm
      refine lv_iload_n hx hb dX8_close_26 rfl (lv_at hl 2 rfl) ?_
      refine lv_aload_n hx hb dX8_close_27 rfl (lv_at hl 0 rfl) ?_
      refine gfX8_lines hx hb h_X8 hown hK hP l_f199 dX8_close_28 ?_
      refine lv_icmp_ge (tgt := 57) hx hb dX8_close_31 (by decide) (fun c13 => ?_) (fun c13 => ?_)
      · have hm := (if_pos c13).symm.trans hm
        exact L_57 s12 v10 _ _ _ hP hS (lv_sub hl [0, 1] rfl) hm
      · have hm := (if_neg c13).symm.trans hm
        refine lv_aload_n hx hb dX8_close_34 rfl (lv_at hl 0 rfl) ?_
        refine gfX8_boxOf hx hb h_X8 hown hK hP l_f49 dX8_close_35 ?_
        refine lv_iload_n hx hb dX8_close_38 rfl (lv_at hl 2 rfl) ?_
        obtain ⟨hi, hm⟩ := ok_I hm
        refine ldM_12 hx hb hK hP hi dX8_close_39 ?_
        refine lv_iload_n hx hb dX8_close_40 rfl (lv_at hl 1 rfl) ?_
        refine lv_icmp_ne (tgt := 51) hx hb dX8_close_41 (by decide) (fun c14 => ?_) (fun c14 => ?_)
        · have hm := (if_neg c14).symm.trans hm
          exact L_51 s12 v10 v11 _ _ _ hP hS (lv_sub hl [0, 1, 2] rfl) hm
        · have hm := (if_pos c14).symm.trans hm
          refine lv_aload_n hx hb dX8_close_44 rfl (lv_at hl 0 rfl) ?_
          refine gfX8_ends hx hb h_X8 hown hK hP l_f55 dX8_close_45 ?_
          refine lv_iload_n hx hb dX8_close_48 rfl (lv_at hl 1 rfl) ?_
          refine lv_iload_n hx hb dX8_close_49 rfl (lv_at hl 2 rfl) ?_
          obtain ⟨hi, hm⟩ := ok_I hm
          refine stM_14 hx hb hK hP hI AC_in hS hi dX8_close_50 (fun H locs hP hS => ?_)
          generalize es15 : su s12 26 (upd (s12.1 26) v10.toNatClampNeg v11) = s15 at hP
          have hm := bnd_x es15.symm hm
          exact L_51 s15 v10 v11 _ _ _ hP hS (lv_sub hl [0, 1, 2] rfl) hm
  unfold mX8_close at hm
  refine lv_aload_n hx hb dX8_close_0 rfl (lv_at hl 0 rfl) ?_
  refine lv_iconst (v := 0) hx hb dX8_close_1 (by decide) ?_
  refine pfX8_thrown hx hb h_X8 hown hK hP hI AC_in hS l_f106 dX8_close_2 (fun H locs hP hS => ?_)
  generalize es16 : su σ 0 (fun _ => 0) = s16 at hP
  have hm := bnd_x es16.symm hm
  refine lv_aload_n hx hb dX8_close_5 rfl (lv_at hl 0 rfl) ?_
  refine gfX8_inner hx hb h_X8 hown hK hP l_f61 dX8_close_6 ?_
  refine lv_iconst (v := (-1)) hx hb dX8_close_9 (by decide) ?_
  refine lv_icmp_ne (tgt := 19) hx hb dX8_close_10 (by decide) (fun c17 => ?_) (fun c17 => ?_)
  · have hm := (if_neg c17).symm.trans hm
    refine lv_aload_n hx hb dX8_close_19 rfl (lv_at hl 0 rfl) ?_
    refine gfX8_inner hx hb h_X8 hown hK hP l_f61 dX8_close_20 ?_
    refine lv_topi (fun x18 ex18 => ?_)
    have hm := bnd_x ex18 hm
    refine lv_istore_n (lv' := [(1, .int x18), (0, .ref (a 0))]) hx hb dX8_close_23 rfl hl (by decide) rfl (fun ls hl => ?_)
    refine lv_iconst (v := 0) hx hb dX8_close_24 (by decide) ?_
    refine lv_istore_n (lv' := [(2, .int 0), (1, .int x18), (0, .ref (a 0))]) hx hb dX8_close_25 rfl hl (by decide) rfl (fun ls hl => ?_)
    exact L_26 NF s16 x18 0 _ _ _ hP hS (lv_sub hl [2, 1, 0] rfl) hm
  · have hm := (if_pos c17).symm.trans hm
    refine lv_aload_n hx hb dX8_close_13 rfl (lv_at hl 0 rfl) ?_
    refine lv_iconst (v := 1) hx hb dX8_close_14 (by decide) ?_
    obtain ⟨⟨r19, s21⟩, h20, hm⟩ := ok_bind hm
    refine calV_i (As := [.int 1]) (rest := []) ⟨hx, hb, hml, hown, hts⟩ (kX8_no l D y a t hI _ s16 s21 1 r19 h20) (cwV 1 hts (gAV aM_X8_119 aI_X8_no aS_X8_no aN_X8 aC_X8_no) rfl rfl rfl eX8_no ⟨Nat.le_of_ble_eq_true rfl, Nat.le_of_ble_eq_true rfl⟩) (preV_W (ci := 8) (q := (RX8, TX8, 42)) hK hP hF hS rfl (wM_0 y a s16)) rfl hl.1 rfl (Nat.le_of_ble_eq_true rfl) dX8_close_15 ⟨Nat.zero_le _, Nat.zero_le _⟩ hS (AC_le hS.1) (fun H locs hP hS hk1 => ?_)
    exact W.iret (v := r19) hx hb hr (fun T hT hW => ⟨⟨r19, s21, rfl, ⟨congrArg Prod.fst (Option.some.inj hm), congrArg Prod.snd (Option.some.inj hm)⟩, by rw [posW, hT]; exact hP⟩, hS.F hT⟩) hS.2.2 dX8_close_18
theorem eX8_areOpen : yX8_areOpen.cls = RX8 ∧ yX8_areOpen.cls ≠ "java/lang/invoke/MethodHandle" ∧ yX8_areOpen.cls ≠ "java/lang/invoke/VarHandle" ∧ (parseMethodDescriptor yX8_areOpen.desc).map (fun d => d.parameters.length) = some 1 := by decide +kernel
def bX8_areOpen_2 (kh2 : St → Int32 → Option Int32) (σ : St) (v1 : Int32) : Option Int32 :=
if v1 = (-1) then (
some 1)
else (
chkI v1 60 (
if (σ.1 26 v1.toNatClampNeg) = (-1) then (
chkI v1 60 (
bnd (σ.1 27 v1.toNatClampNeg) fun x4 =>
kh2 σ x4))
else (
some 0)))
abbrev mX8_areOpen_2 (n : Nat) : St → Int32 → Option Int32 := fx (fun _ _ => none) (bX8_areOpen_2) n
def mX8_areOpen (σ : St) (p1 : Int32) : Option Int32 :=
mX8_areOpen_2 NF σ p1
set_option maxHeartbeats 4000000 in
set_option maxRecDepth 100000 in
theorem kX8_areOpen (l : Launch) (D : va_G) (y : Nat → ClassId) (a t : Nat → Nat) (hI : AI a 30) (sz : Nat) (σ : St) (p1 : Int32) (r : Int32) (hm : mX8_areOpen σ p1 = some r) : Met l yX8_areOpen zX8_areOpen { frames := 0, cells := 0, slots := 0, locals := 0 } (va_Pc [.ref (a 0), .int p1] (preW (wM y a) a 30 D y t σ sz)) (va_Qi (fun r' u => r' = r ∧ u = σ) (posW (wM y a) D) (AC a 30 sz)) 0 0 (AC a 30 sz) := by
  refine Met.ofW (cc := cX8_areOpen) (maxL := 3) (ret := (some .boolean)) (by decide) rfl ?_
  intro p e s m args below meth c s₁ B hml hv
  obtain ⟨rfl, hsz, hP, hK, hF⟩ := hv
  have hx := B.exec
  have hb := B.bytes
  have hr := B.returns
  have hts := atoms_spec (ws := zX8_areOpen) B.pre
  have hown : s.vm.findClass RX8 = some m.cls := findClass_of_methodNamed B.named
  have hlocks := B.notSynchronized
  subst hsz
  have l_f55 := hts _ (List.mem_cons_of_mem _ aF_X8_55)
  have l_f58 := hts _ (List.mem_cons_of_mem _ aF_X8_58)
  have h_X8 : ∀ w ∈ wsX80, w.before _ s = true := fun w hw => hts w (List.mem_cons_of_mem _ (hwX8 w hw))
  have hS : va_S (AC a 30 s.heap.size) s.heap s.heap [] := va_S.rf
  have hl := lv_entry ([.ref (a 0), .int p1]) (n := 3) (Nat.le_of_ble_eq_true rfl)
  rw [lg_entry_eq]
  generalize (lg_sl ([.ref (a 0), .int p1]) ++ List.replicate (3 - (lg_sl ([.ref (a 0), .int p1])).length) Slot.unset).toArray = ls at hl ⊢
  have hl : lv_has ls 3 [(0, .ref (a 0)), (1, .int p1)] := hl
  have L_2 : ∀ (n : Nat) (v1 : Int32) (H : Heap) (locs : List Loc) (ls : Array Slot), va_P D vwCl (wM y a σ) H → va_S (AC a 30 s.heap.size) s.heap H locs → lv_has ls 3 [(0, .ref (a 0)), (2, .int v1)] → mX8_areOpen_2 n σ v1 = some r → W p l e (headSpec zX8_areOpen ({ frames := 0, cells := 0, slots := 0, locals := 0 })).room s m ([.ref (a 0), .int p1] : List Value).toArray below meth c H locs 0 0 (MQ below (va_Qi (fun r' u => r' = r ∧ u = σ) (posW (wM y a) D) (AC a 30 s.heap.size)) ([.ref (a 0), .int p1] : List Value).toArray s 0 0 (AC a 30 s.heap.size)) (F0 m 2 ls []) := by
    intro n
    induction n with
    | zero =>
      intro v1 H locs ls hP hS hl hm
      exact absurd (show (none : Option Int32) = some r from hm) (by intro h; cases h)
    | succ n ih2 =>
      obtain ⟨kh2, ekh2⟩ : ∃ z, z = mX8_areOpen_2 n := ⟨_, rfl⟩
      have ih2 : ∀ (v1 : Int32) (H : Heap) (locs : List Loc) (ls : Array Slot), va_P D vwCl (wM y a σ) H → va_S (AC a 30 s.heap.size) s.heap H locs → lv_has ls 3 [(0, .ref (a 0)), (2, .int v1)] → kh2 σ v1 = some r → W p l e (headSpec zX8_areOpen ({ frames := 0, cells := 0, slots := 0, locals := 0 })).room s m ([.ref (a 0), .int p1] : List Value).toArray below meth c H locs 0 0 (MQ below (va_Qi (fun r' u => r' = r ∧ u = σ) (posW (wM y a) D) (AC a 30 s.heap.size)) ([.ref (a 0), .int p1] : List Value).toArray s 0 0 (AC a 30 s.heap.size)) (F0 m 2 ls []) := by rw [ekh2]; exact ih2
      intro v1 H locs ls hP hS hl hm
      have hm : bX8_areOpen_2 (mX8_areOpen_2 n) σ v1 = some r := hm
      rw [← ekh2] at hm
      unfold bX8_areOpen_2 at hm
      refine lv_iload_n hx hb dX8_areOpen_2 rfl (lv_at hl 1 rfl) ?_
      refine lv_iconst (v := (-1)) hx hb dX8_areOpen_3 (by decide) ?_
      refine lv_icmp_eq (tgt := 29) hx hb dX8_areOpen_4 (by decide) (fun c2 => ?_) (fun c2 => ?_)
      · have hm := (if_pos c2).symm.trans hm
        refine lv_iconst (v := 1) hx hb dX8_areOpen_29 (by decide) ?_
        exact W.zret (v := 1) hx hb hr rfl (fun T hT hW => ⟨⟨1, σ, rfl, ⟨Option.some.inj hm, rfl⟩, by rw [posW, hT]; exact hP⟩, hS.F hT⟩) hS.2.2 dX8_areOpen_30
      · have hm := (if_neg c2).symm.trans hm
        refine lv_aload_n hx hb dX8_areOpen_7 rfl (lv_at hl 0 rfl) ?_
        refine gfX8_ends hx hb h_X8 hown hK hP l_f55 dX8_areOpen_8 ?_
        refine lv_iload_n hx hb dX8_areOpen_11 rfl (lv_at hl 1 rfl) ?_
        obtain ⟨hi, hm⟩ := ok_I hm
        refine ldM_14 hx hb hK hP hi dX8_areOpen_12 ?_
        refine lv_iconst (v := (-1)) hx hb dX8_areOpen_13 (by decide) ?_
        refine lv_icmp_eq (tgt := 19) hx hb dX8_areOpen_14 (by decide) (fun c3 => ?_) (fun c3 => ?_)
        · have hm := (if_pos c3).symm.trans hm
          refine lv_aload_n hx hb dX8_areOpen_19 rfl (lv_at hl 0 rfl) ?_
          refine gfX8_outer hx hb h_X8 hown hK hP l_f58 dX8_areOpen_20 ?_
          refine lv_iload_n hx hb dX8_areOpen_23 rfl (lv_at hl 1 rfl) ?_
          obtain ⟨hi, hm⟩ := ok_I hm
          refine ldM_15 hx hb hK hP hi dX8_areOpen_24 ?_
          refine lv_topi (fun x4 ex4 => ?_)
          have hm := bnd_x ex4 hm
          refine lv_istore_n (lv' := [(2, .int x4), (0, .ref (a 0))]) hx hb dX8_areOpen_25 rfl hl (by decide) rfl (fun ls hl => ?_)
          refine lv_goto (tgt := 2) hx hb dX8_areOpen_26 (by decide) ?_
          exact ih2 x4 _ _ _ hP hS (lv_sub hl [1, 0] rfl) hm
        · have hm := (if_neg c3).symm.trans hm
          refine lv_iconst (v := 0) hx hb dX8_areOpen_17 (by decide) ?_
          exact W.zret (v := 0) hx hb hr rfl (fun T hT hW => ⟨⟨0, σ, rfl, ⟨Option.some.inj hm, rfl⟩, by rw [posW, hT]; exact hP⟩, hS.F hT⟩) hS.2.2 dX8_areOpen_18
  unfold mX8_areOpen at hm
  refine lv_iload_n hx hb dX8_areOpen_0 rfl (lv_at hl 1 rfl) ?_
  refine lv_istore_n (lv' := [(2, .int p1), (0, .ref (a 0)), (1, .int p1)]) hx hb dX8_areOpen_1 rfl hl (by decide) rfl (fun ls hl => ?_)
  exact L_2 NF p1 _ _ _ hP hS (lv_sub hl [1, 0] rfl) hm
theorem eX8_isLine : yX8_isLine.cls = RX8 ∧ yX8_isLine.cls ≠ "java/lang/invoke/MethodHandle" ∧ yX8_isLine.cls ≠ "java/lang/invoke/VarHandle" ∧ (parseMethodDescriptor yX8_isLine.desc).map (fun d => d.parameters.length) = some 1 := by decide +kernel
def mX8_isLine (σ : St) (p1 : Int32) : Option Int32 :=
(mX8_isIn σ p1 0 ((σ.1 6 0) - 1)).bind fun r1 =>
if r1 = 0 then (
some 0)
else (
chkI p1 60 (
(mX8_areOpen σ (σ.1 24 p1.toNatClampNeg)).bind fun r4 =>
if r4 = 0 then (
some 0)
else (
some 1)))
set_option maxHeartbeats 4000000 in
set_option maxRecDepth 100000 in
theorem kX8_isLine (l : Launch) (D : va_G) (y : Nat → ClassId) (a t : Nat → Nat) (hI : AI a 30) (sz : Nat) (σ : St) (p1 : Int32) (r : Int32) (hm : mX8_isLine σ p1 = some r) : Met l yX8_isLine zX8_isLine { frames := 1, cells := 0, slots := 0, locals := 22 } (va_Pc [.ref (a 0), .int p1] (preW (wM y a) a 30 D y t σ sz)) (va_Qi (fun r' u => r' = r ∧ u = σ) (posW (wM y a) D) (AC a 30 sz)) 0 0 (AC a 30 sz) := by
  refine Met.ofW (cc := cX8_isLine) (maxL := 2) (ret := (some .boolean)) (by decide) rfl ?_
  intro p e s m args below meth c s₁ B hml hv
  obtain ⟨rfl, hsz, hP, hK, hF⟩ := hv
  have hx := B.exec
  have hb := B.bytes
  have hr := B.returns
  have hts := atoms_spec (ws := zX8_isLine) B.pre
  have hown : s.vm.findClass RX8 = some m.cls := findClass_of_methodNamed B.named
  have hlocks := B.notSynchronized
  subst hsz
  have l_f199 := hts _ (List.mem_cons_of_mem _ aF_X8_199)
  have l_f49 := hts _ (List.mem_cons_of_mem _ aF_X8_49)
  have h_X8 : ∀ w ∈ wsX80, w.before _ s = true := fun w hw => hts w (List.mem_cons_of_mem _ (hwX8 w hw))
  have hS : va_S (AC a 30 s.heap.size) s.heap s.heap [] := va_S.rf
  have hl := lv_entry ([.ref (a 0), .int p1]) (n := 2) (Nat.le_of_ble_eq_true rfl)
  rw [lg_entry_eq]
  generalize (lg_sl ([.ref (a 0), .int p1]) ++ List.replicate (2 - (lg_sl ([.ref (a 0), .int p1])).length) Slot.unset).toArray = ls at hl ⊢
  have hl : lv_has ls 2 [(0, .ref (a 0)), (1, .int p1)] := hl
  unfold mX8_isLine at hm
  refine lv_iload_n hx hb dX8_isLine_0 rfl (lv_at hl 1 rfl) ?_
  refine lv_iconst (v := 0) hx hb dX8_isLine_1 (by decide) ?_
  refine lv_aload_n hx hb dX8_isLine_2 rfl (lv_at hl 0 rfl) ?_
  refine gfX8_lines hx hb h_X8 hown hK hP l_f199 dX8_isLine_3 ?_
  refine lv_iconst (v := 1) hx hb dX8_isLine_6 (by decide) ?_
  refine lv_isub hx hb dX8_isLine_7 ?_
  obtain ⟨r1, h2, hm⟩ := ok_bind hm
  refine calS_i (As := [.int p1, .int 0, .int ((σ.1 6 0) - 1)]) (rest := []) ⟨hx, hb, hml, hown, hts⟩ (kX8_isIn l D y a t hI _ σ p1 0 ((σ.1 6 0) - 1) r1 h2) (va_cwS 3 hts (gAS aM_X8_112 aT_X8_isIn aN_X8 aC_X8_isIn) rfl rfl rfl eX8_isIn ⟨Nat.le_of_ble_eq_true rfl, Nat.le_of_ble_eq_true rfl⟩) (preS_W hK hP hF hS) rfl hl.1 rfl (Nat.le_of_ble_eq_true rfl) dX8_isLine_8 ⟨Nat.zero_le _, Nat.zero_le _⟩ hS (AC_le hS.1) (fun H locs hP hS hk1 => ?_)
  refine lv_if_eq (tgt := 31) hx hb dX8_isLine_11 (by decide) (fun c3 => ?_) (fun c3 => ?_)
  · have hm := (if_pos c3).symm.trans hm
    refine lv_iconst (v := 0) hx hb dX8_isLine_31 (by decide) ?_
    exact W.zret (v := 0) hx hb hr rfl (fun T hT hW => ⟨⟨0, σ, rfl, ⟨Option.some.inj hm, rfl⟩, by rw [posW, hT]; exact hP⟩, hS.F hT⟩) hS.2.2 dX8_isLine_32
  · have hm := (if_neg c3).symm.trans hm
    refine lv_aload_n hx hb dX8_isLine_14 rfl (lv_at hl 0 rfl) ?_
    refine lv_aload_n hx hb dX8_isLine_15 rfl (lv_at hl 0 rfl) ?_
    refine gfX8_boxOf hx hb h_X8 hown hK hP l_f49 dX8_isLine_16 ?_
    refine lv_iload_n hx hb dX8_isLine_19 rfl (lv_at hl 1 rfl) ?_
    obtain ⟨hi, hm⟩ := ok_I hm
    refine ldM_12 hx hb hK hP hi dX8_isLine_20 ?_
    obtain ⟨r4, h5, hm⟩ := ok_bind hm
    refine calV_i (As := [.int (σ.1 24 p1.toNatClampNeg)]) (rest := []) ⟨hx, hb, hml, hown, hts⟩ (kX8_areOpen l D y a t hI _ σ (σ.1 24 p1.toNatClampNeg) r4 h5) (cwV 1 hts (gAV aM_X8_221 aI_X8_areOpen aS_X8_areOpen aN_X8 aC_X8_areOpen) rfl rfl rfl eX8_areOpen ⟨Nat.le_of_ble_eq_true rfl, Nat.le_of_ble_eq_true rfl⟩) (preV_W (ci := 8) (q := (RX8, TX8, 42)) hK hP hF hS rfl (wM_0 y a σ)) rfl hl.1 rfl (Nat.le_of_ble_eq_true rfl) dX8_isLine_21 ⟨Nat.zero_le _, Nat.zero_le _⟩ hS (AC_le hS.1) (fun H locs hP hS hk1 => ?_)
    refine lv_if_eq (tgt := 31) hx hb dX8_isLine_24 (by decide) (fun c6 => ?_) (fun c6 => ?_)
    · have hm := (if_pos c6).symm.trans hm
      refine lv_iconst (v := 0) hx hb dX8_isLine_31 (by decide) ?_
      exact W.zret (v := 0) hx hb hr rfl (fun T hT hW => ⟨⟨0, σ, rfl, ⟨Option.some.inj hm, rfl⟩, by rw [posW, hT]; exact hP⟩, hS.F hT⟩) hS.2.2 dX8_isLine_32
    · have hm := (if_neg c6).symm.trans hm
      refine lv_iconst (v := 1) hx hb dX8_isLine_27 (by decide) ?_
      refine lv_goto (tgt := 32) hx hb dX8_isLine_28 (by decide) ?_
      exact W.zret (v := 1) hx hb hr rfl (fun T hT hW => ⟨⟨1, σ, rfl, ⟨Option.some.inj hm, rfl⟩, by rw [posW, hT]; exact hP⟩, hS.F hT⟩) hS.2.2 dX8_isLine_32
theorem eX8_isBox : yX8_isBox.cls = RX8 ∧ yX8_isBox.cls ≠ "java/lang/invoke/MethodHandle" ∧ yX8_isBox.cls ≠ "java/lang/invoke/VarHandle" ∧ (parseMethodDescriptor yX8_isBox.desc).map (fun d => d.parameters.length) = some 1 := by decide +kernel
def mX8_isBox (σ : St) (p1 : Int32) : Option Int32 :=
(mX8_isIn σ p1 0 ((σ.1 7 0) - 1)).bind fun r1 =>
if r1 = 0 then (
some 0)
else (
chkI p1 60 (
if (σ.1 26 p1.toNatClampNeg) = (-1) then (
some 0)
else (
chkI p1 60 (
(mX8_areOpen σ (σ.1 27 p1.toNatClampNeg)).bind fun r5 =>
if r5 = 0 then (
some 0)
else (
some 1)))))
set_option maxHeartbeats 4000000 in
set_option maxRecDepth 100000 in
theorem kX8_isBox (l : Launch) (D : va_G) (y : Nat → ClassId) (a t : Nat → Nat) (hI : AI a 30) (sz : Nat) (σ : St) (p1 : Int32) (r : Int32) (hm : mX8_isBox σ p1 = some r) : Met l yX8_isBox zX8_isBox { frames := 1, cells := 0, slots := 0, locals := 22 } (va_Pc [.ref (a 0), .int p1] (preW (wM y a) a 30 D y t σ sz)) (va_Qi (fun r' u => r' = r ∧ u = σ) (posW (wM y a) D) (AC a 30 sz)) 0 0 (AC a 30 sz) := by
  refine Met.ofW (cc := cX8_isBox) (maxL := 2) (ret := (some .boolean)) (by decide) rfl ?_
  intro p e s m args below meth c s₁ B hml hv
  obtain ⟨rfl, hsz, hP, hK, hF⟩ := hv
  have hx := B.exec
  have hb := B.bytes
  have hr := B.returns
  have hts := atoms_spec (ws := zX8_isBox) B.pre
  have hown : s.vm.findClass RX8 = some m.cls := findClass_of_methodNamed B.named
  have hlocks := B.notSynchronized
  subst hsz
  have l_f202 := hts _ (List.mem_cons_of_mem _ aF_X8_202)
  have l_f55 := hts _ (List.mem_cons_of_mem _ aF_X8_55)
  have l_f58 := hts _ (List.mem_cons_of_mem _ aF_X8_58)
  have h_X8 : ∀ w ∈ wsX80, w.before _ s = true := fun w hw => hts w (List.mem_cons_of_mem _ (hwX8 w hw))
  have hS : va_S (AC a 30 s.heap.size) s.heap s.heap [] := va_S.rf
  have hl := lv_entry ([.ref (a 0), .int p1]) (n := 2) (Nat.le_of_ble_eq_true rfl)
  rw [lg_entry_eq]
  generalize (lg_sl ([.ref (a 0), .int p1]) ++ List.replicate (2 - (lg_sl ([.ref (a 0), .int p1])).length) Slot.unset).toArray = ls at hl ⊢
  have hl : lv_has ls 2 [(0, .ref (a 0)), (1, .int p1)] := hl
  unfold mX8_isBox at hm
  refine lv_iload_n hx hb dX8_isBox_0 rfl (lv_at hl 1 rfl) ?_
  refine lv_iconst (v := 0) hx hb dX8_isBox_1 (by decide) ?_
  refine lv_aload_n hx hb dX8_isBox_2 rfl (lv_at hl 0 rfl) ?_
  refine gfX8_boxes hx hb h_X8 hown hK hP l_f202 dX8_isBox_3 ?_
  refine lv_iconst (v := 1) hx hb dX8_isBox_6 (by decide) ?_
  refine lv_isub hx hb dX8_isBox_7 ?_
  obtain ⟨r1, h2, hm⟩ := ok_bind hm
  refine calS_i (As := [.int p1, .int 0, .int ((σ.1 7 0) - 1)]) (rest := []) ⟨hx, hb, hml, hown, hts⟩ (kX8_isIn l D y a t hI _ σ p1 0 ((σ.1 7 0) - 1) r1 h2) (va_cwS 3 hts (gAS aM_X8_112 aT_X8_isIn aN_X8 aC_X8_isIn) rfl rfl rfl eX8_isIn ⟨Nat.le_of_ble_eq_true rfl, Nat.le_of_ble_eq_true rfl⟩) (preS_W hK hP hF hS) rfl hl.1 rfl (Nat.le_of_ble_eq_true rfl) dX8_isBox_8 ⟨Nat.zero_le _, Nat.zero_le _⟩ hS (AC_le hS.1) (fun H locs hP hS hk1 => ?_)
  refine lv_if_eq (tgt := 41) hx hb dX8_isBox_11 (by decide) (fun c3 => ?_) (fun c3 => ?_)
  · have hm := (if_pos c3).symm.trans hm
    refine lv_iconst (v := 0) hx hb dX8_isBox_41 (by decide) ?_
    exact W.zret (v := 0) hx hb hr rfl (fun T hT hW => ⟨⟨0, σ, rfl, ⟨Option.some.inj hm, rfl⟩, by rw [posW, hT]; exact hP⟩, hS.F hT⟩) hS.2.2 dX8_isBox_42
  · have hm := (if_neg c3).symm.trans hm
    refine lv_aload_n hx hb dX8_isBox_14 rfl (lv_at hl 0 rfl) ?_
    refine gfX8_ends hx hb h_X8 hown hK hP l_f55 dX8_isBox_15 ?_
    refine lv_iload_n hx hb dX8_isBox_18 rfl (lv_at hl 1 rfl) ?_
    obtain ⟨hi, hm⟩ := ok_I hm
    refine ldM_14 hx hb hK hP hi dX8_isBox_19 ?_
    refine lv_iconst (v := (-1)) hx hb dX8_isBox_20 (by decide) ?_
    refine lv_icmp_eq (tgt := 41) hx hb dX8_isBox_21 (by decide) (fun c4 => ?_) (fun c4 => ?_)
    · have hm := (if_pos c4).symm.trans hm
      refine lv_iconst (v := 0) hx hb dX8_isBox_41 (by decide) ?_
      exact W.zret (v := 0) hx hb hr rfl (fun T hT hW => ⟨⟨0, σ, rfl, ⟨Option.some.inj hm, rfl⟩, by rw [posW, hT]; exact hP⟩, hS.F hT⟩) hS.2.2 dX8_isBox_42
    · have hm := (if_neg c4).symm.trans hm
      refine lv_aload_n hx hb dX8_isBox_24 rfl (lv_at hl 0 rfl) ?_
      refine lv_aload_n hx hb dX8_isBox_25 rfl (lv_at hl 0 rfl) ?_
      refine gfX8_outer hx hb h_X8 hown hK hP l_f58 dX8_isBox_26 ?_
      refine lv_iload_n hx hb dX8_isBox_29 rfl (lv_at hl 1 rfl) ?_
      obtain ⟨hi, hm⟩ := ok_I hm
      refine ldM_15 hx hb hK hP hi dX8_isBox_30 ?_
      obtain ⟨r5, h6, hm⟩ := ok_bind hm
      refine calV_i (As := [.int (σ.1 27 p1.toNatClampNeg)]) (rest := []) ⟨hx, hb, hml, hown, hts⟩ (kX8_areOpen l D y a t hI _ σ (σ.1 27 p1.toNatClampNeg) r5 h6) (cwV 1 hts (gAV aM_X8_221 aI_X8_areOpen aS_X8_areOpen aN_X8 aC_X8_areOpen) rfl rfl rfl eX8_areOpen ⟨Nat.le_of_ble_eq_true rfl, Nat.le_of_ble_eq_true rfl⟩) (preV_W (ci := 8) (q := (RX8, TX8, 42)) hK hP hF hS rfl (wM_0 y a σ)) rfl hl.1 rfl (Nat.le_of_ble_eq_true rfl) dX8_isBox_31 ⟨Nat.zero_le _, Nat.zero_le _⟩ hS (AC_le hS.1) (fun H locs hP hS hk1 => ?_)
      refine lv_if_eq (tgt := 41) hx hb dX8_isBox_34 (by decide) (fun c7 => ?_) (fun c7 => ?_)
      · have hm := (if_pos c7).symm.trans hm
        refine lv_iconst (v := 0) hx hb dX8_isBox_41 (by decide) ?_
        exact W.zret (v := 0) hx hb hr rfl (fun T hT hW => ⟨⟨0, σ, rfl, ⟨Option.some.inj hm, rfl⟩, by rw [posW, hT]; exact hP⟩, hS.F hT⟩) hS.2.2 dX8_isBox_42
      · have hm := (if_neg c7).symm.trans hm
        refine lv_iconst (v := 1) hx hb dX8_isBox_37 (by decide) ?_
        refine lv_goto (tgt := 42) hx hb dX8_isBox_38 (by decide) ?_
        exact W.zret (v := 1) hx hb hr rfl (fun T hT hW => ⟨⟨1, σ, rfl, ⟨Option.some.inj hm, rfl⟩, by rw [posW, hT]; exact hP⟩, hS.F hT⟩) hS.2.2 dX8_isBox_42
theorem eX8_needs : yX8_needs.cls = RX8 ∧ yX8_needs.cls ≠ "java/lang/invoke/MethodHandle" ∧ yX8_needs.cls ≠ "java/lang/invoke/VarHandle" ∧ (parseMethodDescriptor yX8_needs.desc).map (fun d => d.parameters.length) = some 2 := by decide +kernel
def mX8_needs_46 (σ : St) (v1 : Int32) (v2 : Int32) (v3 : Int32) : Option Int32 :=
chkI v1 16 (
if (σ.1 30 v1.toNatClampNeg) ≤ 1 then (
some ((v3 + v2) + 0))
else (
some ((v3 + v2) + 1)))
def mX8_needs (σ : St) (p1 : Int32) (p2 : Int32) : Option Int32 :=
if 13 ≤ p1 then (
(mX8_isIn σ p2 0 ((σ.1 10 0) - 1)).bind fun r6 =>
if r6 = 0 then (
some 300)
else (
chkI p2 16 (
if (σ.1 30 p2.toNatClampNeg) ≤ 0 then (
mX8_needs_46 σ p2 0 300)
else (
mX8_needs_46 σ p2 10 300))))
else (
chkI p1 13 (
some (kNEEDS p1.toNatClampNeg)))
set_option maxHeartbeats 4000000 in
set_option maxRecDepth 100000 in
theorem kX8_needs (l : Launch) (D : va_G) (y : Nat → ClassId) (a t : Nat → Nat) (hI : AI a 30) (sz : Nat) (σ : St) (p1 : Int32) (p2 : Int32) (r : Int32) (hm : mX8_needs σ p1 p2 = some r) : Met l yX8_needs zX8_needs { frames := 1, cells := 0, slots := 0, locals := 22 } (va_Pc [.ref (a 0), .int p1, .int p2] (preW (wM y a) a 30 D y t σ sz)) (va_Qi (fun r' u => r' = r ∧ u = σ) (posW (wM y a) D) (AC a 30 sz)) 0 0 (AC a 30 sz) := by
  refine Met.ofW (cc := cX8_needs) (maxL := 3) (ret := (some .int)) (by decide) rfl ?_
  intro p e s m args below meth c s₁ B hml hv
  obtain ⟨rfl, hsz, hP, hK, hF⟩ := hv
  have hx := B.exec
  have hb := B.bytes
  have hr := B.returns
  have hts := atoms_spec (ws := zX8_needs) B.pre
  have hown : s.vm.findClass RX8 = some m.cls := findClass_of_methodNamed B.named
  have hlocks := B.notSynchronized
  subst hsz
  have l_f227 := hts _ (List.mem_cons_of_mem _ aF_X8_227)
  have l_f70 := hts _ (List.mem_cons_of_mem _ aF_X8_70)
  have l_f224 := hts _ (List.mem_cons_of_mem _ aF_X8_224)
  have h_X8 : ∀ w ∈ wsX80, w.before _ s = true := fun w hw => hts w (List.mem_cons_of_mem _ (hwX8 w hw))
  have hS : va_S (AC a 30 s.heap.size) s.heap s.heap [] := va_S.rf
  have hl := lv_entry ([.ref (a 0), .int p1, .int p2]) (n := 3) (Nat.le_of_ble_eq_true rfl)
  rw [lg_entry_eq]
  generalize (lg_sl ([.ref (a 0), .int p1, .int p2]) ++ List.replicate (3 - (lg_sl ([.ref (a 0), .int p1, .int p2])).length) Slot.unset).toArray = ls at hl ⊢
  have hl : lv_has ls 3 [(0, .ref (a 0)), (1, .int p1), (2, .int p2)] := hl
  have L_46 : ∀ (v1 : Int32) (v2 : Int32) (v3 : Int32) (H : Heap) (locs : List Loc) (ls : Array Slot), va_P D vwCl (wM y a σ) H → va_S (AC a 30 s.heap.size) s.heap H locs → lv_has ls 3 [(0, .ref (a 0)), (2, .int v1)] → mX8_needs_46 σ v1 v2 v3 = some r → W p l e (headSpec zX8_needs ({ frames := 1, cells := 0, slots := 0, locals := 22 })).room s m ([.ref (a 0), .int p1, .int p2] : List Value).toArray below meth c H locs 0 0 (MQ below (va_Qi (fun r' u => r' = r ∧ u = σ) (posW (wM y a) D) (AC a 30 s.heap.size)) ([.ref (a 0), .int p1, .int p2] : List Value).toArray s 0 0 (AC a 30 s.heap.size)) (F0 m 46 ls [.int v2, .int v3]) := by
    intro v1 v2 v3 H locs ls hP hS hl hm
    unfold mX8_needs_46 at hm
    refine lv_iadd hx hb dX8_needs_46 ?_
    refine lv_aload_n hx hb dX8_needs_47 rfl (lv_at hl 0 rfl) ?_
    refine gfX8_premises hx hb h_X8 hown hK hP l_f70 dX8_needs_48 ?_
    refine lv_iload_n hx hb dX8_needs_51 rfl (lv_at hl 1 rfl) ?_
    obtain ⟨hi, hm⟩ := ok_I hm
    refine ldM_18 hx hb hK hP hi dX8_needs_52 ?_
    refine lv_iconst (v := 1) hx hb dX8_needs_53 (by decide) ?_
    refine lv_icmp_le (tgt := 61) hx hb dX8_needs_54 (by decide) (fun c4 => ?_) (fun c4 => ?_)
    · have hm := (if_pos c4).symm.trans hm
      refine lv_iconst (v := 0) hx hb dX8_needs_61 (by decide) ?_
      refine lv_iadd hx hb dX8_needs_62 ?_
      refine lv_goto (tgt := 69) hx hb dX8_needs_63 (by decide) ?_
      exact W.iret (v := (v3 + v2) + 0) hx hb hr (fun T hT hW => ⟨⟨(v3 + v2) + 0, σ, rfl, ⟨Option.some.inj hm, rfl⟩, by rw [posW, hT]; exact hP⟩, hS.F hT⟩) hS.2.2 dX8_needs_69
    · have hm := (if_neg c4).symm.trans hm
      refine lv_iconst (v := 1) hx hb dX8_needs_57 (by decide) ?_
      refine lv_goto (tgt := 62) hx hb dX8_needs_58 (by decide) ?_
      refine lv_iadd hx hb dX8_needs_62 ?_
      refine lv_goto (tgt := 69) hx hb dX8_needs_63 (by decide) ?_
      exact W.iret (v := (v3 + v2) + 1) hx hb hr (fun T hT hW => ⟨⟨(v3 + v2) + 1, σ, rfl, ⟨Option.some.inj hm, rfl⟩, by rw [posW, hT]; exact hP⟩, hS.F hT⟩) hS.2.2 dX8_needs_69
  unfold mX8_needs at hm
  refine lv_iload_n hx hb dX8_needs_0 rfl (lv_at hl 1 rfl) ?_
  refine lv_bipush (v := 13) hx hb dX8_needs_1 (by decide) ?_
  refine lv_icmp_ge (tgt := 14) hx hb dX8_needs_3 (by decide) (fun c5 => ?_) (fun c5 => ?_)
  · have hm := (if_pos c5).symm.trans hm
    refine lv_iload_n hx hb dX8_needs_14 rfl (lv_at hl 2 rfl) ?_
    refine lv_iconst (v := 0) hx hb dX8_needs_15 (by decide) ?_
    refine lv_aload_n hx hb dX8_needs_16 rfl (lv_at hl 0 rfl) ?_
    refine gfX8_theorems hx hb h_X8 hown hK hP l_f227 dX8_needs_17 ?_
    refine lv_iconst (v := 1) hx hb dX8_needs_20 (by decide) ?_
    refine lv_isub hx hb dX8_needs_21 ?_
    obtain ⟨r6, h7, hm⟩ := ok_bind hm
    refine calS_i (As := [.int p2, .int 0, .int ((σ.1 10 0) - 1)]) (rest := []) ⟨hx, hb, hml, hown, hts⟩ (kX8_isIn l D y a t hI _ σ p2 0 ((σ.1 10 0) - 1) r6 h7) (va_cwS 3 hts (gAS aM_X8_112 aT_X8_isIn aN_X8 aC_X8_isIn) rfl rfl rfl eX8_isIn ⟨Nat.le_of_ble_eq_true rfl, Nat.le_of_ble_eq_true rfl⟩) (preS_W hK hP hF hS) rfl hl.1 rfl (Nat.le_of_ble_eq_true rfl) dX8_needs_22 ⟨Nat.zero_le _, Nat.zero_le _⟩ hS (AC_le hS.1) (fun H locs hP hS hk1 => ?_)
    refine lv_if_eq (tgt := 66) hx hb dX8_needs_25 (by decide) (fun c8 => ?_) (fun c8 => ?_)
    · have hm := (if_pos c8).symm.trans hm
      refine lv_sipush (v := 300) hx hb dX8_needs_66 (by decide) ?_
      exact W.iret (v := 300) hx hb hr (fun T hT hW => ⟨⟨300, σ, rfl, ⟨Option.some.inj hm, rfl⟩, by rw [posW, hT]; exact hP⟩, hS.F hT⟩) hS.2.2 dX8_needs_69
    · have hm := (if_neg c8).symm.trans hm
      refine lv_sipush (v := 300) hx hb dX8_needs_28 (by decide) ?_
      refine lv_aload_n hx hb dX8_needs_31 rfl (lv_at hl 0 rfl) ?_
      refine gfX8_premises hx hb h_X8 hown hK hP l_f70 dX8_needs_32 ?_
      refine lv_iload_n hx hb dX8_needs_35 rfl (lv_at hl 2 rfl) ?_
      obtain ⟨hi, hm⟩ := ok_I hm
      refine ldM_18 hx hb hK hP hi dX8_needs_36 ?_
      refine lv_if_le (tgt := 45) hx hb dX8_needs_37 (by decide) (fun c9 => ?_) (fun c9 => ?_)
      · have hm := (if_pos c9).symm.trans hm
        refine lv_iconst (v := 0) hx hb dX8_needs_45 (by decide) ?_
        exact L_46 p2 0 300 _ _ _ hP hS (lv_sub hl [0, 2] rfl) hm
      · have hm := (if_neg c9).symm.trans hm
        refine lv_bipush (v := 10) hx hb dX8_needs_40 (by decide) ?_
        refine lv_goto (tgt := 46) hx hb dX8_needs_42 (by decide) ?_
        exact L_46 p2 10 300 _ _ _ hP hS (lv_sub hl [0, 2] rfl) hm
  · have hm := (if_neg c5).symm.trans hm
    refine va_gets hx hb hF.2.2.2.2.1 hS hown l_f224 (fun _ h9 => h9) dX8_needs_6 ?_
    refine lv_iload_n hx hb dX8_needs_9 rfl (lv_at hl 1 rfl) ?_
    obtain ⟨hi, hm⟩ := ok_I hm
    refine va_ti hx hb hF.2.2.2.2.2.1 hS hi rfl dX8_needs_10 ?_
    refine lv_goto (tgt := 69) hx hb dX8_needs_11 (by decide) ?_
    exact W.iret (v := kNEEDS p1.toNatClampNeg) hx hb hr (fun T hT hW => ⟨⟨kNEEDS p1.toNatClampNeg, σ, rfl, ⟨Option.some.inj hm, rfl⟩, by rw [posW, hT]; exact hP⟩, hS.F hT⟩) hS.2.2 dX8_needs_69
theorem eX8_isReference : yX8_isReference.cls = RX8 ∧ yX8_isReference.cls ≠ "java/lang/invoke/MethodHandle" ∧ yX8_isReference.cls ≠ "java/lang/invoke/VarHandle" ∧ (parseMethodDescriptor yX8_isReference.desc).map (fun d => d.parameters.length) = some 2 := by decide +kernel
def mX8_isReference (σ : St) (p1 : Int32) (p2 : Int32) : Option Int32 :=
if p1 = 0 then (
some 1)
else (
if p1 = 1 then (
(mX8_isLine σ p2).bind fun r10 =>
if r10 = 0 then (
some 0)
else (
some 1))
else (
if p1 = 2 then (
(mX8_isBox σ p2).bind fun r7 =>
if r7 = 0 then (
some 0)
else (
some 1))
else (
(mX8_isIn σ p2 0 ((σ.1 10 0) - 1)).bind fun r4 =>
if r4 = 0 then (
some 0)
else (
some 1))))
set_option maxHeartbeats 4000000 in
set_option maxRecDepth 100000 in
theorem kX8_isReference (l : Launch) (D : va_G) (y : Nat → ClassId) (a t : Nat → Nat) (hI : AI a 30) (sz : Nat) (σ : St) (p1 : Int32) (p2 : Int32) (r : Int32) (hm : mX8_isReference σ p1 p2 = some r) : Met l yX8_isReference zX8_isReference { frames := 2, cells := 0, slots := 0, locals := 43 } (va_Pc [.ref (a 0), .int p1, .int p2] (preW (wM y a) a 30 D y t σ sz)) (va_Qi (fun r' u => r' = r ∧ u = σ) (posW (wM y a) D) (AC a 30 sz)) 0 0 (AC a 30 sz) := by
  refine Met.ofW (cc := cX8_isReference) (maxL := 3) (ret := (some .boolean)) (by decide) rfl ?_
  intro p e s m args below meth c s₁ B hml hv
  obtain ⟨rfl, hsz, hP, hK, hF⟩ := hv
  have hx := B.exec
  have hb := B.bytes
  have hr := B.returns
  have hts := atoms_spec (ws := zX8_isReference) B.pre
  have hown : s.vm.findClass RX8 = some m.cls := findClass_of_methodNamed B.named
  have hlocks := B.notSynchronized
  subst hsz
  have l_f227 := hts _ (List.mem_cons_of_mem _ aF_X8_227)
  have h_X8 : ∀ w ∈ wsX80, w.before _ s = true := fun w hw => hts w (List.mem_cons_of_mem _ (hwX8 w hw))
  have hS : va_S (AC a 30 s.heap.size) s.heap s.heap [] := va_S.rf
  have hl := lv_entry ([.ref (a 0), .int p1, .int p2]) (n := 3) (Nat.le_of_ble_eq_true rfl)
  rw [lg_entry_eq]
  generalize (lg_sl ([.ref (a 0), .int p1, .int p2]) ++ List.replicate (3 - (lg_sl ([.ref (a 0), .int p1, .int p2])).length) Slot.unset).toArray = ls at hl ⊢
  have hl : lv_has ls 3 [(0, .ref (a 0)), (1, .int p1), (2, .int p2)] := hl
  unfold mX8_isReference at hm
  refine lv_iload_n hx hb dX8_isReference_0 rfl (lv_at hl 1 rfl) ?_
  refine lv_if_eq (tgt := 50) hx hb dX8_isReference_1 (by decide) (fun c1 => ?_) (fun c1 => ?_)
  · have hm := (if_pos c1).symm.trans hm
    refine lv_iconst (v := 1) hx hb dX8_isReference_50 (by decide) ?_
    refine lv_goto (tgt := 55) hx hb dX8_isReference_51 (by decide) ?_
    exact W.zret (v := 1) hx hb hr rfl (fun T hT hW => ⟨⟨1, σ, rfl, ⟨Option.some.inj hm, rfl⟩, by rw [posW, hT]; exact hP⟩, hS.F hT⟩) hS.2.2 dX8_isReference_55
  · have hm := (if_neg c1).symm.trans hm
    refine lv_iload_n hx hb dX8_isReference_4 rfl (lv_at hl 1 rfl) ?_
    refine lv_iconst (v := 1) hx hb dX8_isReference_5 (by decide) ?_
    refine lv_icmp_ne (tgt := 20) hx hb dX8_isReference_6 (by decide) (fun c2 => ?_) (fun c2 => ?_)
    · have hm := (if_neg c2).symm.trans hm
      refine lv_iload_n hx hb dX8_isReference_20 rfl (lv_at hl 1 rfl) ?_
      refine lv_iconst (v := 2) hx hb dX8_isReference_21 (by decide) ?_
      refine lv_icmp_ne (tgt := 36) hx hb dX8_isReference_22 (by decide) (fun c3 => ?_) (fun c3 => ?_)
      · have hm := (if_neg c3).symm.trans hm
        refine lv_iload_n hx hb dX8_isReference_36 rfl (lv_at hl 2 rfl) ?_
        refine lv_iconst (v := 0) hx hb dX8_isReference_37 (by decide) ?_
        refine lv_aload_n hx hb dX8_isReference_38 rfl (lv_at hl 0 rfl) ?_
        refine gfX8_theorems hx hb h_X8 hown hK hP l_f227 dX8_isReference_39 ?_
        refine lv_iconst (v := 1) hx hb dX8_isReference_42 (by decide) ?_
        refine lv_isub hx hb dX8_isReference_43 ?_
        obtain ⟨r4, h5, hm⟩ := ok_bind hm
        refine calS_i (As := [.int p2, .int 0, .int ((σ.1 10 0) - 1)]) (rest := []) ⟨hx, hb, hml, hown, hts⟩ (kX8_isIn l D y a t hI _ σ p2 0 ((σ.1 10 0) - 1) r4 h5) (va_cwS 3 hts (gAS aM_X8_112 aT_X8_isIn aN_X8 aC_X8_isIn) rfl rfl rfl eX8_isIn ⟨Nat.le_of_ble_eq_true rfl, Nat.le_of_ble_eq_true rfl⟩) (preS_W hK hP hF hS) rfl hl.1 rfl (Nat.le_of_ble_eq_true rfl) dX8_isReference_44 ⟨Nat.zero_le _, Nat.zero_le _⟩ hS (AC_le hS.1) (fun H locs hP hS hk1 => ?_)
        refine lv_if_eq (tgt := 54) hx hb dX8_isReference_47 (by decide) (fun c6 => ?_) (fun c6 => ?_)
        · have hm := (if_pos c6).symm.trans hm
          refine lv_iconst (v := 0) hx hb dX8_isReference_54 (by decide) ?_
          exact W.zret (v := 0) hx hb hr rfl (fun T hT hW => ⟨⟨0, σ, rfl, ⟨Option.some.inj hm, rfl⟩, by rw [posW, hT]; exact hP⟩, hS.F hT⟩) hS.2.2 dX8_isReference_55
        · have hm := (if_neg c6).symm.trans hm
          refine lv_iconst (v := 1) hx hb dX8_isReference_50 (by decide) ?_
          refine lv_goto (tgt := 55) hx hb dX8_isReference_51 (by decide) ?_
          exact W.zret (v := 1) hx hb hr rfl (fun T hT hW => ⟨⟨1, σ, rfl, ⟨Option.some.inj hm, rfl⟩, by rw [posW, hT]; exact hP⟩, hS.F hT⟩) hS.2.2 dX8_isReference_55
      · have hm := (if_pos c3).symm.trans hm
        refine lv_aload_n hx hb dX8_isReference_25 rfl (lv_at hl 0 rfl) ?_
        refine lv_iload_n hx hb dX8_isReference_26 rfl (lv_at hl 2 rfl) ?_
        obtain ⟨r7, h8, hm⟩ := ok_bind hm
        refine calV_i (As := [.int p2]) (rest := []) ⟨hx, hb, hml, hown, hts⟩ (kX8_isBox l D y a t hI _ σ p2 r7 h8) (cwV 1 hts (gAV aM_X8_233 aI_X8_isBox aS_X8_isBox aN_X8 aC_X8_isBox) rfl rfl rfl eX8_isBox ⟨Nat.le_of_ble_eq_true rfl, Nat.le_of_ble_eq_true rfl⟩) (preV_W (ci := 8) (q := (RX8, TX8, 42)) hK hP hF hS rfl (wM_0 y a σ)) rfl hl.1 rfl (Nat.le_of_ble_eq_true rfl) dX8_isReference_27 ⟨Nat.zero_le _, Nat.zero_le _⟩ hS (AC_le hS.1) (fun H locs hP hS hk1 => ?_)
        refine lv_if_eq (tgt := 54) hx hb dX8_isReference_30 (by decide) (fun c9 => ?_) (fun c9 => ?_)
        · have hm := (if_pos c9).symm.trans hm
          refine lv_iconst (v := 0) hx hb dX8_isReference_54 (by decide) ?_
          exact W.zret (v := 0) hx hb hr rfl (fun T hT hW => ⟨⟨0, σ, rfl, ⟨Option.some.inj hm, rfl⟩, by rw [posW, hT]; exact hP⟩, hS.F hT⟩) hS.2.2 dX8_isReference_55
        · have hm := (if_neg c9).symm.trans hm
          refine lv_goto (tgt := 50) hx hb dX8_isReference_33 (by decide) ?_
          refine lv_iconst (v := 1) hx hb dX8_isReference_50 (by decide) ?_
          refine lv_goto (tgt := 55) hx hb dX8_isReference_51 (by decide) ?_
          exact W.zret (v := 1) hx hb hr rfl (fun T hT hW => ⟨⟨1, σ, rfl, ⟨Option.some.inj hm, rfl⟩, by rw [posW, hT]; exact hP⟩, hS.F hT⟩) hS.2.2 dX8_isReference_55
    · have hm := (if_pos c2).symm.trans hm
      refine lv_aload_n hx hb dX8_isReference_9 rfl (lv_at hl 0 rfl) ?_
      refine lv_iload_n hx hb dX8_isReference_10 rfl (lv_at hl 2 rfl) ?_
      obtain ⟨r10, h11, hm⟩ := ok_bind hm
      refine calV_i (As := [.int p2]) (rest := []) ⟨hx, hb, hml, hown, hts⟩ (kX8_isLine l D y a t hI _ σ p2 r10 h11) (cwV 1 hts (gAV aM_X8_230 aI_X8_isLine aS_X8_isLine aN_X8 aC_X8_isLine) rfl rfl rfl eX8_isLine ⟨Nat.le_of_ble_eq_true rfl, Nat.le_of_ble_eq_true rfl⟩) (preV_W (ci := 8) (q := (RX8, TX8, 42)) hK hP hF hS rfl (wM_0 y a σ)) rfl hl.1 rfl (Nat.le_of_ble_eq_true rfl) dX8_isReference_11 ⟨Nat.zero_le _, Nat.zero_le _⟩ hS (AC_le hS.1) (fun H locs hP hS hk1 => ?_)
      refine lv_if_eq (tgt := 54) hx hb dX8_isReference_14 (by decide) (fun c12 => ?_) (fun c12 => ?_)
      · have hm := (if_pos c12).symm.trans hm
        refine lv_iconst (v := 0) hx hb dX8_isReference_54 (by decide) ?_
        exact W.zret (v := 0) hx hb hr rfl (fun T hT hW => ⟨⟨0, σ, rfl, ⟨Option.some.inj hm, rfl⟩, by rw [posW, hT]; exact hP⟩, hS.F hT⟩) hS.2.2 dX8_isReference_55
      · have hm := (if_neg c12).symm.trans hm
        refine lv_goto (tgt := 50) hx hb dX8_isReference_17 (by decide) ?_
        refine lv_iconst (v := 1) hx hb dX8_isReference_50 (by decide) ?_
        refine lv_goto (tgt := 55) hx hb dX8_isReference_51 (by decide) ?_
        exact W.zret (v := 1) hx hb hr rfl (fun T hT hW => ⟨⟨1, σ, rfl, ⟨Option.some.inj hm, rfl⟩, by rw [posW, hT]; exact hP⟩, hS.F hT⟩) hS.2.2 dX8_isReference_55
theorem eX8_clearStands : yX8_clearStands.cls = RX8 ∧ yX8_clearStands.cls ≠ "java/lang/invoke/MethodHandle" ∧ yX8_clearStands.cls ≠ "java/lang/invoke/VarHandle" ∧ (parseMethodDescriptor yX8_clearStands.desc).map (fun d => d.parameters.length) = some 0 := by decide +kernel
def bX8_clearStands_2 (kh2 : St → Int32 → Option St) (s2 : St) (v1 : Int32) : Option St :=
if (s2.1 5 0) ≤ v1 then (
some s2)
else (
chkI v1 240 (
bnd (su s2 39 (upd (s2.1 39) v1.toNatClampNeg (-1))) fun s4 =>
bnd (v1 + 1) fun x5 =>
kh2 s4 x5))
abbrev mX8_clearStands_2 (n : Nat) : St → Int32 → Option St := fx (fun _ _ => none) (bX8_clearStands_2) n
def mX8_clearStands (σ : St) : Option St :=
mX8_clearStands_2 NF σ 0
set_option maxHeartbeats 4000000 in
set_option maxRecDepth 100000 in
theorem kX8_clearStands (l : Launch) (D : va_G) (y : Nat → ClassId) (a t : Nat → Nat) (hI : AI a 30) (sz : Nat) (σ τ : St) (hm : mX8_clearStands σ = some τ) : Met l yX8_clearStands zX8_clearStands { frames := 0, cells := 0, slots := 0, locals := 0 } (va_Pc [.ref (a 0)] (preW (wM y a) a 30 D y t σ sz)) (va_Qv (fun u => u = τ) (posW (wM y a) D) (AC a 30 sz)) 0 0 (AC a 30 sz) := by
  refine Met.ofW (cc := cX8_clearStands) (maxL := 2) (ret := none) (by decide) rfl ?_
  intro p e s m args below meth c s₁ B hml hv
  obtain ⟨rfl, hsz, hP, hK, hF⟩ := hv
  have hx := B.exec
  have hb := B.bytes
  have hr := B.returns
  have hts := atoms_spec (ws := zX8_clearStands) B.pre
  have hown : s.vm.findClass RX8 = some m.cls := findClass_of_methodNamed B.named
  have hlocks := B.notSynchronized
  subst hsz
  have l_f109 := hts _ (List.mem_cons_of_mem _ aF_X8_109)
  have l_f97 := hts _ (List.mem_cons_of_mem _ aF_X8_97)
  have h_X8 : ∀ w ∈ wsX80, w.before _ s = true := fun w hw => hts w (List.mem_cons_of_mem _ (hwX8 w hw))
  have hS : va_S (AC a 30 s.heap.size) s.heap s.heap [] := va_S.rf
  have hl := lv_entry ([.ref (a 0)]) (n := 2) (Nat.le_of_ble_eq_true rfl)
  rw [lg_entry_eq]
  generalize (lg_sl ([.ref (a 0)]) ++ List.replicate (2 - (lg_sl ([.ref (a 0)])).length) Slot.unset).toArray = ls at hl ⊢
  have hl : lv_has ls 2 [(0, .ref (a 0))] := hl
  have L_2 : ∀ (n : Nat) (s2 : St) (v1 : Int32) (H : Heap) (locs : List Loc) (ls : Array Slot), va_P D vwCl (wM y a s2) H → va_S (AC a 30 s.heap.size) s.heap H locs → lv_has ls 2 [(0, .ref (a 0)), (1, .int v1)] → mX8_clearStands_2 n s2 v1 = some τ → W p l e (headSpec zX8_clearStands ({ frames := 0, cells := 0, slots := 0, locals := 0 })).room s m ([.ref (a 0)] : List Value).toArray below meth c H locs 0 0 (MQ below (va_Qv (fun u => u = τ) (posW (wM y a) D) (AC a 30 s.heap.size)) ([.ref (a 0)] : List Value).toArray s 0 0 (AC a 30 s.heap.size)) (F0 m 2 ls []) := by
    intro n
    induction n with
    | zero =>
      intro s2 v1 H locs ls hP hS hl hm
      exact absurd (show (none : Option St) = some τ from hm) (by intro h; cases h)
    | succ n ih2 =>
      obtain ⟨kh2, ekh2⟩ : ∃ z, z = mX8_clearStands_2 n := ⟨_, rfl⟩
      have ih2 : ∀ (s2 : St) (v1 : Int32) (H : Heap) (locs : List Loc) (ls : Array Slot), va_P D vwCl (wM y a s2) H → va_S (AC a 30 s.heap.size) s.heap H locs → lv_has ls 2 [(0, .ref (a 0)), (1, .int v1)] → kh2 s2 v1 = some τ → W p l e (headSpec zX8_clearStands ({ frames := 0, cells := 0, slots := 0, locals := 0 })).room s m ([.ref (a 0)] : List Value).toArray below meth c H locs 0 0 (MQ below (va_Qv (fun u => u = τ) (posW (wM y a) D) (AC a 30 s.heap.size)) ([.ref (a 0)] : List Value).toArray s 0 0 (AC a 30 s.heap.size)) (F0 m 2 ls []) := by rw [ekh2]; exact ih2
      intro s2 v1 H locs ls hP hS hl hm
      have hm : bX8_clearStands_2 (mX8_clearStands_2 n) s2 v1 = some τ := hm
      rw [← ekh2] at hm
      unfold bX8_clearStands_2 at hm
      refine lv_iload_n hx hb dX8_clearStands_2 rfl (lv_at hl 1 rfl) ?_
      refine lv_aload_n hx hb dX8_clearStands_3 rfl (lv_at hl 0 rfl) ?_
      refine gfX8_formulas hx hb h_X8 hown hK hP l_f109 dX8_clearStands_4 ?_
      refine lv_icmp_ge (tgt := 23) hx hb dX8_clearStands_7 (by decide) (fun c3 => ?_) (fun c3 => ?_)
      · have hm := (if_pos c3).symm.trans hm
        exact W.vret hx hb hr (fun T hT hW => ⟨⟨s2, rfl, Option.some.inj hm, by rw [posW, hT]; exact hP⟩, hS.F hT⟩) hS.2.2 dX8_clearStands_23
      · have hm := (if_neg c3).symm.trans hm
        refine lv_aload_n hx hb dX8_clearStands_10 rfl (lv_at hl 0 rfl) ?_
        refine gfX8_stands hx hb h_X8 hown hK hP l_f97 dX8_clearStands_11 ?_
        refine lv_iload_n hx hb dX8_clearStands_14 rfl (lv_at hl 1 rfl) ?_
        refine lv_iconst (v := (-1)) hx hb dX8_clearStands_15 (by decide) ?_
        obtain ⟨hi, hm⟩ := ok_I hm
        refine stM_27 hx hb hK hP hI AC_in hS hi dX8_clearStands_16 (fun H locs hP hS => ?_)
        generalize es4 : su s2 39 (upd (s2.1 39) v1.toNatClampNeg (-1)) = s4 at hP
        have hm := bnd_x es4.symm hm
        obtain ⟨x5, ex5⟩ : ∃ z : Int32, z = v1 + 1 := ⟨_, rfl⟩
        have hm := bnd_x ex5 hm
        refine lv_iinc (v := x5) (lv' := [(1, .int x5), (0, .ref (a 0))]) hx hb dX8_clearStands_17 hl (k := 1) rfl (by rw [ex5]; rfl) (by decide) rfl (fun ls hl => ?_)
        refine lv_goto (tgt := 2) hx hb dX8_clearStands_20 (by decide) ?_
        exact ih2 s4 x5 _ _ _ hP hS (lv_sub hl [1, 0] rfl) hm
  unfold mX8_clearStands at hm
  refine lv_iconst (v := 0) hx hb dX8_clearStands_0 (by decide) ?_
  refine lv_istore_n (lv' := [(1, .int 0), (0, .ref (a 0))]) hx hb dX8_clearStands_1 rfl hl (by decide) rfl (fun ls hl => ?_)
  exact L_2 NF σ 0 _ _ _ hP hS (lv_sub hl [1, 0] rfl) hm
theorem eX8_becomes : yX8_becomes.cls = RX8 ∧ yX8_becomes.cls ≠ "java/lang/invoke/MethodHandle" ∧ yX8_becomes.cls ≠ "java/lang/invoke/VarHandle" ∧ (parseMethodDescriptor yX8_becomes.desc).map (fun d => d.parameters.length) = some 2 := by decide +kernel
def mX8_becomes_113 (f_X8_becomes : St → Int32 → Int32 → Option (Int32 × St)) (s4 : St) (v1 : Int32) (v2 : Int32) (v3 : Int32) : Option (Int32 × St) :=
if v3 = 0 then (
chkZ v3 (some (v3, s4)))
else (
chkI v1 240 (
bnd (su s4 39 (upd (s4.1 39) v1.toNatClampNeg v2)) fun s6 =>
chkZ v3 (some (v3, s6))))
def mX8_becomes_108 (f_X8_becomes : St → Int32 → Int32 → Option (Int32 × St)) (s9 : St) (v7 : Int32) (v8 : Int32) : Option (Int32 × St) :=
mX8_becomes_113 f_X8_becomes s9 v7 v8 1
def mX8_becomes_112 (f_X8_becomes : St → Int32 → Int32 → Option (Int32 × St)) (s12 : St) (v10 : Int32) (v11 : Int32) : Option (Int32 × St) :=
mX8_becomes_113 f_X8_becomes s12 v10 v11 0
def bX8_becomes (f_X8_becomes : St → Int32 → Int32 → Option (Int32 × St)) (σ : St) (p1 : Int32) (p2 : Int32) : Option (Int32 × St) :=
chkI p1 240 (
if (σ.1 39 p1.toNatClampNeg) = (-1) then (
chkI p1 240 (
if (σ.1 15 p1.toNatClampNeg) = 0 then (
mX8_becomes_108 f_X8_becomes σ p1 p2)
else (
chkI p1 240 (
chkI p2 240 (
if (σ.1 15 p1.toNatClampNeg) = (σ.1 15 p2.toNatClampNeg) then (
chkI p1 240 (
if (σ.1 15 p1.toNatClampNeg) < 2 then (
mX8_becomes_108 f_X8_becomes σ p1 p2)
else (
chkI p1 240 (
chkI p2 240 (
(f_X8_becomes σ (σ.1 16 p1.toNatClampNeg) (σ.1 16 p2.toNatClampNeg)).bind fun ⟨r17, s19⟩ =>
if r17 = 0 then (
mX8_becomes_112 f_X8_becomes s19 p1 p2)
else (
chkI p1 240 (
if (s19.1 15 p1.toNatClampNeg) = 2 then (
mX8_becomes_108 f_X8_becomes s19 p1 p2)
else (
chkI p1 240 (
chkI p2 240 (
(f_X8_becomes s19 (s19.1 17 p1.toNatClampNeg) (s19.1 17 p2.toNatClampNeg)).bind fun ⟨r22, s24⟩ =>
if r22 = 0 then (
mX8_becomes_112 f_X8_becomes s24 p1 p2)
else (
mX8_becomes_108 f_X8_becomes s24 p1 p2)))))))))))
else (
mX8_becomes_112 f_X8_becomes σ p1 p2))))))
else (
chkI p1 240 (
if (σ.1 39 p1.toNatClampNeg) = p2 then (
some (1, σ))
else (
some (0, σ)))))
def gX8_becomes (d : Nat) : (St → Int32 → Int32 → Option (Int32 × St)) := fx (fun _ _ _ => none) (fun F => (bX8_becomes (F))) d
abbrev mX8_becomes : St → Int32 → Int32 → Option (Int32 × St) := (gX8_becomes 256)
set_option maxHeartbeats 4000000 in
set_option maxRecDepth 100000 in
theorem oX8_becomes (l : Launch) (D : va_G) (y : Nat → ClassId) (a t : Nat → Nat) (hI : AI a 30) (fr lo : Nat) (hfr : 0 ≤ fr) (hlo : 0 ≤ lo) (f_X8_becomes : St → Int32 → Int32 → Option (Int32 × St)) (c_X8_becomes : ∀ (sz : Nat) (σ τ : St) (p1 : Int32) (p2 : Int32) (r : Int32), f_X8_becomes σ p1 p2 = some (r, τ) → Met l yX8_becomes zX8_becomes { frames := fr, cells := 0, slots := 0, locals := lo } (va_Pc [.ref (a 0), .int p1, .int p2] (preW (wM y a) a 30 D y t σ sz)) (va_Qi (fun r' u => r' = r ∧ u = τ) (posW (wM y a) D) (AC a 30 sz)) 0 0 (AC a 30 sz)) (sz : Nat) (σ τ : St) (p1 : Int32) (p2 : Int32) (r : Int32) (hm : bX8_becomes f_X8_becomes σ p1 p2 = some (r, τ)) : Met l yX8_becomes zX8_becomes { frames := fr + 1, cells := 0, slots := 0, locals := lo + 23 } (va_Pc [.ref (a 0), .int p1, .int p2] (preW (wM y a) a 30 D y t σ sz)) (va_Qi (fun r' u => r' = r ∧ u = τ) (posW (wM y a) D) (AC a 30 sz)) 0 0 (AC a 30 sz) := by
  refine Met.ofW (cc := cX8_becomes) (maxL := 4) (ret := (some .boolean)) (by decide) rfl ?_
  intro p e s m args below meth c s₁ B hml hv
  obtain ⟨rfl, hsz, hP, hK, hF⟩ := hv
  have hx := B.exec
  have hb := B.bytes
  have hr := B.returns
  have hts := atoms_spec (ws := zX8_becomes) B.pre
  have hown : s.vm.findClass RX8 = some m.cls := findClass_of_methodNamed B.named
  have hlocks := B.notSynchronized
  subst hsz
  have l_f97 := hts _ (List.mem_cons_of_mem _ aF_X8_97)
  have l_f20 := hts _ (List.mem_cons_of_mem _ aF_X8_20)
  have l_f23 := hts _ (List.mem_cons_of_mem _ aF_X8_23)
  have l_f26 := hts _ (List.mem_cons_of_mem _ aF_X8_26)
  have h_X8 : ∀ w ∈ wsX80, w.before _ s = true := fun w hw => hts w (List.mem_cons_of_mem _ (hwX8 w hw))
  have hS : va_S (AC a 30 s.heap.size) s.heap s.heap [] := va_S.rf
  have hl := lv_entry ([.ref (a 0), .int p1, .int p2]) (n := 4) (Nat.le_of_ble_eq_true rfl)
  rw [lg_entry_eq]
  generalize (lg_sl ([.ref (a 0), .int p1, .int p2]) ++ List.replicate (4 - (lg_sl ([.ref (a 0), .int p1, .int p2])).length) Slot.unset).toArray = ls at hl ⊢
  have hl : lv_has ls 4 [(0, .ref (a 0)), (1, .int p1), (2, .int p2)] := hl
  have L_113 : ∀ (s4 : St) (v1 : Int32) (v2 : Int32) (v3 : Int32) (H : Heap) (locs : List Loc) (ls : Array Slot), va_P D vwCl (wM y a s4) H → va_S (AC a 30 s.heap.size) s.heap H locs → lv_has ls 4 [(0, .ref (a 0)), (1, .int v1), (2, .int v2)] → mX8_becomes_113 f_X8_becomes s4 v1 v2 v3 = some (r, τ) → W p l e (headSpec zX8_becomes ({ frames := fr + 1, cells := 0, slots := 0, locals := lo + 23 })).room s m ([.ref (a 0), .int p1, .int p2] : List Value).toArray below meth c H locs 0 0 (MQ below (va_Qi (fun r' u => r' = r ∧ u = τ) (posW (wM y a) D) (AC a 30 s.heap.size)) ([.ref (a 0), .int p1, .int p2] : List Value).toArray s 0 0 (AC a 30 s.heap.size)) (F0 m 113 ls [.int v3]) := by
    intro s4 v1 v2 v3 H locs ls hP hS hl hm
    unfold mX8_becomes_113 at hm
    refine lv_istore_n (lv' := [(3, .int v3), (0, .ref (a 0)), (1, .int v1), (2, .int v2)]) hx hb dX8_becomes_113 rfl hl (by decide) rfl (fun ls hl => ?_)
    refine lv_iload_n hx hb dX8_becomes_114 rfl (lv_at hl 0 rfl) ?_
    refine lv_if_eq (tgt := 125) hx hb dX8_becomes_115 (by decide) (fun c5 => ?_) (fun c5 => ?_)
    · have hm := (if_pos c5).symm.trans hm
      refine lv_iload_n hx hb dX8_becomes_125 rfl (lv_at hl 0 rfl) ?_
      obtain ⟨hz, hm⟩ := ok_Z hm
      exact W.zret (v := v3) hx hb hr hz (fun T hT hW => ⟨⟨v3, s4, rfl, ⟨congrArg Prod.fst (Option.some.inj hm), congrArg Prod.snd (Option.some.inj hm)⟩, by rw [posW, hT]; exact hP⟩, hS.F hT⟩) hS.2.2 dX8_becomes_126
    · have hm := (if_neg c5).symm.trans hm
      refine lv_aload_n hx hb dX8_becomes_118 rfl (lv_at hl 1 rfl) ?_
      refine gfX8_stands hx hb h_X8 hown hK hP l_f97 dX8_becomes_119 ?_
      refine lv_iload_n hx hb dX8_becomes_122 rfl (lv_at hl 2 rfl) ?_
      refine lv_iload_n hx hb dX8_becomes_123 rfl (lv_at hl 3 rfl) ?_
      obtain ⟨hi, hm⟩ := ok_I hm
      refine stM_27 hx hb hK hP hI AC_in hS hi dX8_becomes_124 (fun H locs hP hS => ?_)
      generalize es6 : su s4 39 (upd (s4.1 39) v1.toNatClampNeg v2) = s6 at hP
      have hm := bnd_x es6.symm hm
      refine lv_iload_n hx hb dX8_becomes_125 rfl (lv_at hl 0 rfl) ?_
      obtain ⟨hz, hm⟩ := ok_Z hm
      exact W.zret (v := v3) hx hb hr hz (fun T hT hW => ⟨⟨v3, s6, rfl, ⟨congrArg Prod.fst (Option.some.inj hm), congrArg Prod.snd (Option.some.inj hm)⟩, by rw [posW, hT]; exact hP⟩, hS.F hT⟩) hS.2.2 dX8_becomes_126
  have L_108 : ∀ (s9 : St) (v7 : Int32) (v8 : Int32) (H : Heap) (locs : List Loc) (ls : Array Slot), va_P D vwCl (wM y a s9) H → va_S (AC a 30 s.heap.size) s.heap H locs → lv_has ls 4 [(0, .ref (a 0)), (1, .int v7), (2, .int v8)] → mX8_becomes_108 f_X8_becomes s9 v7 v8 = some (r, τ) → W p l e (headSpec zX8_becomes ({ frames := fr + 1, cells := 0, slots := 0, locals := lo + 23 })).room s m ([.ref (a 0), .int p1, .int p2] : List Value).toArray below meth c H locs 0 0 (MQ below (va_Qi (fun r' u => r' = r ∧ u = τ) (posW (wM y a) D) (AC a 30 s.heap.size)) ([.ref (a 0), .int p1, .int p2] : List Value).toArray s 0 0 (AC a 30 s.heap.size)) (F0 m 108 ls []) := by
    intro s9 v7 v8 H locs ls hP hS hl hm
    unfold mX8_becomes_108 at hm
    refine lv_iconst (v := 1) hx hb dX8_becomes_108 (by decide) ?_
    refine lv_goto (tgt := 113) hx hb dX8_becomes_109 (by decide) ?_
    exact L_113 s9 v7 v8 1 _ _ _ hP hS (lv_sub hl [0, 1, 2] rfl) hm
  have L_112 : ∀ (s12 : St) (v10 : Int32) (v11 : Int32) (H : Heap) (locs : List Loc) (ls : Array Slot), va_P D vwCl (wM y a s12) H → va_S (AC a 30 s.heap.size) s.heap H locs → lv_has ls 4 [(0, .ref (a 0)), (1, .int v10), (2, .int v11)] → mX8_becomes_112 f_X8_becomes s12 v10 v11 = some (r, τ) → W p l e (headSpec zX8_becomes ({ frames := fr + 1, cells := 0, slots := 0, locals := lo + 23 })).room s m ([.ref (a 0), .int p1, .int p2] : List Value).toArray below meth c H locs 0 0 (MQ below (va_Qi (fun r' u => r' = r ∧ u = τ) (posW (wM y a) D) (AC a 30 s.heap.size)) ([.ref (a 0), .int p1, .int p2] : List Value).toArray s 0 0 (AC a 30 s.heap.size)) (F0 m 112 ls []) := by
    intro s12 v10 v11 H locs ls hP hS hl hm
    unfold mX8_becomes_112 at hm
    refine lv_iconst (v := 0) hx hb dX8_becomes_112 (by decide) ?_
    exact L_113 s12 v10 v11 0 _ _ _ hP hS (lv_sub hl [0, 1, 2] rfl) hm
  unfold bX8_becomes at hm
  refine lv_aload_n hx hb dX8_becomes_0 rfl (lv_at hl 0 rfl) ?_
  refine gfX8_stands hx hb h_X8 hown hK hP l_f97 dX8_becomes_1 ?_
  refine lv_iload_n hx hb dX8_becomes_4 rfl (lv_at hl 1 rfl) ?_
  obtain ⟨hi, hm⟩ := ok_I hm
  refine ldM_27 hx hb hK hP hi dX8_becomes_5 ?_
  refine lv_iconst (v := (-1)) hx hb dX8_becomes_6 (by decide) ?_
  refine lv_icmp_eq (tgt := 26) hx hb dX8_becomes_7 (by decide) (fun c13 => ?_) (fun c13 => ?_)
  · have hm := (if_pos c13).symm.trans hm
    refine lv_aload_n hx hb dX8_becomes_26 rfl (lv_at hl 0 rfl) ?_
    refine gfX8_sorts hx hb h_X8 hown hK hP l_f20 dX8_becomes_27 ?_
    refine lv_iload_n hx hb dX8_becomes_30 rfl (lv_at hl 1 rfl) ?_
    obtain ⟨hi, hm⟩ := ok_I hm
    refine ldM_3 hx hb hK hP hi dX8_becomes_31 ?_
    refine lv_if_eq (tgt := 108) hx hb dX8_becomes_32 (by decide) (fun c14 => ?_) (fun c14 => ?_)
    · have hm := (if_pos c14).symm.trans hm
      exact L_108 σ p1 p2 _ _ _ hP hS (lv_sub hl [0, 1, 2] rfl) hm
    · have hm := (if_neg c14).symm.trans hm
      refine lv_aload_n hx hb dX8_becomes_35 rfl (lv_at hl 0 rfl) ?_
      refine gfX8_sorts hx hb h_X8 hown hK hP l_f20 dX8_becomes_36 ?_
      refine lv_iload_n hx hb dX8_becomes_39 rfl (lv_at hl 1 rfl) ?_
      obtain ⟨hi, hm⟩ := ok_I hm
      refine ldM_3 hx hb hK hP hi dX8_becomes_40 ?_
      refine lv_aload_n hx hb dX8_becomes_41 rfl (lv_at hl 0 rfl) ?_
      refine gfX8_sorts hx hb h_X8 hown hK hP l_f20 dX8_becomes_42 ?_
      refine lv_iload_n hx hb dX8_becomes_45 rfl (lv_at hl 2 rfl) ?_
      obtain ⟨hi, hm⟩ := ok_I hm
      refine ldM_3 hx hb hK hP hi dX8_becomes_46 ?_
      refine lv_icmp_ne (tgt := 112) hx hb dX8_becomes_47 (by decide) (fun c15 => ?_) (fun c15 => ?_)
      · have hm := (if_neg c15).symm.trans hm
        exact L_112 σ p1 p2 _ _ _ hP hS (lv_sub hl [0, 1, 2] rfl) hm
      · have hm := (if_pos c15).symm.trans hm
        refine lv_aload_n hx hb dX8_becomes_50 rfl (lv_at hl 0 rfl) ?_
        refine gfX8_sorts hx hb h_X8 hown hK hP l_f20 dX8_becomes_51 ?_
        refine lv_iload_n hx hb dX8_becomes_54 rfl (lv_at hl 1 rfl) ?_
        obtain ⟨hi, hm⟩ := ok_I hm
        refine ldM_3 hx hb hK hP hi dX8_becomes_55 ?_
        refine lv_iconst (v := 2) hx hb dX8_becomes_56 (by decide) ?_
        refine lv_icmp_lt (tgt := 108) hx hb dX8_becomes_57 (by decide) (fun c16 => ?_) (fun c16 => ?_)
        · have hm := (if_pos c16).symm.trans hm
          exact L_108 σ p1 p2 _ _ _ hP hS (lv_sub hl [0, 1, 2] rfl) hm
        · have hm := (if_neg c16).symm.trans hm
          refine lv_aload_n hx hb dX8_becomes_60 rfl (lv_at hl 0 rfl) ?_
          refine lv_aload_n hx hb dX8_becomes_61 rfl (lv_at hl 0 rfl) ?_
          refine gfX8_firsts hx hb h_X8 hown hK hP l_f23 dX8_becomes_62 ?_
          refine lv_iload_n hx hb dX8_becomes_65 rfl (lv_at hl 1 rfl) ?_
          obtain ⟨hi, hm⟩ := ok_I hm
          refine ldM_4 hx hb hK hP hi dX8_becomes_66 ?_
          refine lv_aload_n hx hb dX8_becomes_67 rfl (lv_at hl 0 rfl) ?_
          refine gfX8_firsts hx hb h_X8 hown hK hP l_f23 dX8_becomes_68 ?_
          refine lv_iload_n hx hb dX8_becomes_71 rfl (lv_at hl 2 rfl) ?_
          obtain ⟨hi, hm⟩ := ok_I hm
          refine ldM_4 hx hb hK hP hi dX8_becomes_72 ?_
          obtain ⟨⟨r17, s19⟩, h18, hm⟩ := ok_bind hm
          refine calV_i (As := [.int (σ.1 16 p1.toNatClampNeg), .int (σ.1 16 p2.toNatClampNeg)]) (rest := []) ⟨hx, hb, hml, hown, hts⟩ (c_X8_becomes _ σ s19 (σ.1 16 p1.toNatClampNeg) (σ.1 16 p2.toNatClampNeg) r17 h18) (cwV 2 hts (gAV aM_X8_236 aI_X8_becomes aS_X8_becomes aN_X8 aC_X8_becomes) rfl rfl rfl eX8_becomes ⟨Nat.le_refl _, by show 8 + (4 + 11) + lo ≤ lo + 23; omega⟩) (preV_W (ci := 8) (q := (RX8, TX8, 42)) hK hP hF hS rfl (wM_0 y a σ)) rfl hl.1 rfl (Nat.le_of_ble_eq_true rfl) dX8_becomes_73 ⟨Nat.zero_le _, Nat.zero_le _⟩ hS (AC_le hS.1) (fun H locs hP hS hk1 => ?_)
          refine lv_if_eq (tgt := 112) hx hb dX8_becomes_76 (by decide) (fun c20 => ?_) (fun c20 => ?_)
          · have hm := (if_pos c20).symm.trans hm
            exact L_112 s19 p1 p2 _ _ _ hP hS (lv_sub hl [0, 1, 2] rfl) hm
          · have hm := (if_neg c20).symm.trans hm
            refine lv_aload_n hx hb dX8_becomes_79 rfl (lv_at hl 0 rfl) ?_
            refine gfX8_sorts hx hb h_X8 hown hK hP l_f20 dX8_becomes_80 ?_
            refine lv_iload_n hx hb dX8_becomes_83 rfl (lv_at hl 1 rfl) ?_
            obtain ⟨hi, hm⟩ := ok_I hm
            refine ldM_3 hx hb hK hP hi dX8_becomes_84 ?_
            refine lv_iconst (v := 2) hx hb dX8_becomes_85 (by decide) ?_
            refine lv_icmp_eq (tgt := 108) hx hb dX8_becomes_86 (by decide) (fun c21 => ?_) (fun c21 => ?_)
            · have hm := (if_pos c21).symm.trans hm
              exact L_108 s19 p1 p2 _ _ _ hP hS (lv_sub hl [0, 1, 2] rfl) hm
            · have hm := (if_neg c21).symm.trans hm
              refine lv_aload_n hx hb dX8_becomes_89 rfl (lv_at hl 0 rfl) ?_
              refine lv_aload_n hx hb dX8_becomes_90 rfl (lv_at hl 0 rfl) ?_
              refine gfX8_seconds hx hb h_X8 hown hK hP l_f26 dX8_becomes_91 ?_
              refine lv_iload_n hx hb dX8_becomes_94 rfl (lv_at hl 1 rfl) ?_
              obtain ⟨hi, hm⟩ := ok_I hm
              refine ldM_5 hx hb hK hP hi dX8_becomes_95 ?_
              refine lv_aload_n hx hb dX8_becomes_96 rfl (lv_at hl 0 rfl) ?_
              refine gfX8_seconds hx hb h_X8 hown hK hP l_f26 dX8_becomes_97 ?_
              refine lv_iload_n hx hb dX8_becomes_100 rfl (lv_at hl 2 rfl) ?_
              obtain ⟨hi, hm⟩ := ok_I hm
              refine ldM_5 hx hb hK hP hi dX8_becomes_101 ?_
              obtain ⟨⟨r22, s24⟩, h23, hm⟩ := ok_bind hm
              refine calV_i (As := [.int (s19.1 17 p1.toNatClampNeg), .int (s19.1 17 p2.toNatClampNeg)]) (rest := []) ⟨hx, hb, hml, hown, hts⟩ (c_X8_becomes _ s19 s24 (s19.1 17 p1.toNatClampNeg) (s19.1 17 p2.toNatClampNeg) r22 h23) (cwV 2 hts (gAV aM_X8_236 aI_X8_becomes aS_X8_becomes aN_X8 aC_X8_becomes) rfl rfl rfl eX8_becomes ⟨Nat.le_refl _, by show 8 + (4 + 11) + lo ≤ lo + 23; omega⟩) (preV_W (ci := 8) (q := (RX8, TX8, 42)) hK hP hF hS rfl (wM_0 y a s19)) rfl hl.1 rfl (Nat.le_of_ble_eq_true rfl) dX8_becomes_102 ⟨Nat.zero_le _, Nat.zero_le _⟩ hS (AC_le hS.1) (fun H locs hP hS hk1 => ?_)
              refine lv_if_eq (tgt := 112) hx hb dX8_becomes_105 (by decide) (fun c25 => ?_) (fun c25 => ?_)
              · have hm := (if_pos c25).symm.trans hm
                exact L_112 s24 p1 p2 _ _ _ hP hS (lv_sub hl [0, 1, 2] rfl) hm
              · have hm := (if_neg c25).symm.trans hm
                exact L_108 s24 p1 p2 _ _ _ hP hS (lv_sub hl [0, 1, 2] rfl) hm
  · have hm := (if_neg c13).symm.trans hm
    refine lv_aload_n hx hb dX8_becomes_10 rfl (lv_at hl 0 rfl) ?_
    refine gfX8_stands hx hb h_X8 hown hK hP l_f97 dX8_becomes_11 ?_
    refine lv_iload_n hx hb dX8_becomes_14 rfl (lv_at hl 1 rfl) ?_
    obtain ⟨hi, hm⟩ := ok_I hm
    refine ldM_27 hx hb hK hP hi dX8_becomes_15 ?_
    refine lv_iload_n hx hb dX8_becomes_16 rfl (lv_at hl 2 rfl) ?_
    refine lv_icmp_ne (tgt := 24) hx hb dX8_becomes_17 (by decide) (fun c26 => ?_) (fun c26 => ?_)
    · have hm := (if_neg c26).symm.trans hm
      refine lv_iconst (v := 0) hx hb dX8_becomes_24 (by decide) ?_
      exact W.zret (v := 0) hx hb hr rfl (fun T hT hW => ⟨⟨0, σ, rfl, ⟨congrArg Prod.fst (Option.some.inj hm), congrArg Prod.snd (Option.some.inj hm)⟩, by rw [posW, hT]; exact hP⟩, hS.F hT⟩) hS.2.2 dX8_becomes_25
    · have hm := (if_pos c26).symm.trans hm
      refine lv_iconst (v := 1) hx hb dX8_becomes_20 (by decide) ?_
      refine lv_goto (tgt := 25) hx hb dX8_becomes_21 (by decide) ?_
      exact W.zret (v := 1) hx hb hr rfl (fun T hT hW => ⟨⟨1, σ, rfl, ⟨congrArg Prod.fst (Option.some.inj hm), congrArg Prod.snd (Option.some.inj hm)⟩, by rw [posW, hT]; exact hP⟩, hS.F hT⟩) hS.2.2 dX8_becomes_25
set_option maxHeartbeats 4000000 in
set_option maxRecDepth 100000 in
theorem qX8_becomes (l : Launch) (D : va_G) (y : Nat → ClassId) (a t : Nat → Nat) (hI : AI a 30) : ∀ d : Nat, (∀ (sz : Nat) (σ τ : St) (p1 : Int32) (p2 : Int32) (r : Int32), ((gX8_becomes d)) σ p1 p2 = some (r, τ) → Met l yX8_becomes zX8_becomes { frames := 0 + d, cells := 0, slots := 0, locals := 0 + 23 * d } (va_Pc [.ref (a 0), .int p1, .int p2] (preW (wM y a) a 30 D y t σ sz)) (va_Qi (fun r' u => r' = r ∧ u = τ) (posW (wM y a) D) (AC a 30 sz)) 0 0 (AC a 30 sz)) := by
  intro d
  induction d with
  | zero => exact fun _ _ _ _ _ _ h => (by cases h)
  | succ d ih =>
    have ih0 := ih
    have q0 : ∀ (sz : Nat) (σ τ : St) (p1 : Int32) (p2 : Int32) (r : Int32), ((gX8_becomes (d + 1))) σ p1 p2 = some (r, τ) → Met l yX8_becomes zX8_becomes { frames := 0 + (d + 1), cells := 0, slots := 0, locals := 0 + 23 * (d + 1) } (va_Pc [.ref (a 0), .int p1, .int p2] (preW (wM y a) a 30 D y t σ sz)) (va_Qi (fun r' u => r' = r ∧ u = τ) (posW (wM y a) D) (AC a 30 sz)) 0 0 (AC a 30 sz) := by
      intro sz σ τ p1 p2 r hm
      rw [show 0 + 23 * (d + 1) = 0 + 23 * d + 23 by omega]
      exact oX8_becomes l D y a t hI (0 + d) (0 + 23 * d) (by omega) (by omega) ((gX8_becomes d)) ih0 sz σ τ p1 p2 r hm
    exact q0
theorem kX8_becomes (l : Launch) (D : va_G) (y : Nat → ClassId) (a t : Nat → Nat) (hI : AI a 30) : ∀ (sz : Nat) (σ τ : St) (p1 : Int32) (p2 : Int32) (r : Int32), mX8_becomes σ p1 p2 = some (r, τ) → Met l yX8_becomes zX8_becomes { frames := 256, cells := 0, slots := 0, locals := 5888 } (va_Pc [.ref (a 0), .int p1, .int p2] (preW (wM y a) a 30 D y t σ sz)) (va_Qi (fun r' u => r' = r ∧ u = τ) (posW (wM y a) D) (AC a 30 sz)) 0 0 (AC a 30 sz) := (qX8_becomes l D y a t hI 256)
theorem eX8_theoremGives : yX8_theoremGives.cls = RX8 ∧ yX8_theoremGives.cls ≠ "java/lang/invoke/MethodHandle" ∧ yX8_theoremGives.cls ≠ "java/lang/invoke/VarHandle" ∧ (parseMethodDescriptor yX8_theoremGives.desc).map (fun d => d.parameters.length) = some 4 := by decide +kernel
def mX8_theoremGives_51 (s4 : St) (v1 : Int32) (v2 : Int32) (v3 : Int32) : Option (Int32 × St) :=
if v3 = 0 then (
chkZ v3 (some (v3, s4)))
else (
chkI v1 16 (
if (s4.1 30 v1.toNatClampNeg) ≤ 1 then (
chkZ v3 (some (v3, s4)))
else (
chkI ((2 * v1) + 1) 32 (
chkI v2 60 (
(mX8_becomes s4 (s4.1 31 ((2 * v1) + 1).toNatClampNeg) (s4.1 21 v2.toNatClampNeg)).bind fun ⟨r7, s9⟩ =>
chkZ r7 (some (r7, s9)))))))
def mX8_theoremGives (σ : St) (p1 : Int32) (p2 : Int32) (p3 : Int32) (p4 : Int32) : Option (Int32 × St) :=
(mX8_clearStands σ).bind fun s11 =>
chkI p2 16 (
(mX8_becomes s11 (s11.1 29 p2.toNatClampNeg) p1).bind fun ⟨r12, s14⟩ =>
if r12 = 0 then (
mX8_theoremGives_51 s14 p2 p4 r12)
else (
chkI p2 16 (
if (s14.1 30 p2.toNatClampNeg) ≤ 0 then (
mX8_theoremGives_51 s14 p2 p4 r12)
else (
chkI (2 * p2) 32 (
chkI p3 60 (
(mX8_becomes s14 (s14.1 31 (2 * p2).toNatClampNeg) (s14.1 21 p3.toNatClampNeg)).bind fun ⟨r17, s19⟩ =>
mX8_theoremGives_51 s19 p2 p4 r17))))))
set_option maxHeartbeats 4000000 in
set_option maxRecDepth 100000 in
theorem kX8_theoremGives (l : Launch) (D : va_G) (y : Nat → ClassId) (a t : Nat → Nat) (hI : AI a 30) (sz : Nat) (σ τ : St) (p1 : Int32) (p2 : Int32) (p3 : Int32) (p4 : Int32) (r : Int32) (hm : mX8_theoremGives σ p1 p2 p3 p4 = some (r, τ)) : Met l yX8_theoremGives zX8_theoremGives { frames := 257, cells := 0, slots := 0, locals := 5911 } (va_Pc [.ref (a 0), .int p1, .int p2, .int p3, .int p4] (preW (wM y a) a 30 D y t σ sz)) (va_Qi (fun r' u => r' = r ∧ u = τ) (posW (wM y a) D) (AC a 30 sz)) 0 0 (AC a 30 sz) := by
  refine Met.ofW (cc := cX8_theoremGives) (maxL := 6) (ret := (some .boolean)) (by decide) rfl ?_
  intro p e s m args below meth c s₁ B hml hv
  obtain ⟨rfl, hsz, hP, hK, hF⟩ := hv
  have hx := B.exec
  have hb := B.bytes
  have hr := B.returns
  have hts := atoms_spec (ws := zX8_theoremGives) B.pre
  have hown : s.vm.findClass RX8 = some m.cls := findClass_of_methodNamed B.named
  have hlocks := B.notSynchronized
  subst hsz
  have l_f67 := hts _ (List.mem_cons_of_mem _ aF_X8_67)
  have l_f70 := hts _ (List.mem_cons_of_mem _ aF_X8_70)
  have l_f73 := hts _ (List.mem_cons_of_mem _ aF_X8_73)
  have l_f40 := hts _ (List.mem_cons_of_mem _ aF_X8_40)
  have h_X8 : ∀ w ∈ wsX80, w.before _ s = true := fun w hw => hts w (List.mem_cons_of_mem _ (hwX8 w hw))
  have hS : va_S (AC a 30 s.heap.size) s.heap s.heap [] := va_S.rf
  have hl := lv_entry ([.ref (a 0), .int p1, .int p2, .int p3, .int p4]) (n := 6) (Nat.le_of_ble_eq_true rfl)
  rw [lg_entry_eq]
  generalize (lg_sl ([.ref (a 0), .int p1, .int p2, .int p3, .int p4]) ++ List.replicate (6 - (lg_sl ([.ref (a 0), .int p1, .int p2, .int p3, .int p4])).length) Slot.unset).toArray = ls at hl ⊢
  have hl : lv_has ls 6 [(0, .ref (a 0)), (1, .int p1), (2, .int p2), (3, .int p3), (4, .int p4)] := hl
  have L_51 : ∀ (s4 : St) (v1 : Int32) (v2 : Int32) (v3 : Int32) (H : Heap) (locs : List Loc) (ls : Array Slot), va_P D vwCl (wM y a s4) H → va_S (AC a 30 s.heap.size) s.heap H locs → lv_has ls 6 [(0, .ref (a 0)), (2, .int v1), (4, .int v2), (5, .int v3)] → mX8_theoremGives_51 s4 v1 v2 v3 = some (r, τ) → W p l e (headSpec zX8_theoremGives ({ frames := 257, cells := 0, slots := 0, locals := 5911 })).room s m ([.ref (a 0), .int p1, .int p2, .int p3, .int p4] : List Value).toArray below meth c H locs 0 0 (MQ below (va_Qi (fun r' u => r' = r ∧ u = τ) (posW (wM y a) D) (AC a 30 s.heap.size)) ([.ref (a 0), .int p1, .int p2, .int p3, .int p4] : List Value).toArray s 0 0 (AC a 30 s.heap.size)) (F0 m 51 ls []) := by
    intro s4 v1 v2 v3 H locs ls hP hS hl hm
    unfold mX8_theoremGives_51 at hm
    refine lv_iload hx hb dX8_theoremGives_51 (lv_at hl 3 rfl) ?_
    refine lv_if_eq (tgt := 89) hx hb dX8_theoremGives_53 (by decide) (fun c5 => ?_) (fun c5 => ?_)
    · have hm := (if_pos c5).symm.trans hm
      refine lv_iload hx hb dX8_theoremGives_89 (lv_at hl 3 rfl) ?_
      obtain ⟨hz, hm⟩ := ok_Z hm
      exact W.zret (v := v3) hx hb hr hz (fun T hT hW => ⟨⟨v3, s4, rfl, ⟨congrArg Prod.fst (Option.some.inj hm), congrArg Prod.snd (Option.some.inj hm)⟩, by rw [posW, hT]; exact hP⟩, hS.F hT⟩) hS.2.2 dX8_theoremGives_91
    · have hm := (if_neg c5).symm.trans hm
      refine lv_aload_n hx hb dX8_theoremGives_56 rfl (lv_at hl 0 rfl) ?_
      refine gfX8_premises hx hb h_X8 hown hK hP l_f70 dX8_theoremGives_57 ?_
      refine lv_iload_n hx hb dX8_theoremGives_60 rfl (lv_at hl 1 rfl) ?_
      obtain ⟨hi, hm⟩ := ok_I hm
      refine ldM_18 hx hb hK hP hi dX8_theoremGives_61 ?_
      refine lv_iconst (v := 1) hx hb dX8_theoremGives_62 (by decide) ?_
      refine lv_icmp_le (tgt := 89) hx hb dX8_theoremGives_63 (by decide) (fun c6 => ?_) (fun c6 => ?_)
      · have hm := (if_pos c6).symm.trans hm
        refine lv_iload hx hb dX8_theoremGives_89 (lv_at hl 3 rfl) ?_
        obtain ⟨hz, hm⟩ := ok_Z hm
        exact W.zret (v := v3) hx hb hr hz (fun T hT hW => ⟨⟨v3, s4, rfl, ⟨congrArg Prod.fst (Option.some.inj hm), congrArg Prod.snd (Option.some.inj hm)⟩, by rw [posW, hT]; exact hP⟩, hS.F hT⟩) hS.2.2 dX8_theoremGives_91
      · have hm := (if_neg c6).symm.trans hm
        refine lv_aload_n hx hb dX8_theoremGives_66 rfl (lv_at hl 0 rfl) ?_
        refine lv_aload_n hx hb dX8_theoremGives_67 rfl (lv_at hl 0 rfl) ?_
        refine gfX8_premise hx hb h_X8 hown hK hP l_f73 dX8_theoremGives_68 ?_
        refine lv_iconst (v := 2) hx hb dX8_theoremGives_71 (by decide) ?_
        refine lv_iload_n hx hb dX8_theoremGives_72 rfl (lv_at hl 1 rfl) ?_
        refine lv_imul hx hb dX8_theoremGives_73 ?_
        refine lv_iconst (v := 1) hx hb dX8_theoremGives_74 (by decide) ?_
        refine lv_iadd hx hb dX8_theoremGives_75 ?_
        obtain ⟨hi, hm⟩ := ok_I hm
        refine ldM_19 hx hb hK hP hi dX8_theoremGives_76 ?_
        refine lv_aload_n hx hb dX8_theoremGives_77 rfl (lv_at hl 0 rfl) ?_
        refine gfX8_shown hx hb h_X8 hown hK hP l_f40 dX8_theoremGives_78 ?_
        refine lv_iload hx hb dX8_theoremGives_81 (lv_at hl 2 rfl) ?_
        obtain ⟨hi, hm⟩ := ok_I hm
        refine ldM_9 hx hb hK hP hi dX8_theoremGives_83 ?_
        obtain ⟨⟨r7, s9⟩, h8, hm⟩ := ok_bind hm
        refine calV_i (As := [.int (s4.1 31 ((2 * v1) + 1).toNatClampNeg), .int (s4.1 21 v2.toNatClampNeg)]) (rest := []) ⟨hx, hb, hml, hown, hts⟩ (kX8_becomes l D y a t hI _ s4 s9 (s4.1 31 ((2 * v1) + 1).toNatClampNeg) (s4.1 21 v2.toNatClampNeg) r7 h8) (cwV 2 hts (gAV aM_X8_236 aI_X8_becomes aS_X8_becomes aN_X8 aC_X8_becomes) rfl rfl rfl eX8_becomes ⟨Nat.le_of_ble_eq_true rfl, Nat.le_of_ble_eq_true rfl⟩) (preV_W (ci := 8) (q := (RX8, TX8, 42)) hK hP hF hS rfl (wM_0 y a s4)) rfl hl.1 rfl (Nat.le_of_ble_eq_true rfl) dX8_theoremGives_84 ⟨Nat.zero_le _, Nat.zero_le _⟩ hS (AC_le hS.1) (fun H locs hP hS hk1 => ?_)
        refine lv_istore (lv' := [(5, .int r7), (0, .ref (a 0)), (2, .int v1), (4, .int v2)]) hx hb dX8_theoremGives_87 hl (by decide) rfl (fun ls hl => ?_)
        refine lv_iload hx hb dX8_theoremGives_89 (lv_at hl 0 rfl) ?_
        obtain ⟨hz, hm⟩ := ok_Z hm
        exact W.zret (v := r7) hx hb hr hz (fun T hT hW => ⟨⟨r7, s9, rfl, ⟨congrArg Prod.fst (Option.some.inj hm), congrArg Prod.snd (Option.some.inj hm)⟩, by rw [posW, hT]; exact hP⟩, hS.F hT⟩) hS.2.2 dX8_theoremGives_91
  unfold mX8_theoremGives at hm
  refine lv_aload_n hx hb dX8_theoremGives_0 rfl (lv_at hl 0 rfl) ?_
  obtain ⟨s11, h10, hm⟩ := ok_bind hm
  refine calV_v (As := []) (rest := []) ⟨hx, hb, hml, hown, hts⟩ (kX8_clearStands l D y a t hI _ σ s11  h10) (cwV 0 hts (gAV aM_X8_256 aI_X8_clearStands aS_X8_clearStands aN_X8 aC_X8_clearStands) rfl rfl rfl eX8_clearStands ⟨Nat.le_of_ble_eq_true rfl, Nat.le_of_ble_eq_true rfl⟩) (preV_W (ci := 8) (q := (RX8, TX8, 42)) hK hP hF hS rfl (wM_0 y a σ)) rfl hl.1 rfl (Nat.le_of_ble_eq_true rfl) dX8_theoremGives_1 ⟨Nat.zero_le _, Nat.zero_le _⟩ hS (AC_le hS.1) (fun H locs hP hS hk1 => ?_)
  refine lv_aload_n hx hb dX8_theoremGives_4 rfl (lv_at hl 0 rfl) ?_
  refine lv_aload_n hx hb dX8_theoremGives_5 rfl (lv_at hl 0 rfl) ?_
  refine gfX8_conclusions hx hb h_X8 hown hK hP l_f67 dX8_theoremGives_6 ?_
  refine lv_iload_n hx hb dX8_theoremGives_9 rfl (lv_at hl 2 rfl) ?_
  obtain ⟨hi, hm⟩ := ok_I hm
  refine ldM_17 hx hb hK hP hi dX8_theoremGives_10 ?_
  refine lv_iload_n hx hb dX8_theoremGives_11 rfl (lv_at hl 1 rfl) ?_
  obtain ⟨⟨r12, s14⟩, h13, hm⟩ := ok_bind hm
  refine calV_i (As := [.int (s11.1 29 p2.toNatClampNeg), .int p1]) (rest := []) ⟨hx, hb, hml, hown, hts⟩ (kX8_becomes l D y a t hI _ s11 s14 (s11.1 29 p2.toNatClampNeg) p1 r12 h13) (cwV 2 hts (gAV aM_X8_236 aI_X8_becomes aS_X8_becomes aN_X8 aC_X8_becomes) rfl rfl rfl eX8_becomes ⟨Nat.le_of_ble_eq_true rfl, Nat.le_of_ble_eq_true rfl⟩) (preV_W (ci := 8) (q := (RX8, TX8, 42)) hK hP hF hS rfl (wM_0 y a s11)) rfl hl.1 rfl (Nat.le_of_ble_eq_true rfl) dX8_theoremGives_12 ⟨Nat.zero_le _, Nat.zero_le _⟩ hS (AC_le hS.1) (fun H locs hP hS hk1 => ?_)
  refine lv_istore (lv' := [(5, .int r12), (0, .ref (a 0)), (1, .int p1), (2, .int p2), (3, .int p3), (4, .int p4)]) hx hb dX8_theoremGives_15 hl (by decide) rfl (fun ls hl => ?_)
  refine lv_iload hx hb dX8_theoremGives_17 (lv_at hl 0 rfl) ?_
  refine lv_if_eq (tgt := 51) hx hb dX8_theoremGives_19 (by decide) (fun c15 => ?_) (fun c15 => ?_)
  · have hm := (if_pos c15).symm.trans hm
    exact L_51 s14 p2 p4 r12 _ _ _ hP hS (lv_sub hl [1, 3, 5, 0] rfl) hm
  · have hm := (if_neg c15).symm.trans hm
    refine lv_aload_n hx hb dX8_theoremGives_22 rfl (lv_at hl 1 rfl) ?_
    refine gfX8_premises hx hb h_X8 hown hK hP l_f70 dX8_theoremGives_23 ?_
    refine lv_iload_n hx hb dX8_theoremGives_26 rfl (lv_at hl 3 rfl) ?_
    obtain ⟨hi, hm⟩ := ok_I hm
    refine ldM_18 hx hb hK hP hi dX8_theoremGives_27 ?_
    refine lv_if_le (tgt := 51) hx hb dX8_theoremGives_28 (by decide) (fun c16 => ?_) (fun c16 => ?_)
    · have hm := (if_pos c16).symm.trans hm
      exact L_51 s14 p2 p4 r12 _ _ _ hP hS (lv_sub hl [1, 3, 5, 0] rfl) hm
    · have hm := (if_neg c16).symm.trans hm
      refine lv_aload_n hx hb dX8_theoremGives_31 rfl (lv_at hl 1 rfl) ?_
      refine lv_aload_n hx hb dX8_theoremGives_32 rfl (lv_at hl 1 rfl) ?_
      refine gfX8_premise hx hb h_X8 hown hK hP l_f73 dX8_theoremGives_33 ?_
      refine lv_iconst (v := 2) hx hb dX8_theoremGives_36 (by decide) ?_
      refine lv_iload_n hx hb dX8_theoremGives_37 rfl (lv_at hl 3 rfl) ?_
      refine lv_imul hx hb dX8_theoremGives_38 ?_
      obtain ⟨hi, hm⟩ := ok_I hm
      refine ldM_19 hx hb hK hP hi dX8_theoremGives_39 ?_
      refine lv_aload_n hx hb dX8_theoremGives_40 rfl (lv_at hl 1 rfl) ?_
      refine gfX8_shown hx hb h_X8 hown hK hP l_f40 dX8_theoremGives_41 ?_
      refine lv_iload_n hx hb dX8_theoremGives_44 rfl (lv_at hl 4 rfl) ?_
      obtain ⟨hi, hm⟩ := ok_I hm
      refine ldM_9 hx hb hK hP hi dX8_theoremGives_45 ?_
      obtain ⟨⟨r17, s19⟩, h18, hm⟩ := ok_bind hm
      refine calV_i (As := [.int (s14.1 31 (2 * p2).toNatClampNeg), .int (s14.1 21 p3.toNatClampNeg)]) (rest := []) ⟨hx, hb, hml, hown, hts⟩ (kX8_becomes l D y a t hI _ s14 s19 (s14.1 31 (2 * p2).toNatClampNeg) (s14.1 21 p3.toNatClampNeg) r17 h18) (cwV 2 hts (gAV aM_X8_236 aI_X8_becomes aS_X8_becomes aN_X8 aC_X8_becomes) rfl rfl rfl eX8_becomes ⟨Nat.le_of_ble_eq_true rfl, Nat.le_of_ble_eq_true rfl⟩) (preV_W (ci := 8) (q := (RX8, TX8, 42)) hK hP hF hS rfl (wM_0 y a s14)) rfl hl.1 rfl (Nat.le_of_ble_eq_true rfl) dX8_theoremGives_46 ⟨Nat.zero_le _, Nat.zero_le _⟩ hS (AC_le hS.1) (fun H locs hP hS hk1 => ?_)
      refine lv_istore (lv' := [(5, .int r17), (0, .ref (a 0)), (1, .int p1), (2, .int p2), (3, .int p3), (4, .int p4)]) hx hb dX8_theoremGives_49 hl (by decide) rfl (fun ls hl => ?_)
      exact L_51 s19 p2 p4 r17 _ _ _ hP hS (lv_sub hl [1, 3, 5, 0] rfl) hm
theorem eX8_isMade : yX8_isMade.cls = RX8 ∧ yX8_isMade.cls ≠ "java/lang/invoke/MethodHandle" ∧ yX8_isMade.cls ≠ "java/lang/invoke/VarHandle" ∧ (parseMethodDescriptor yX8_isMade.desc).map (fun d => d.parameters.length) = some 4 := by decide +kernel
def mX8_isMade (σ : St) (p1 : Int32) (p2 : Int32) (p3 : Int32) (p4 : Int32) : Option Int32 :=
chkI p1 240 (
if (σ.1 15 p1.toNatClampNeg) = p2 then (
chkI p1 240 (
if (σ.1 16 p1.toNatClampNeg) = p3 then (
chkI p1 240 (
if (σ.1 17 p1.toNatClampNeg) = p4 then (
some 1)
else (
some 0)))
else (
some 0)))
else (
some 0))
set_option maxHeartbeats 4000000 in
set_option maxRecDepth 100000 in
theorem kX8_isMade (l : Launch) (D : va_G) (y : Nat → ClassId) (a t : Nat → Nat) (hI : AI a 30) (sz : Nat) (σ : St) (p1 : Int32) (p2 : Int32) (p3 : Int32) (p4 : Int32) (r : Int32) (hm : mX8_isMade σ p1 p2 p3 p4 = some r) : Met l yX8_isMade zX8_isMade { frames := 0, cells := 0, slots := 0, locals := 0 } (va_Pc [.ref (a 0), .int p1, .int p2, .int p3, .int p4] (preW (wM y a) a 30 D y t σ sz)) (va_Qi (fun r' u => r' = r ∧ u = σ) (posW (wM y a) D) (AC a 30 sz)) 0 0 (AC a 30 sz) := by
  refine Met.ofW (cc := cX8_isMade) (maxL := 5) (ret := (some .boolean)) (by decide) rfl ?_
  intro p e s m args below meth c s₁ B hml hv
  obtain ⟨rfl, hsz, hP, hK, hF⟩ := hv
  have hx := B.exec
  have hb := B.bytes
  have hr := B.returns
  have hts := atoms_spec (ws := zX8_isMade) B.pre
  have hown : s.vm.findClass RX8 = some m.cls := findClass_of_methodNamed B.named
  have hlocks := B.notSynchronized
  subst hsz
  have l_f20 := hts _ (List.mem_cons_of_mem _ aF_X8_20)
  have l_f23 := hts _ (List.mem_cons_of_mem _ aF_X8_23)
  have l_f26 := hts _ (List.mem_cons_of_mem _ aF_X8_26)
  have h_X8 : ∀ w ∈ wsX80, w.before _ s = true := fun w hw => hts w (List.mem_cons_of_mem _ (hwX8 w hw))
  have hS : va_S (AC a 30 s.heap.size) s.heap s.heap [] := va_S.rf
  have hl := lv_entry ([.ref (a 0), .int p1, .int p2, .int p3, .int p4]) (n := 5) (Nat.le_of_ble_eq_true rfl)
  rw [lg_entry_eq]
  generalize (lg_sl ([.ref (a 0), .int p1, .int p2, .int p3, .int p4]) ++ List.replicate (5 - (lg_sl ([.ref (a 0), .int p1, .int p2, .int p3, .int p4])).length) Slot.unset).toArray = ls at hl ⊢
  have hl : lv_has ls 5 [(0, .ref (a 0)), (1, .int p1), (2, .int p2), (3, .int p3), (4, .int p4)] := hl
  unfold mX8_isMade at hm
  refine lv_aload_n hx hb dX8_isMade_0 rfl (lv_at hl 0 rfl) ?_
  refine gfX8_sorts hx hb h_X8 hown hK hP l_f20 dX8_isMade_1 ?_
  refine lv_iload_n hx hb dX8_isMade_4 rfl (lv_at hl 1 rfl) ?_
  obtain ⟨hi, hm⟩ := ok_I hm
  refine ldM_3 hx hb hK hP hi dX8_isMade_5 ?_
  refine lv_iload_n hx hb dX8_isMade_6 rfl (lv_at hl 2 rfl) ?_
  refine lv_icmp_ne (tgt := 35) hx hb dX8_isMade_7 (by decide) (fun c1 => ?_) (fun c1 => ?_)
  · have hm := (if_neg c1).symm.trans hm
    refine lv_iconst (v := 0) hx hb dX8_isMade_35 (by decide) ?_
    exact W.zret (v := 0) hx hb hr rfl (fun T hT hW => ⟨⟨0, σ, rfl, ⟨Option.some.inj hm, rfl⟩, by rw [posW, hT]; exact hP⟩, hS.F hT⟩) hS.2.2 dX8_isMade_36
  · have hm := (if_pos c1).symm.trans hm
    refine lv_aload_n hx hb dX8_isMade_10 rfl (lv_at hl 0 rfl) ?_
    refine gfX8_firsts hx hb h_X8 hown hK hP l_f23 dX8_isMade_11 ?_
    refine lv_iload_n hx hb dX8_isMade_14 rfl (lv_at hl 1 rfl) ?_
    obtain ⟨hi, hm⟩ := ok_I hm
    refine ldM_4 hx hb hK hP hi dX8_isMade_15 ?_
    refine lv_iload_n hx hb dX8_isMade_16 rfl (lv_at hl 3 rfl) ?_
    refine lv_icmp_ne (tgt := 35) hx hb dX8_isMade_17 (by decide) (fun c2 => ?_) (fun c2 => ?_)
    · have hm := (if_neg c2).symm.trans hm
      refine lv_iconst (v := 0) hx hb dX8_isMade_35 (by decide) ?_
      exact W.zret (v := 0) hx hb hr rfl (fun T hT hW => ⟨⟨0, σ, rfl, ⟨Option.some.inj hm, rfl⟩, by rw [posW, hT]; exact hP⟩, hS.F hT⟩) hS.2.2 dX8_isMade_36
    · have hm := (if_pos c2).symm.trans hm
      refine lv_aload_n hx hb dX8_isMade_20 rfl (lv_at hl 0 rfl) ?_
      refine gfX8_seconds hx hb h_X8 hown hK hP l_f26 dX8_isMade_21 ?_
      refine lv_iload_n hx hb dX8_isMade_24 rfl (lv_at hl 1 rfl) ?_
      obtain ⟨hi, hm⟩ := ok_I hm
      refine ldM_5 hx hb hK hP hi dX8_isMade_25 ?_
      refine lv_iload hx hb dX8_isMade_26 (lv_at hl 4 rfl) ?_
      refine lv_icmp_ne (tgt := 35) hx hb dX8_isMade_28 (by decide) (fun c3 => ?_) (fun c3 => ?_)
      · have hm := (if_neg c3).symm.trans hm
        refine lv_iconst (v := 0) hx hb dX8_isMade_35 (by decide) ?_
        exact W.zret (v := 0) hx hb hr rfl (fun T hT hW => ⟨⟨0, σ, rfl, ⟨Option.some.inj hm, rfl⟩, by rw [posW, hT]; exact hP⟩, hS.F hT⟩) hS.2.2 dX8_isMade_36
      · have hm := (if_pos c3).symm.trans hm
        refine lv_iconst (v := 1) hx hb dX8_isMade_31 (by decide) ?_
        refine lv_goto (tgt := 36) hx hb dX8_isMade_32 (by decide) ?_
        exact W.zret (v := 1) hx hb hr rfl (fun T hT hW => ⟨⟨1, σ, rfl, ⟨Option.some.inj hm, rfl⟩, by rw [posW, hT]; exact hP⟩, hS.F hT⟩) hS.2.2 dX8_isMade_36
theorem eX8_gives : yX8_gives.cls = RX8 ∧ yX8_gives.cls ≠ "java/lang/invoke/MethodHandle" ∧ yX8_gives.cls ≠ "java/lang/invoke/VarHandle" ∧ (parseMethodDescriptor yX8_gives.desc).map (fun d => d.parameters.length) = some 7 := by decide +kernel
def mX8_gives (σ : St) (p1 : Int32) (p2 : Int32) (p3 : Int32) (p4 : Int32) (p5 : Int32) (p6 : Int32) (p7 : Int32) : Option Int32 :=
if p1 = 0 then (
if p2 = p3 then (
some 1)
else (
some 0))
else (
if p1 = 1 then (
(mX8_isMade σ p2 3 p3 p4).bind fun r4 =>
chkZ r4 (some r4))
else (
if p1 = 2 then (
chkI p3 240 (
if p2 = (σ.1 16 p3.toNatClampNeg) then (
some 1)
else (
some 0)))
else (
if p1 = 3 then (
chkI p3 240 (
if p2 = (σ.1 17 p3.toNatClampNeg) then (
some 1)
else (
some 0)))
else (
if p1 = 4 then (
chkI p2 240 (
if (σ.1 15 p2.toNatClampNeg) = 4 then (
chkI p2 240 (
if (σ.1 16 p2.toNatClampNeg) = p3 then (
some 1)
else (
some 0)))
else (
some 0)))
else (
if p1 = 5 then (
chkI p2 240 (
if (σ.1 15 p2.toNatClampNeg) = 4 then (
chkI p2 240 (
if (σ.1 17 p2.toNatClampNeg) = p3 then (
some 1)
else (
some 0)))
else (
some 0)))
else (
if p1 = 6 then (
chkI p6 60 (
chkI (σ.1 25 p6.toNatClampNeg) 60 (
chkI p3 240 (
if (σ.1 21 (σ.1 25 p6.toNatClampNeg).toNatClampNeg) = (σ.1 16 p3.toNatClampNeg) then (
chkI p7 60 (
chkI (σ.1 25 p7.toNatClampNeg) 60 (
chkI p3 240 (
if (σ.1 21 (σ.1 25 p7.toNatClampNeg).toNatClampNeg) = (σ.1 17 p3.toNatClampNeg) then (
chkI p6 60 (
chkI (σ.1 26 p6.toNatClampNeg) 60 (
if (σ.1 21 (σ.1 26 p6.toNatClampNeg).toNatClampNeg) = p2 then (
chkI p7 60 (
chkI (σ.1 26 p7.toNatClampNeg) 60 (
if (σ.1 21 (σ.1 26 p7.toNatClampNeg).toNatClampNeg) = p2 then (
some 1)
else (
some 0))))
else (
some 0))))
else (
some 0)))))
else (
some 0)))))
else (
if p1 = 7 then (
chkI p5 60 (
chkI (σ.1 25 p5.toNatClampNeg) 60 (
(mX8_isMade σ p2 5 (σ.1 21 (σ.1 25 p5.toNatClampNeg).toNatClampNeg) p3).bind fun r22 =>
chkZ r22 (some r22))))
else (
if p1 = 8 then (
chkI p3 240 (
if (σ.1 16 p3.toNatClampNeg) = p4 then (
chkI p3 240 (
if (σ.1 17 p3.toNatClampNeg) = p2 then (
some 1)
else (
some 0)))
else (
some 0)))
else (
if p1 = 9 then (
chkI p5 60 (
chkI (σ.1 25 p5.toNatClampNeg) 60 (
(mX8_isMade σ p2 2 (σ.1 21 (σ.1 25 p5.toNatClampNeg).toNatClampNeg) (-1)).bind fun r28 =>
chkZ r28 (some r28))))
else (
if p1 = 10 then (
chkI p4 240 (
if (σ.1 16 p4.toNatClampNeg) = p3 then (
chkI p2 240 (
if (σ.1 15 p2.toNatClampNeg) = 1 then (
some 1)
else (
some 0)))
else (
some 0)))
else (
if p1 = 11 then (
some 1)
else (
chkI p3 240 (
chkI (σ.1 16 p3.toNatClampNeg) 240 (
if (σ.1 16 (σ.1 16 p3.toNatClampNeg).toNatClampNeg) = p2 then (
some 1)
else (
some 0)))))))))))))))
set_option maxHeartbeats 4000000 in
set_option maxRecDepth 100000 in
theorem kX8_gives (l : Launch) (D : va_G) (y : Nat → ClassId) (a t : Nat → Nat) (hI : AI a 30) (sz : Nat) (σ : St) (p1 : Int32) (p2 : Int32) (p3 : Int32) (p4 : Int32) (p5 : Int32) (p6 : Int32) (p7 : Int32) (r : Int32) (hm : mX8_gives σ p1 p2 p3 p4 p5 p6 p7 = some r) : Met l yX8_gives zX8_gives { frames := 1, cells := 0, slots := 0, locals := 24 } (va_Pc [.ref (a 0), .int p1, .int p2, .int p3, .int p4, .int p5, .int p6, .int p7] (preW (wM y a) a 30 D y t σ sz)) (va_Qi (fun r' u => r' = r ∧ u = σ) (posW (wM y a) D) (AC a 30 sz)) 0 0 (AC a 30 sz) := by
  refine Met.ofW (cc := cX8_gives) (maxL := 8) (ret := (some .boolean)) (by decide) rfl ?_
  intro p e s m args below meth c s₁ B hml hv
  obtain ⟨rfl, hsz, hP, hK, hF⟩ := hv
  have hx := B.exec
  have hb := B.bytes
  have hr := B.returns
  have hts := atoms_spec (ws := zX8_gives) B.pre
  have hown : s.vm.findClass RX8 = some m.cls := findClass_of_methodNamed B.named
  have hlocks := B.notSynchronized
  subst hsz
  have l_f23 := hts _ (List.mem_cons_of_mem _ aF_X8_23)
  have l_f26 := hts _ (List.mem_cons_of_mem _ aF_X8_26)
  have l_f20 := hts _ (List.mem_cons_of_mem _ aF_X8_20)
  have l_f40 := hts _ (List.mem_cons_of_mem _ aF_X8_40)
  have l_f52 := hts _ (List.mem_cons_of_mem _ aF_X8_52)
  have l_f55 := hts _ (List.mem_cons_of_mem _ aF_X8_55)
  have h_X8 : ∀ w ∈ wsX80, w.before _ s = true := fun w hw => hts w (List.mem_cons_of_mem _ (hwX8 w hw))
  have hS : va_S (AC a 30 s.heap.size) s.heap s.heap [] := va_S.rf
  have hl := lv_entry ([.ref (a 0), .int p1, .int p2, .int p3, .int p4, .int p5, .int p6, .int p7]) (n := 8) (Nat.le_of_ble_eq_true rfl)
  rw [lg_entry_eq]
  generalize (lg_sl ([.ref (a 0), .int p1, .int p2, .int p3, .int p4, .int p5, .int p6, .int p7]) ++ List.replicate (8 - (lg_sl ([.ref (a 0), .int p1, .int p2, .int p3, .int p4, .int p5, .int p6, .int p7])).length) Slot.unset).toArray = ls at hl ⊢
  have hl : lv_has ls 8 [(0, .ref (a 0)), (1, .int p1), (2, .int p2), (3, .int p3), (4, .int p4), (5, .int p5), (6, .int p6), (7, .int p7)] := hl
  unfold mX8_gives at hm
  refine lv_iload_n hx hb dX8_gives_0 rfl (lv_at hl 1 rfl) ?_
  by_cases c1 : p1 = 0
  · have hm := (if_pos c1).symm.trans hm
    refine lv_tableIn (tgt := 64) hx hb dX8_gives_1 (by rw [c1]; decide) (by rw [c1]; decide) (by rw [c1]; rfl) (by decide) ?_
    refine lv_iload_n hx hb dX8_gives_64 rfl (lv_at hl 2 rfl) ?_
    refine lv_iload_n hx hb dX8_gives_65 rfl (lv_at hl 3 rfl) ?_
    refine lv_icmp_ne (tgt := 73) hx hb dX8_gives_66 (by decide) (fun c2 => ?_) (fun c2 => ?_)
    · have hm := (if_neg c2).symm.trans hm
      refine lv_iconst (v := 0) hx hb dX8_gives_73 (by decide) ?_
      exact W.zret (v := 0) hx hb hr rfl (fun T hT hW => ⟨⟨0, σ, rfl, ⟨Option.some.inj hm, rfl⟩, by rw [posW, hT]; exact hP⟩, hS.F hT⟩) hS.2.2 dX8_gives_74
    · have hm := (if_pos c2).symm.trans hm
      refine lv_iconst (v := 1) hx hb dX8_gives_69 (by decide) ?_
      refine lv_goto (tgt := 74) hx hb dX8_gives_70 (by decide) ?_
      exact W.zret (v := 1) hx hb hr rfl (fun T hT hW => ⟨⟨1, σ, rfl, ⟨Option.some.inj hm, rfl⟩, by rw [posW, hT]; exact hP⟩, hS.F hT⟩) hS.2.2 dX8_gives_74
  · have hm := (if_neg c1).symm.trans hm
    have sc1 := sw_ne (k := 0) c1 rfl
    by_cases c3 : p1 = 1
    · have hm := (if_pos c3).symm.trans hm
      refine lv_tableIn (tgt := 75) hx hb dX8_gives_1 (by rw [c3]; decide) (by rw [c3]; decide) (by rw [c3]; rfl) (by decide) ?_
      refine lv_aload_n hx hb dX8_gives_75 rfl (lv_at hl 0 rfl) ?_
      refine lv_iload_n hx hb dX8_gives_76 rfl (lv_at hl 2 rfl) ?_
      refine lv_iconst (v := 3) hx hb dX8_gives_77 (by decide) ?_
      refine lv_iload_n hx hb dX8_gives_78 rfl (lv_at hl 3 rfl) ?_
      refine lv_iload hx hb dX8_gives_79 (lv_at hl 4 rfl) ?_
      obtain ⟨r4, h5, hm⟩ := ok_bind hm
      refine calV_i (As := [.int p2, .int 3, .int p3, .int p4]) (rest := []) ⟨hx, hb, hml, hown, hts⟩ (kX8_isMade l D y a t hI _ σ p2 3 p3 p4 r4 h5) (cwV 4 hts (gAV aM_X8_253 aI_X8_isMade aS_X8_isMade aN_X8 aC_X8_isMade) rfl rfl rfl eX8_isMade ⟨Nat.le_of_ble_eq_true rfl, Nat.le_of_ble_eq_true rfl⟩) (preV_W (ci := 8) (q := (RX8, TX8, 42)) hK hP hF hS rfl (wM_0 y a σ)) rfl hl.1 rfl (Nat.le_of_ble_eq_true rfl) dX8_gives_81 ⟨Nat.zero_le _, Nat.zero_le _⟩ hS (AC_le hS.1) (fun H locs hP hS hk1 => ?_)
      obtain ⟨hz, hm⟩ := ok_Z hm
      exact W.zret (v := r4) hx hb hr hz (fun T hT hW => ⟨⟨r4, σ, rfl, ⟨Option.some.inj hm, rfl⟩, by rw [posW, hT]; exact hP⟩, hS.F hT⟩) hS.2.2 dX8_gives_84
    · have hm := (if_neg c3).symm.trans hm
      have sc3 := sw_ne (k := 1) c3 rfl
      by_cases c6 : p1 = 2
      · have hm := (if_pos c6).symm.trans hm
        refine lv_tableIn (tgt := 85) hx hb dX8_gives_1 (by rw [c6]; decide) (by rw [c6]; decide) (by rw [c6]; rfl) (by decide) ?_
        refine lv_iload_n hx hb dX8_gives_85 rfl (lv_at hl 2 rfl) ?_
        refine lv_aload_n hx hb dX8_gives_86 rfl (lv_at hl 0 rfl) ?_
        refine gfX8_firsts hx hb h_X8 hown hK hP l_f23 dX8_gives_87 ?_
        refine lv_iload_n hx hb dX8_gives_90 rfl (lv_at hl 3 rfl) ?_
        obtain ⟨hi, hm⟩ := ok_I hm
        refine ldM_4 hx hb hK hP hi dX8_gives_91 ?_
        refine lv_icmp_ne (tgt := 99) hx hb dX8_gives_92 (by decide) (fun c7 => ?_) (fun c7 => ?_)
        · have hm := (if_neg c7).symm.trans hm
          refine lv_iconst (v := 0) hx hb dX8_gives_99 (by decide) ?_
          exact W.zret (v := 0) hx hb hr rfl (fun T hT hW => ⟨⟨0, σ, rfl, ⟨Option.some.inj hm, rfl⟩, by rw [posW, hT]; exact hP⟩, hS.F hT⟩) hS.2.2 dX8_gives_100
        · have hm := (if_pos c7).symm.trans hm
          refine lv_iconst (v := 1) hx hb dX8_gives_95 (by decide) ?_
          refine lv_goto (tgt := 100) hx hb dX8_gives_96 (by decide) ?_
          exact W.zret (v := 1) hx hb hr rfl (fun T hT hW => ⟨⟨1, σ, rfl, ⟨Option.some.inj hm, rfl⟩, by rw [posW, hT]; exact hP⟩, hS.F hT⟩) hS.2.2 dX8_gives_100
      · have hm := (if_neg c6).symm.trans hm
        have sc6 := sw_ne (k := 2) c6 rfl
        by_cases c8 : p1 = 3
        · have hm := (if_pos c8).symm.trans hm
          refine lv_tableIn (tgt := 101) hx hb dX8_gives_1 (by rw [c8]; decide) (by rw [c8]; decide) (by rw [c8]; rfl) (by decide) ?_
          refine lv_iload_n hx hb dX8_gives_101 rfl (lv_at hl 2 rfl) ?_
          refine lv_aload_n hx hb dX8_gives_102 rfl (lv_at hl 0 rfl) ?_
          refine gfX8_seconds hx hb h_X8 hown hK hP l_f26 dX8_gives_103 ?_
          refine lv_iload_n hx hb dX8_gives_106 rfl (lv_at hl 3 rfl) ?_
          obtain ⟨hi, hm⟩ := ok_I hm
          refine ldM_5 hx hb hK hP hi dX8_gives_107 ?_
          refine lv_icmp_ne (tgt := 115) hx hb dX8_gives_108 (by decide) (fun c9 => ?_) (fun c9 => ?_)
          · have hm := (if_neg c9).symm.trans hm
            refine lv_iconst (v := 0) hx hb dX8_gives_115 (by decide) ?_
            exact W.zret (v := 0) hx hb hr rfl (fun T hT hW => ⟨⟨0, σ, rfl, ⟨Option.some.inj hm, rfl⟩, by rw [posW, hT]; exact hP⟩, hS.F hT⟩) hS.2.2 dX8_gives_116
          · have hm := (if_pos c9).symm.trans hm
            refine lv_iconst (v := 1) hx hb dX8_gives_111 (by decide) ?_
            refine lv_goto (tgt := 116) hx hb dX8_gives_112 (by decide) ?_
            exact W.zret (v := 1) hx hb hr rfl (fun T hT hW => ⟨⟨1, σ, rfl, ⟨Option.some.inj hm, rfl⟩, by rw [posW, hT]; exact hP⟩, hS.F hT⟩) hS.2.2 dX8_gives_116
        · have hm := (if_neg c8).symm.trans hm
          have sc8 := sw_ne (k := 3) c8 rfl
          by_cases c10 : p1 = 4
          · have hm := (if_pos c10).symm.trans hm
            refine lv_tableIn (tgt := 117) hx hb dX8_gives_1 (by rw [c10]; decide) (by rw [c10]; decide) (by rw [c10]; rfl) (by decide) ?_
            refine lv_aload_n hx hb dX8_gives_117 rfl (lv_at hl 0 rfl) ?_
            refine gfX8_sorts hx hb h_X8 hown hK hP l_f20 dX8_gives_118 ?_
            refine lv_iload_n hx hb dX8_gives_121 rfl (lv_at hl 2 rfl) ?_
            obtain ⟨hi, hm⟩ := ok_I hm
            refine ldM_3 hx hb hK hP hi dX8_gives_122 ?_
            refine lv_iconst (v := 4) hx hb dX8_gives_123 (by decide) ?_
            refine lv_icmp_ne (tgt := 141) hx hb dX8_gives_124 (by decide) (fun c11 => ?_) (fun c11 => ?_)
            · have hm := (if_neg c11).symm.trans hm
              refine lv_iconst (v := 0) hx hb dX8_gives_141 (by decide) ?_
              exact W.zret (v := 0) hx hb hr rfl (fun T hT hW => ⟨⟨0, σ, rfl, ⟨Option.some.inj hm, rfl⟩, by rw [posW, hT]; exact hP⟩, hS.F hT⟩) hS.2.2 dX8_gives_142
            · have hm := (if_pos c11).symm.trans hm
              refine lv_aload_n hx hb dX8_gives_127 rfl (lv_at hl 0 rfl) ?_
              refine gfX8_firsts hx hb h_X8 hown hK hP l_f23 dX8_gives_128 ?_
              refine lv_iload_n hx hb dX8_gives_131 rfl (lv_at hl 2 rfl) ?_
              obtain ⟨hi, hm⟩ := ok_I hm
              refine ldM_4 hx hb hK hP hi dX8_gives_132 ?_
              refine lv_iload_n hx hb dX8_gives_133 rfl (lv_at hl 3 rfl) ?_
              refine lv_icmp_ne (tgt := 141) hx hb dX8_gives_134 (by decide) (fun c12 => ?_) (fun c12 => ?_)
              · have hm := (if_neg c12).symm.trans hm
                refine lv_iconst (v := 0) hx hb dX8_gives_141 (by decide) ?_
                exact W.zret (v := 0) hx hb hr rfl (fun T hT hW => ⟨⟨0, σ, rfl, ⟨Option.some.inj hm, rfl⟩, by rw [posW, hT]; exact hP⟩, hS.F hT⟩) hS.2.2 dX8_gives_142
              · have hm := (if_pos c12).symm.trans hm
                refine lv_iconst (v := 1) hx hb dX8_gives_137 (by decide) ?_
                refine lv_goto (tgt := 142) hx hb dX8_gives_138 (by decide) ?_
                exact W.zret (v := 1) hx hb hr rfl (fun T hT hW => ⟨⟨1, σ, rfl, ⟨Option.some.inj hm, rfl⟩, by rw [posW, hT]; exact hP⟩, hS.F hT⟩) hS.2.2 dX8_gives_142
          · have hm := (if_neg c10).symm.trans hm
            have sc10 := sw_ne (k := 4) c10 rfl
            by_cases c13 : p1 = 5
            · have hm := (if_pos c13).symm.trans hm
              refine lv_tableIn (tgt := 143) hx hb dX8_gives_1 (by rw [c13]; decide) (by rw [c13]; decide) (by rw [c13]; rfl) (by decide) ?_
              refine lv_aload_n hx hb dX8_gives_143 rfl (lv_at hl 0 rfl) ?_
              refine gfX8_sorts hx hb h_X8 hown hK hP l_f20 dX8_gives_144 ?_
              refine lv_iload_n hx hb dX8_gives_147 rfl (lv_at hl 2 rfl) ?_
              obtain ⟨hi, hm⟩ := ok_I hm
              refine ldM_3 hx hb hK hP hi dX8_gives_148 ?_
              refine lv_iconst (v := 4) hx hb dX8_gives_149 (by decide) ?_
              refine lv_icmp_ne (tgt := 167) hx hb dX8_gives_150 (by decide) (fun c14 => ?_) (fun c14 => ?_)
              · have hm := (if_neg c14).symm.trans hm
                refine lv_iconst (v := 0) hx hb dX8_gives_167 (by decide) ?_
                exact W.zret (v := 0) hx hb hr rfl (fun T hT hW => ⟨⟨0, σ, rfl, ⟨Option.some.inj hm, rfl⟩, by rw [posW, hT]; exact hP⟩, hS.F hT⟩) hS.2.2 dX8_gives_168
              · have hm := (if_pos c14).symm.trans hm
                refine lv_aload_n hx hb dX8_gives_153 rfl (lv_at hl 0 rfl) ?_
                refine gfX8_seconds hx hb h_X8 hown hK hP l_f26 dX8_gives_154 ?_
                refine lv_iload_n hx hb dX8_gives_157 rfl (lv_at hl 2 rfl) ?_
                obtain ⟨hi, hm⟩ := ok_I hm
                refine ldM_5 hx hb hK hP hi dX8_gives_158 ?_
                refine lv_iload_n hx hb dX8_gives_159 rfl (lv_at hl 3 rfl) ?_
                refine lv_icmp_ne (tgt := 167) hx hb dX8_gives_160 (by decide) (fun c15 => ?_) (fun c15 => ?_)
                · have hm := (if_neg c15).symm.trans hm
                  refine lv_iconst (v := 0) hx hb dX8_gives_167 (by decide) ?_
                  exact W.zret (v := 0) hx hb hr rfl (fun T hT hW => ⟨⟨0, σ, rfl, ⟨Option.some.inj hm, rfl⟩, by rw [posW, hT]; exact hP⟩, hS.F hT⟩) hS.2.2 dX8_gives_168
                · have hm := (if_pos c15).symm.trans hm
                  refine lv_iconst (v := 1) hx hb dX8_gives_163 (by decide) ?_
                  refine lv_goto (tgt := 168) hx hb dX8_gives_164 (by decide) ?_
                  exact W.zret (v := 1) hx hb hr rfl (fun T hT hW => ⟨⟨1, σ, rfl, ⟨Option.some.inj hm, rfl⟩, by rw [posW, hT]; exact hP⟩, hS.F hT⟩) hS.2.2 dX8_gives_168
            · have hm := (if_neg c13).symm.trans hm
              have sc13 := sw_ne (k := 5) c13 rfl
              by_cases c16 : p1 = 6
              · have hm := (if_pos c16).symm.trans hm
                refine lv_tableIn (tgt := 169) hx hb dX8_gives_1 (by rw [c16]; decide) (by rw [c16]; decide) (by rw [c16]; rfl) (by decide) ?_
                refine lv_aload_n hx hb dX8_gives_169 rfl (lv_at hl 0 rfl) ?_
                refine gfX8_shown hx hb h_X8 hown hK hP l_f40 dX8_gives_170 ?_
                refine lv_aload_n hx hb dX8_gives_173 rfl (lv_at hl 0 rfl) ?_
                refine gfX8_begins hx hb h_X8 hown hK hP l_f52 dX8_gives_174 ?_
                refine lv_iload hx hb dX8_gives_177 (lv_at hl 6 rfl) ?_
                obtain ⟨hi, hm⟩ := ok_I hm
                refine ldM_13 hx hb hK hP hi dX8_gives_179 ?_
                obtain ⟨hi, hm⟩ := ok_I hm
                refine ldM_9 hx hb hK hP hi dX8_gives_180 ?_
                refine lv_aload_n hx hb dX8_gives_181 rfl (lv_at hl 0 rfl) ?_
                refine gfX8_firsts hx hb h_X8 hown hK hP l_f23 dX8_gives_182 ?_
                refine lv_iload_n hx hb dX8_gives_185 rfl (lv_at hl 3 rfl) ?_
                obtain ⟨hi, hm⟩ := ok_I hm
                refine ldM_4 hx hb hK hP hi dX8_gives_186 ?_
                refine lv_icmp_ne (tgt := 247) hx hb dX8_gives_187 (by decide) (fun c17 => ?_) (fun c17 => ?_)
                · have hm := (if_neg c17).symm.trans hm
                  refine lv_iconst (v := 0) hx hb dX8_gives_247 (by decide) ?_
                  exact W.zret (v := 0) hx hb hr rfl (fun T hT hW => ⟨⟨0, σ, rfl, ⟨Option.some.inj hm, rfl⟩, by rw [posW, hT]; exact hP⟩, hS.F hT⟩) hS.2.2 dX8_gives_248
                · have hm := (if_pos c17).symm.trans hm
                  refine lv_aload_n hx hb dX8_gives_190 rfl (lv_at hl 0 rfl) ?_
                  refine gfX8_shown hx hb h_X8 hown hK hP l_f40 dX8_gives_191 ?_
                  refine lv_aload_n hx hb dX8_gives_194 rfl (lv_at hl 0 rfl) ?_
                  refine gfX8_begins hx hb h_X8 hown hK hP l_f52 dX8_gives_195 ?_
                  refine lv_iload hx hb dX8_gives_198 (lv_at hl 7 rfl) ?_
                  obtain ⟨hi, hm⟩ := ok_I hm
                  refine ldM_13 hx hb hK hP hi dX8_gives_200 ?_
                  obtain ⟨hi, hm⟩ := ok_I hm
                  refine ldM_9 hx hb hK hP hi dX8_gives_201 ?_
                  refine lv_aload_n hx hb dX8_gives_202 rfl (lv_at hl 0 rfl) ?_
                  refine gfX8_seconds hx hb h_X8 hown hK hP l_f26 dX8_gives_203 ?_
                  refine lv_iload_n hx hb dX8_gives_206 rfl (lv_at hl 3 rfl) ?_
                  obtain ⟨hi, hm⟩ := ok_I hm
                  refine ldM_5 hx hb hK hP hi dX8_gives_207 ?_
                  refine lv_icmp_ne (tgt := 247) hx hb dX8_gives_208 (by decide) (fun c18 => ?_) (fun c18 => ?_)
                  · have hm := (if_neg c18).symm.trans hm
                    refine lv_iconst (v := 0) hx hb dX8_gives_247 (by decide) ?_
                    exact W.zret (v := 0) hx hb hr rfl (fun T hT hW => ⟨⟨0, σ, rfl, ⟨Option.some.inj hm, rfl⟩, by rw [posW, hT]; exact hP⟩, hS.F hT⟩) hS.2.2 dX8_gives_248
                  · have hm := (if_pos c18).symm.trans hm
                    refine lv_aload_n hx hb dX8_gives_211 rfl (lv_at hl 0 rfl) ?_
                    refine gfX8_shown hx hb h_X8 hown hK hP l_f40 dX8_gives_212 ?_
                    refine lv_aload_n hx hb dX8_gives_215 rfl (lv_at hl 0 rfl) ?_
                    refine gfX8_ends hx hb h_X8 hown hK hP l_f55 dX8_gives_216 ?_
                    refine lv_iload hx hb dX8_gives_219 (lv_at hl 6 rfl) ?_
                    obtain ⟨hi, hm⟩ := ok_I hm
                    refine ldM_14 hx hb hK hP hi dX8_gives_221 ?_
                    obtain ⟨hi, hm⟩ := ok_I hm
                    refine ldM_9 hx hb hK hP hi dX8_gives_222 ?_
                    refine lv_iload_n hx hb dX8_gives_223 rfl (lv_at hl 2 rfl) ?_
                    refine lv_icmp_ne (tgt := 247) hx hb dX8_gives_224 (by decide) (fun c19 => ?_) (fun c19 => ?_)
                    · have hm := (if_neg c19).symm.trans hm
                      refine lv_iconst (v := 0) hx hb dX8_gives_247 (by decide) ?_
                      exact W.zret (v := 0) hx hb hr rfl (fun T hT hW => ⟨⟨0, σ, rfl, ⟨Option.some.inj hm, rfl⟩, by rw [posW, hT]; exact hP⟩, hS.F hT⟩) hS.2.2 dX8_gives_248
                    · have hm := (if_pos c19).symm.trans hm
                      refine lv_aload_n hx hb dX8_gives_227 rfl (lv_at hl 0 rfl) ?_
                      refine gfX8_shown hx hb h_X8 hown hK hP l_f40 dX8_gives_228 ?_
                      refine lv_aload_n hx hb dX8_gives_231 rfl (lv_at hl 0 rfl) ?_
                      refine gfX8_ends hx hb h_X8 hown hK hP l_f55 dX8_gives_232 ?_
                      refine lv_iload hx hb dX8_gives_235 (lv_at hl 7 rfl) ?_
                      obtain ⟨hi, hm⟩ := ok_I hm
                      refine ldM_14 hx hb hK hP hi dX8_gives_237 ?_
                      obtain ⟨hi, hm⟩ := ok_I hm
                      refine ldM_9 hx hb hK hP hi dX8_gives_238 ?_
                      refine lv_iload_n hx hb dX8_gives_239 rfl (lv_at hl 2 rfl) ?_
                      refine lv_icmp_ne (tgt := 247) hx hb dX8_gives_240 (by decide) (fun c20 => ?_) (fun c20 => ?_)
                      · have hm := (if_neg c20).symm.trans hm
                        refine lv_iconst (v := 0) hx hb dX8_gives_247 (by decide) ?_
                        exact W.zret (v := 0) hx hb hr rfl (fun T hT hW => ⟨⟨0, σ, rfl, ⟨Option.some.inj hm, rfl⟩, by rw [posW, hT]; exact hP⟩, hS.F hT⟩) hS.2.2 dX8_gives_248
                      · have hm := (if_pos c20).symm.trans hm
                        refine lv_iconst (v := 1) hx hb dX8_gives_243 (by decide) ?_
                        refine lv_goto (tgt := 248) hx hb dX8_gives_244 (by decide) ?_
                        exact W.zret (v := 1) hx hb hr rfl (fun T hT hW => ⟨⟨1, σ, rfl, ⟨Option.some.inj hm, rfl⟩, by rw [posW, hT]; exact hP⟩, hS.F hT⟩) hS.2.2 dX8_gives_248
              · have hm := (if_neg c16).symm.trans hm
                have sc16 := sw_ne (k := 6) c16 rfl
                by_cases c21 : p1 = 7
                · have hm := (if_pos c21).symm.trans hm
                  refine lv_tableIn (tgt := 249) hx hb dX8_gives_1 (by rw [c21]; decide) (by rw [c21]; decide) (by rw [c21]; rfl) (by decide) ?_
                  refine lv_aload_n hx hb dX8_gives_249 rfl (lv_at hl 0 rfl) ?_
                  refine lv_iload_n hx hb dX8_gives_250 rfl (lv_at hl 2 rfl) ?_
                  refine lv_iconst (v := 5) hx hb dX8_gives_251 (by decide) ?_
                  refine lv_aload_n hx hb dX8_gives_252 rfl (lv_at hl 0 rfl) ?_
                  refine gfX8_shown hx hb h_X8 hown hK hP l_f40 dX8_gives_253 ?_
                  refine lv_aload_n hx hb dX8_gives_256 rfl (lv_at hl 0 rfl) ?_
                  refine gfX8_begins hx hb h_X8 hown hK hP l_f52 dX8_gives_257 ?_
                  refine lv_iload hx hb dX8_gives_260 (lv_at hl 5 rfl) ?_
                  obtain ⟨hi, hm⟩ := ok_I hm
                  refine ldM_13 hx hb hK hP hi dX8_gives_262 ?_
                  obtain ⟨hi, hm⟩ := ok_I hm
                  refine ldM_9 hx hb hK hP hi dX8_gives_263 ?_
                  refine lv_iload_n hx hb dX8_gives_264 rfl (lv_at hl 3 rfl) ?_
                  obtain ⟨r22, h23, hm⟩ := ok_bind hm
                  refine calV_i (As := [.int p2, .int 5, .int (σ.1 21 (σ.1 25 p5.toNatClampNeg).toNatClampNeg), .int p3]) (rest := []) ⟨hx, hb, hml, hown, hts⟩ (kX8_isMade l D y a t hI _ σ p2 5 (σ.1 21 (σ.1 25 p5.toNatClampNeg).toNatClampNeg) p3 r22 h23) (cwV 4 hts (gAV aM_X8_253 aI_X8_isMade aS_X8_isMade aN_X8 aC_X8_isMade) rfl rfl rfl eX8_isMade ⟨Nat.le_of_ble_eq_true rfl, Nat.le_of_ble_eq_true rfl⟩) (preV_W (ci := 8) (q := (RX8, TX8, 42)) hK hP hF hS rfl (wM_0 y a σ)) rfl hl.1 rfl (Nat.le_of_ble_eq_true rfl) dX8_gives_265 ⟨Nat.zero_le _, Nat.zero_le _⟩ hS (AC_le hS.1) (fun H locs hP hS hk1 => ?_)
                  obtain ⟨hz, hm⟩ := ok_Z hm
                  exact W.zret (v := r22) hx hb hr hz (fun T hT hW => ⟨⟨r22, σ, rfl, ⟨Option.some.inj hm, rfl⟩, by rw [posW, hT]; exact hP⟩, hS.F hT⟩) hS.2.2 dX8_gives_268
                · have hm := (if_neg c21).symm.trans hm
                  have sc21 := sw_ne (k := 7) c21 rfl
                  by_cases c24 : p1 = 8
                  · have hm := (if_pos c24).symm.trans hm
                    refine lv_tableIn (tgt := 269) hx hb dX8_gives_1 (by rw [c24]; decide) (by rw [c24]; decide) (by rw [c24]; rfl) (by decide) ?_
                    refine lv_aload_n hx hb dX8_gives_269 rfl (lv_at hl 0 rfl) ?_
                    refine gfX8_firsts hx hb h_X8 hown hK hP l_f23 dX8_gives_270 ?_
                    refine lv_iload_n hx hb dX8_gives_273 rfl (lv_at hl 3 rfl) ?_
                    obtain ⟨hi, hm⟩ := ok_I hm
                    refine ldM_4 hx hb hK hP hi dX8_gives_274 ?_
                    refine lv_iload hx hb dX8_gives_275 (lv_at hl 4 rfl) ?_
                    refine lv_icmp_ne (tgt := 294) hx hb dX8_gives_277 (by decide) (fun c25 => ?_) (fun c25 => ?_)
                    · have hm := (if_neg c25).symm.trans hm
                      refine lv_iconst (v := 0) hx hb dX8_gives_294 (by decide) ?_
                      exact W.zret (v := 0) hx hb hr rfl (fun T hT hW => ⟨⟨0, σ, rfl, ⟨Option.some.inj hm, rfl⟩, by rw [posW, hT]; exact hP⟩, hS.F hT⟩) hS.2.2 dX8_gives_295
                    · have hm := (if_pos c25).symm.trans hm
                      refine lv_aload_n hx hb dX8_gives_280 rfl (lv_at hl 0 rfl) ?_
                      refine gfX8_seconds hx hb h_X8 hown hK hP l_f26 dX8_gives_281 ?_
                      refine lv_iload_n hx hb dX8_gives_284 rfl (lv_at hl 3 rfl) ?_
                      obtain ⟨hi, hm⟩ := ok_I hm
                      refine ldM_5 hx hb hK hP hi dX8_gives_285 ?_
                      refine lv_iload_n hx hb dX8_gives_286 rfl (lv_at hl 2 rfl) ?_
                      refine lv_icmp_ne (tgt := 294) hx hb dX8_gives_287 (by decide) (fun c26 => ?_) (fun c26 => ?_)
                      · have hm := (if_neg c26).symm.trans hm
                        refine lv_iconst (v := 0) hx hb dX8_gives_294 (by decide) ?_
                        exact W.zret (v := 0) hx hb hr rfl (fun T hT hW => ⟨⟨0, σ, rfl, ⟨Option.some.inj hm, rfl⟩, by rw [posW, hT]; exact hP⟩, hS.F hT⟩) hS.2.2 dX8_gives_295
                      · have hm := (if_pos c26).symm.trans hm
                        refine lv_iconst (v := 1) hx hb dX8_gives_290 (by decide) ?_
                        refine lv_goto (tgt := 295) hx hb dX8_gives_291 (by decide) ?_
                        exact W.zret (v := 1) hx hb hr rfl (fun T hT hW => ⟨⟨1, σ, rfl, ⟨Option.some.inj hm, rfl⟩, by rw [posW, hT]; exact hP⟩, hS.F hT⟩) hS.2.2 dX8_gives_295
                  · have hm := (if_neg c24).symm.trans hm
                    have sc24 := sw_ne (k := 8) c24 rfl
                    by_cases c27 : p1 = 9
                    · have hm := (if_pos c27).symm.trans hm
                      refine lv_tableIn (tgt := 296) hx hb dX8_gives_1 (by rw [c27]; decide) (by rw [c27]; decide) (by rw [c27]; rfl) (by decide) ?_
                      refine lv_aload_n hx hb dX8_gives_296 rfl (lv_at hl 0 rfl) ?_
                      refine lv_iload_n hx hb dX8_gives_297 rfl (lv_at hl 2 rfl) ?_
                      refine lv_iconst (v := 2) hx hb dX8_gives_298 (by decide) ?_
                      refine lv_aload_n hx hb dX8_gives_299 rfl (lv_at hl 0 rfl) ?_
                      refine gfX8_shown hx hb h_X8 hown hK hP l_f40 dX8_gives_300 ?_
                      refine lv_aload_n hx hb dX8_gives_303 rfl (lv_at hl 0 rfl) ?_
                      refine gfX8_begins hx hb h_X8 hown hK hP l_f52 dX8_gives_304 ?_
                      refine lv_iload hx hb dX8_gives_307 (lv_at hl 5 rfl) ?_
                      obtain ⟨hi, hm⟩ := ok_I hm
                      refine ldM_13 hx hb hK hP hi dX8_gives_309 ?_
                      obtain ⟨hi, hm⟩ := ok_I hm
                      refine ldM_9 hx hb hK hP hi dX8_gives_310 ?_
                      refine lv_iconst (v := (-1)) hx hb dX8_gives_311 (by decide) ?_
                      obtain ⟨r28, h29, hm⟩ := ok_bind hm
                      refine calV_i (As := [.int p2, .int 2, .int (σ.1 21 (σ.1 25 p5.toNatClampNeg).toNatClampNeg), .int (-1)]) (rest := []) ⟨hx, hb, hml, hown, hts⟩ (kX8_isMade l D y a t hI _ σ p2 2 (σ.1 21 (σ.1 25 p5.toNatClampNeg).toNatClampNeg) (-1) r28 h29) (cwV 4 hts (gAV aM_X8_253 aI_X8_isMade aS_X8_isMade aN_X8 aC_X8_isMade) rfl rfl rfl eX8_isMade ⟨Nat.le_of_ble_eq_true rfl, Nat.le_of_ble_eq_true rfl⟩) (preV_W (ci := 8) (q := (RX8, TX8, 42)) hK hP hF hS rfl (wM_0 y a σ)) rfl hl.1 rfl (Nat.le_of_ble_eq_true rfl) dX8_gives_312 ⟨Nat.zero_le _, Nat.zero_le _⟩ hS (AC_le hS.1) (fun H locs hP hS hk1 => ?_)
                      obtain ⟨hz, hm⟩ := ok_Z hm
                      exact W.zret (v := r28) hx hb hr hz (fun T hT hW => ⟨⟨r28, σ, rfl, ⟨Option.some.inj hm, rfl⟩, by rw [posW, hT]; exact hP⟩, hS.F hT⟩) hS.2.2 dX8_gives_315
                    · have hm := (if_neg c27).symm.trans hm
                      have sc27 := sw_ne (k := 9) c27 rfl
                      by_cases c30 : p1 = 10
                      · have hm := (if_pos c30).symm.trans hm
                        refine lv_tableIn (tgt := 316) hx hb dX8_gives_1 (by rw [c30]; decide) (by rw [c30]; decide) (by rw [c30]; rfl) (by decide) ?_
                        refine lv_aload_n hx hb dX8_gives_316 rfl (lv_at hl 0 rfl) ?_
                        refine gfX8_firsts hx hb h_X8 hown hK hP l_f23 dX8_gives_317 ?_
                        refine lv_iload hx hb dX8_gives_320 (lv_at hl 4 rfl) ?_
                        obtain ⟨hi, hm⟩ := ok_I hm
                        refine ldM_4 hx hb hK hP hi dX8_gives_322 ?_
                        refine lv_iload_n hx hb dX8_gives_323 rfl (lv_at hl 3 rfl) ?_
                        refine lv_icmp_ne (tgt := 341) hx hb dX8_gives_324 (by decide) (fun c31 => ?_) (fun c31 => ?_)
                        · have hm := (if_neg c31).symm.trans hm
                          refine lv_iconst (v := 0) hx hb dX8_gives_341 (by decide) ?_
                          exact W.zret (v := 0) hx hb hr rfl (fun T hT hW => ⟨⟨0, σ, rfl, ⟨Option.some.inj hm, rfl⟩, by rw [posW, hT]; exact hP⟩, hS.F hT⟩) hS.2.2 dX8_gives_342
                        · have hm := (if_pos c31).symm.trans hm
                          refine lv_aload_n hx hb dX8_gives_327 rfl (lv_at hl 0 rfl) ?_
                          refine gfX8_sorts hx hb h_X8 hown hK hP l_f20 dX8_gives_328 ?_
                          refine lv_iload_n hx hb dX8_gives_331 rfl (lv_at hl 2 rfl) ?_
                          obtain ⟨hi, hm⟩ := ok_I hm
                          refine ldM_3 hx hb hK hP hi dX8_gives_332 ?_
                          refine lv_iconst (v := 1) hx hb dX8_gives_333 (by decide) ?_
                          refine lv_icmp_ne (tgt := 341) hx hb dX8_gives_334 (by decide) (fun c32 => ?_) (fun c32 => ?_)
                          · have hm := (if_neg c32).symm.trans hm
                            refine lv_iconst (v := 0) hx hb dX8_gives_341 (by decide) ?_
                            exact W.zret (v := 0) hx hb hr rfl (fun T hT hW => ⟨⟨0, σ, rfl, ⟨Option.some.inj hm, rfl⟩, by rw [posW, hT]; exact hP⟩, hS.F hT⟩) hS.2.2 dX8_gives_342
                          · have hm := (if_pos c32).symm.trans hm
                            refine lv_iconst (v := 1) hx hb dX8_gives_337 (by decide) ?_
                            refine lv_goto (tgt := 342) hx hb dX8_gives_338 (by decide) ?_
                            exact W.zret (v := 1) hx hb hr rfl (fun T hT hW => ⟨⟨1, σ, rfl, ⟨Option.some.inj hm, rfl⟩, by rw [posW, hT]; exact hP⟩, hS.F hT⟩) hS.2.2 dX8_gives_342
                      · have hm := (if_neg c30).symm.trans hm
                        have sc30 := sw_ne (k := 10) c30 rfl
                        by_cases c33 : p1 = 11
                        · have hm := (if_pos c33).symm.trans hm
                          refine lv_tableIn (tgt := 343) hx hb dX8_gives_1 (by rw [c33]; decide) (by rw [c33]; decide) (by rw [c33]; rfl) (by decide) ?_
                          refine lv_iconst (v := 1) hx hb dX8_gives_343 (by decide) ?_
                          exact W.zret (v := 1) hx hb hr rfl (fun T hT hW => ⟨⟨1, σ, rfl, ⟨Option.some.inj hm, rfl⟩, by rw [posW, hT]; exact hP⟩, hS.F hT⟩) hS.2.2 dX8_gives_344
                        · have hm := (if_neg c33).symm.trans hm
                          have sc33 := sw_ne (k := 11) c33 rfl
                          refine lv_tableOut (tgt := 345) hx hb dX8_gives_1 (by omega) (by decide) ?_
                          refine lv_aload_n hx hb dX8_gives_345 rfl (lv_at hl 0 rfl) ?_
                          refine gfX8_firsts hx hb h_X8 hown hK hP l_f23 dX8_gives_346 ?_
                          refine lv_aload_n hx hb dX8_gives_349 rfl (lv_at hl 0 rfl) ?_
                          refine gfX8_firsts hx hb h_X8 hown hK hP l_f23 dX8_gives_350 ?_
                          refine lv_iload_n hx hb dX8_gives_353 rfl (lv_at hl 3 rfl) ?_
                          obtain ⟨hi, hm⟩ := ok_I hm
                          refine ldM_4 hx hb hK hP hi dX8_gives_354 ?_
                          obtain ⟨hi, hm⟩ := ok_I hm
                          refine ldM_4 hx hb hK hP hi dX8_gives_355 ?_
                          refine lv_iload_n hx hb dX8_gives_356 rfl (lv_at hl 2 rfl) ?_
                          refine lv_icmp_ne (tgt := 364) hx hb dX8_gives_357 (by decide) (fun c34 => ?_) (fun c34 => ?_)
                          · have hm := (if_neg c34).symm.trans hm
                            refine lv_iconst (v := 0) hx hb dX8_gives_364 (by decide) ?_
                            exact W.zret (v := 0) hx hb hr rfl (fun T hT hW => ⟨⟨0, σ, rfl, ⟨Option.some.inj hm, rfl⟩, by rw [posW, hT]; exact hP⟩, hS.F hT⟩) hS.2.2 dX8_gives_365
                          · have hm := (if_pos c34).symm.trans hm
                            refine lv_iconst (v := 1) hx hb dX8_gives_360 (by decide) ?_
                            refine lv_goto (tgt := 365) hx hb dX8_gives_361 (by decide) ?_
                            exact W.zret (v := 1) hx hb hr rfl (fun T hT hW => ⟨⟨1, σ, rfl, ⟨Option.some.inj hm, rfl⟩, by rw [posW, hT]; exact hP⟩, hS.F hT⟩) hS.2.2 dX8_gives_365
