theorem eX3_lineCount : yX3_lineCount.cls = RX3 ∧ yX3_lineCount.cls ≠ "java/lang/invoke/MethodHandle" ∧ yX3_lineCount.cls ≠ "java/lang/invoke/VarHandle" ∧ (parseMethodDescriptor yX3_lineCount.desc).map (fun d => d.parameters.length) = some 0 := by decide +kernel
def mX3_lineCount (σ : St) : Option Int32 :=
some (σ.1 8 0)
set_option maxHeartbeats 4000000 in
set_option maxRecDepth 100000 in
theorem kX3_lineCount (l : Launch) (D : va_G) (y : Nat → ClassId) (a t : Nat → Nat) (hI : AI a 37) (sz : Nat) (σ : St) (r : Int32) (hm : mX3_lineCount σ = some r) : Met l yX3_lineCount zX3_lineCount { frames := 0, cells := 0, slots := 0, locals := 0 } (va_Pc [.ref (a 5)] (preW (wC y a) a 37 D y t σ sz)) (va_Qi (fun r' u => r' = r ∧ u = σ) (posW (wC y a) D) (AC a 37 sz)) 0 0 (AC a 37 sz) := by
  refine Met.ofW (cc := cX3_lineCount) (maxL := 1) (ret := (some .int)) (by decide) rfl ?_
  intro p e s m args below meth c s₁ B hml hv
  obtain ⟨rfl, hsz, hP, hK, hF⟩ := hv
  have hx := B.exec
  have hb := B.bytes
  have hr := B.returns
  have hts := atoms_spec (ws := zX3_lineCount) B.pre
  have hown : s.vm.findClass RX3 = some m.cls := findClass_of_methodNamed B.named
  have hlocks := B.notSynchronized
  subst hsz
  have l_f49 := hts _ (List.mem_cons_of_mem _ aF_X3_49)
  have h_X3 : ∀ w ∈ wsX30, w.before _ s = true := fun w hw => hts w (List.mem_cons_of_mem _ (hwX3 w hw))
  have hS : va_S (AC a 37 s.heap.size) s.heap s.heap [] := va_S.rf
  have hl := lv_entry ([.ref (a 5)]) (n := 1) (Nat.le_of_ble_eq_true rfl)
  rw [lg_entry_eq]
  generalize (lg_sl ([.ref (a 5)]) ++ List.replicate (1 - (lg_sl ([.ref (a 5)])).length) Slot.unset).toArray = ls at hl ⊢
  have hl : lv_has ls 1 [(0, .ref (a 5))] := hl
  unfold mX3_lineCount at hm
  refine lv_aload_n hx hb dX3_lineCount_0 rfl (lv_at hl 0 rfl) ?_
  refine gfX3_lineCount hx hb h_X3 hown hK hP l_f49 dX3_lineCount_1 ?_
  exact W.iret (v := σ.1 8 0) hx hb hr (fun T hT hW => ⟨⟨σ.1 8 0, σ, rfl, ⟨Option.some.inj hm, rfl⟩, by rw [posW, hT]; exact hP⟩, hS.F hT⟩) hS.2.2 dX3_lineCount_4
theorem eX3_boxCount : yX3_boxCount.cls = RX3 ∧ yX3_boxCount.cls ≠ "java/lang/invoke/MethodHandle" ∧ yX3_boxCount.cls ≠ "java/lang/invoke/VarHandle" ∧ (parseMethodDescriptor yX3_boxCount.desc).map (fun d => d.parameters.length) = some 0 := by decide +kernel
def mX3_boxCount (σ : St) : Option Int32 :=
(mX0_known σ).bind fun r1 =>
some r1
set_option maxHeartbeats 4000000 in
set_option maxRecDepth 100000 in
theorem kX3_boxCount (l : Launch) (D : va_G) (y : Nat → ClassId) (a t : Nat → Nat) (hI : AI a 37) (sz : Nat) (σ : St) (r : Int32) (hm : mX3_boxCount σ = some r) : Met l yX3_boxCount zX3_boxCount { frames := 1, cells := 0, slots := 0, locals := 20 } (va_Pc [.ref (a 5)] (preW (wC y a) a 37 D y t σ sz)) (va_Qi (fun r' u => r' = r ∧ u = σ) (posW (wC y a) D) (AC a 37 sz)) 0 0 (AC a 37 sz) := by
  refine Met.ofW (cc := cX3_boxCount) (maxL := 1) (ret := (some .int)) (by decide) rfl ?_
  intro p e s m args below meth c s₁ B hml hv
  obtain ⟨rfl, hsz, hP, hK, hF⟩ := hv
  have hx := B.exec
  have hb := B.bytes
  have hr := B.returns
  have hts := atoms_spec (ws := zX3_boxCount) B.pre
  have hown : s.vm.findClass RX3 = some m.cls := findClass_of_methodNamed B.named
  have hlocks := B.notSynchronized
  subst hsz
  have l_f12 := hts _ (List.mem_cons_of_mem _ aF_X3_12)
  have h_X3 : ∀ w ∈ wsX30, w.before _ s = true := fun w hw => hts w (List.mem_cons_of_mem _ (hwX3 w hw))
  have hS : va_S (AC a 37 s.heap.size) s.heap s.heap [] := va_S.rf
  have hl := lv_entry ([.ref (a 5)]) (n := 1) (Nat.le_of_ble_eq_true rfl)
  rw [lg_entry_eq]
  generalize (lg_sl ([.ref (a 5)]) ++ List.replicate (1 - (lg_sl ([.ref (a 5)])).length) Slot.unset).toArray = ls at hl ⊢
  have hl : lv_has ls 1 [(0, .ref (a 5))] := hl
  unfold mX3_boxCount at hm
  refine lv_aload_n hx hb dX3_boxCount_0 rfl (lv_at hl 0 rfl) ?_
  refine gfX3_boxes hx hb h_X3 hown hK hP l_f12 dX3_boxCount_1 ?_
  obtain ⟨r1, h2, hm⟩ := ok_bind hm
  refine calV_i (As := []) (rest := []) ⟨hx, hb, hml, hown, hts⟩ (kX0_known l D y a t hI _ σ r1 h2) (cwV 0 hts (gAV aM_X3_53 aI_X0_known aS_X0_known aN_X0 aC_X0_known) rfl rfl rfl eX0_known ⟨Nat.le_of_ble_eq_true rfl, Nat.le_of_ble_eq_true rfl⟩) (preV_W (ci := 0) (q := (RX0, TX0, 6)) hK hP hF hS rfl (wC_6 y a σ)) rfl hl.1 rfl (Nat.le_of_ble_eq_true rfl) dX3_boxCount_4 ⟨Nat.zero_le _, Nat.zero_le _⟩ hS (AC_le hS.1) (fun H locs hP hS hk1 => ?_)
  exact W.iret (v := r1) hx hb hr (fun T hT hW => ⟨⟨r1, σ, rfl, ⟨Option.some.inj hm, rfl⟩, by rw [posW, hT]; exact hP⟩, hS.F hT⟩) hS.2.2 dX3_boxCount_7
theorem eX3_openCount : yX3_openCount.cls = RX3 ∧ yX3_openCount.cls ≠ "java/lang/invoke/MethodHandle" ∧ yX3_openCount.cls ≠ "java/lang/invoke/VarHandle" ∧ (parseMethodDescriptor yX3_openCount.desc).map (fun d => d.parameters.length) = some 0 := by decide +kernel
def mX3_openCount (σ : St) : Option Int32 :=
(mX0_open σ).bind fun r1 =>
some r1
set_option maxHeartbeats 4000000 in
set_option maxRecDepth 100000 in
theorem kX3_openCount (l : Launch) (D : va_G) (y : Nat → ClassId) (a t : Nat → Nat) (hI : AI a 37) (sz : Nat) (σ : St) (r : Int32) (hm : mX3_openCount σ = some r) : Met l yX3_openCount zX3_openCount { frames := 1, cells := 0, slots := 0, locals := 20 } (va_Pc [.ref (a 5)] (preW (wC y a) a 37 D y t σ sz)) (va_Qi (fun r' u => r' = r ∧ u = σ) (posW (wC y a) D) (AC a 37 sz)) 0 0 (AC a 37 sz) := by
  refine Met.ofW (cc := cX3_openCount) (maxL := 1) (ret := (some .int)) (by decide) rfl ?_
  intro p e s m args below meth c s₁ B hml hv
  obtain ⟨rfl, hsz, hP, hK, hF⟩ := hv
  have hx := B.exec
  have hb := B.bytes
  have hr := B.returns
  have hts := atoms_spec (ws := zX3_openCount) B.pre
  have hown : s.vm.findClass RX3 = some m.cls := findClass_of_methodNamed B.named
  have hlocks := B.notSynchronized
  subst hsz
  have l_f12 := hts _ (List.mem_cons_of_mem _ aF_X3_12)
  have h_X3 : ∀ w ∈ wsX30, w.before _ s = true := fun w hw => hts w (List.mem_cons_of_mem _ (hwX3 w hw))
  have hS : va_S (AC a 37 s.heap.size) s.heap s.heap [] := va_S.rf
  have hl := lv_entry ([.ref (a 5)]) (n := 1) (Nat.le_of_ble_eq_true rfl)
  rw [lg_entry_eq]
  generalize (lg_sl ([.ref (a 5)]) ++ List.replicate (1 - (lg_sl ([.ref (a 5)])).length) Slot.unset).toArray = ls at hl ⊢
  have hl : lv_has ls 1 [(0, .ref (a 5))] := hl
  unfold mX3_openCount at hm
  refine lv_aload_n hx hb dX3_openCount_0 rfl (lv_at hl 0 rfl) ?_
  refine gfX3_boxes hx hb h_X3 hown hK hP l_f12 dX3_openCount_1 ?_
  obtain ⟨r1, h2, hm⟩ := ok_bind hm
  refine calV_i (As := []) (rest := []) ⟨hx, hb, hml, hown, hts⟩ (kX0_open l D y a t hI _ σ r1 h2) (cwV 0 hts (gAV aM_X3_57 aI_X0_open aS_X0_open aN_X0 aC_X0_open) rfl rfl rfl eX0_open ⟨Nat.le_of_ble_eq_true rfl, Nat.le_of_ble_eq_true rfl⟩) (preV_W (ci := 0) (q := (RX0, TX0, 6)) hK hP hF hS rfl (wC_6 y a σ)) rfl hl.1 rfl (Nat.le_of_ble_eq_true rfl) dX3_openCount_4 ⟨Nat.zero_le _, Nat.zero_le _⟩ hS (AC_le hS.1) (fun H locs hP hS hk1 => ?_)
  exact W.iret (v := r1) hx hb hr (fun T hT hW => ⟨⟨r1, σ, rfl, ⟨Option.some.inj hm, rfl⟩, by rw [posW, hT]; exact hP⟩, hS.F hT⟩) hS.2.2 dX3_openCount_7
theorem eX3_premiseCount : yX3_premiseCount.cls = RX3 ∧ yX3_premiseCount.cls ≠ "java/lang/invoke/MethodHandle" ∧ yX3_premiseCount.cls ≠ "java/lang/invoke/VarHandle" ∧ (parseMethodDescriptor yX3_premiseCount.desc).map (fun d => d.parameters.length) = some 0 := by decide +kernel
def mX3_premiseCount_34 (kh4 : St → Int32 → Int32 → Option Int32) (σ : St) (v1 : Int32) (v2 : Int32) (v3 : Int32) : Option Int32 :=
bnd (v3 + v2) fun x4 =>
bnd (v1 + 1) fun x5 =>
kh4 σ x4 x5
def bX3_premiseCount_4 (kh4 : St → Int32 → Int32 → Option Int32) (σ : St) (v6 : Int32) (v7 : Int32) : Option Int32 :=
if (σ.1 8 0) ≤ v7 then (
some v6)
else (
if 2 ≤ v7 then (
some v6)
else (
chkI v7 60 (
if (σ.1 30 v7.toNatClampNeg) = 15 then (
mX3_premiseCount_34 kh4 σ v7 1 v6)
else (
mX3_premiseCount_34 kh4 σ v7 0 v6))))
abbrev mX3_premiseCount_4 (n : Nat) : St → Int32 → Int32 → Option Int32 := fx (fun _ _ _ => none) (bX3_premiseCount_4) n
def mX3_premiseCount (σ : St) : Option Int32 :=
mX3_premiseCount_4 NF σ 0 0
set_option maxHeartbeats 4000000 in
set_option maxRecDepth 100000 in
theorem kX3_premiseCount (l : Launch) (D : va_G) (y : Nat → ClassId) (a t : Nat → Nat) (hI : AI a 37) (sz : Nat) (σ : St) (r : Int32) (hm : mX3_premiseCount σ = some r) : Met l yX3_premiseCount zX3_premiseCount { frames := 0, cells := 0, slots := 0, locals := 0 } (va_Pc [.ref (a 5)] (preW (wC y a) a 37 D y t σ sz)) (va_Qi (fun r' u => r' = r ∧ u = σ) (posW (wC y a) D) (AC a 37 sz)) 0 0 (AC a 37 sz) := by
  refine Met.ofW (cc := cX3_premiseCount) (maxL := 3) (ret := (some .int)) (by decide) rfl ?_
  intro p e s m args below meth c s₁ B hml hv
  obtain ⟨rfl, hsz, hP, hK, hF⟩ := hv
  have hx := B.exec
  have hb := B.bytes
  have hr := B.returns
  have hts := atoms_spec (ws := zX3_premiseCount) B.pre
  have hown : s.vm.findClass RX3 = some m.cls := findClass_of_methodNamed B.named
  have hlocks := B.notSynchronized
  subst hsz
  have l_f49 := hts _ (List.mem_cons_of_mem _ aF_X3_49)
  have l_f22 := hts _ (List.mem_cons_of_mem _ aF_X3_22)
  have h_X3 : ∀ w ∈ wsX30, w.before _ s = true := fun w hw => hts w (List.mem_cons_of_mem _ (hwX3 w hw))
  have hS : va_S (AC a 37 s.heap.size) s.heap s.heap [] := va_S.rf
  have hl := lv_entry ([.ref (a 5)]) (n := 3) (Nat.le_of_ble_eq_true rfl)
  rw [lg_entry_eq]
  generalize (lg_sl ([.ref (a 5)]) ++ List.replicate (3 - (lg_sl ([.ref (a 5)])).length) Slot.unset).toArray = ls at hl ⊢
  have hl : lv_has ls 3 [(0, .ref (a 5))] := hl
  have L_4 : ∀ (n : Nat) (v6 : Int32) (v7 : Int32) (H : Heap) (locs : List Loc) (ls : Array Slot), va_P D vwCl (wC y a σ) H → va_S (AC a 37 s.heap.size) s.heap H locs → lv_has ls 3 [(0, .ref (a 5)), (1, .int v6), (2, .int v7)] → mX3_premiseCount_4 n σ v6 v7 = some r → W p l e (headSpec zX3_premiseCount ({ frames := 0, cells := 0, slots := 0, locals := 0 })).room s m ([.ref (a 5)] : List Value).toArray below meth c H locs 0 0 (MQ below (va_Qi (fun r' u => r' = r ∧ u = σ) (posW (wC y a) D) (AC a 37 s.heap.size)) ([.ref (a 5)] : List Value).toArray s 0 0 (AC a 37 s.heap.size)) (F0 m 4 ls []) := by
    intro n
    induction n with
    | zero =>
      intro v6 v7 H locs ls hP hS hl hm
      exact absurd (show (none : Option Int32) = some r from hm) (by intro h; cases h)
    | succ n ih4 =>
      obtain ⟨kh4, ekh4⟩ : ∃ z, z = mX3_premiseCount_4 n := ⟨_, rfl⟩
      have ih4 : ∀ (v6 : Int32) (v7 : Int32) (H : Heap) (locs : List Loc) (ls : Array Slot), va_P D vwCl (wC y a σ) H → va_S (AC a 37 s.heap.size) s.heap H locs → lv_has ls 3 [(0, .ref (a 5)), (1, .int v6), (2, .int v7)] → kh4 σ v6 v7 = some r → W p l e (headSpec zX3_premiseCount ({ frames := 0, cells := 0, slots := 0, locals := 0 })).room s m ([.ref (a 5)] : List Value).toArray below meth c H locs 0 0 (MQ below (va_Qi (fun r' u => r' = r ∧ u = σ) (posW (wC y a) D) (AC a 37 s.heap.size)) ([.ref (a 5)] : List Value).toArray s 0 0 (AC a 37 s.heap.size)) (F0 m 4 ls []) := by rw [ekh4]; exact ih4
      have L_34 : ∀ (v1 : Int32) (v2 : Int32) (v3 : Int32) (H : Heap) (locs : List Loc) (ls : Array Slot), va_P D vwCl (wC y a σ) H → va_S (AC a 37 s.heap.size) s.heap H locs → lv_has ls 3 [(0, .ref (a 5)), (2, .int v1)] → mX3_premiseCount_34 kh4 σ v1 v2 v3 = some r → W p l e (headSpec zX3_premiseCount ({ frames := 0, cells := 0, slots := 0, locals := 0 })).room s m ([.ref (a 5)] : List Value).toArray below meth c H locs 0 0 (MQ below (va_Qi (fun r' u => r' = r ∧ u = σ) (posW (wC y a) D) (AC a 37 s.heap.size)) ([.ref (a 5)] : List Value).toArray s 0 0 (AC a 37 s.heap.size)) (F0 m 34 ls [.int v2, .int v3]) := by
        intro v1 v2 v3 H locs ls hP hS hl hm
        unfold mX3_premiseCount_34 at hm
        refine lv_iadd hx hb dX3_premiseCount_34 ?_
        refine lv_topi (fun x4 ex4 => ?_)
        have hm := bnd_x ex4 hm
        refine lv_istore_n (lv' := [(1, .int x4), (0, .ref (a 5)), (2, .int v1)]) hx hb dX3_premiseCount_35 rfl hl (by decide) rfl (fun ls hl => ?_)
        obtain ⟨x5, ex5⟩ : ∃ z : Int32, z = v1 + 1 := ⟨_, rfl⟩
        have hm := bnd_x ex5 hm
        refine lv_iinc (v := x5) (lv' := [(2, .int x5), (1, .int x4), (0, .ref (a 5))]) hx hb dX3_premiseCount_36 hl (k := 2) rfl (by rw [ex5]; rfl) (by decide) rfl (fun ls hl => ?_)
        refine lv_goto (tgt := 4) hx hb dX3_premiseCount_39 (by decide) ?_
        exact ih4 x4 x5 _ _ _ hP hS (lv_sub hl [2, 1, 0] rfl) hm
      intro v6 v7 H locs ls hP hS hl hm
      have hm : bX3_premiseCount_4 (mX3_premiseCount_4 n) σ v6 v7 = some r := hm
      rw [← ekh4] at hm
      unfold bX3_premiseCount_4 at hm
      refine lv_iload_n hx hb dX3_premiseCount_4 rfl (lv_at hl 2 rfl) ?_
      refine lv_aload_n hx hb dX3_premiseCount_5 rfl (lv_at hl 0 rfl) ?_
      refine gfX3_lineCount hx hb h_X3 hown hK hP l_f49 dX3_premiseCount_6 ?_
      refine lv_icmp_ge (tgt := 42) hx hb dX3_premiseCount_9 (by decide) (fun c8 => ?_) (fun c8 => ?_)
      · have hm := (if_pos c8).symm.trans hm
        refine lv_iload_n hx hb dX3_premiseCount_42 rfl (lv_at hl 1 rfl) ?_
        exact W.iret (v := v6) hx hb hr (fun T hT hW => ⟨⟨v6, σ, rfl, ⟨Option.some.inj hm, rfl⟩, by rw [posW, hT]; exact hP⟩, hS.F hT⟩) hS.2.2 dX3_premiseCount_43
      · have hm := (if_neg c8).symm.trans hm
        refine lv_iload_n hx hb dX3_premiseCount_12 rfl (lv_at hl 2 rfl) ?_
        refine lv_iconst (v := 2) hx hb dX3_premiseCount_13 (by decide) ?_
        refine lv_icmp_ge (tgt := 42) hx hb dX3_premiseCount_14 (by decide) (fun c9 => ?_) (fun c9 => ?_)
        · have hm := (if_pos c9).symm.trans hm
          refine lv_iload_n hx hb dX3_premiseCount_42 rfl (lv_at hl 1 rfl) ?_
          exact W.iret (v := v6) hx hb hr (fun T hT hW => ⟨⟨v6, σ, rfl, ⟨Option.some.inj hm, rfl⟩, by rw [posW, hT]; exact hP⟩, hS.F hT⟩) hS.2.2 dX3_premiseCount_43
        · have hm := (if_neg c9).symm.trans hm
          refine lv_iload_n hx hb dX3_premiseCount_17 rfl (lv_at hl 1 rfl) ?_
          refine lv_aload_n hx hb dX3_premiseCount_18 rfl (lv_at hl 0 rfl) ?_
          refine gfX3_lineRules hx hb h_X3 hown hK hP l_f22 dX3_premiseCount_19 ?_
          refine lv_iload_n hx hb dX3_premiseCount_22 rfl (lv_at hl 2 rfl) ?_
          obtain ⟨hi, hm⟩ := ok_I hm
          refine ldC_27 hx hb hK hP hi dX3_premiseCount_23 ?_
          refine lv_bipush (v := 15) hx hb dX3_premiseCount_24 (by decide) ?_
          refine lv_icmp_ne (tgt := 33) hx hb dX3_premiseCount_26 (by decide) (fun c10 => ?_) (fun c10 => ?_)
          · have hm := (if_neg c10).symm.trans hm
            refine lv_iconst (v := 0) hx hb dX3_premiseCount_33 (by decide) ?_
            exact L_34 v7 0 v6 _ _ _ hP hS (lv_sub hl [0, 2] rfl) hm
          · have hm := (if_pos c10).symm.trans hm
            refine lv_iconst (v := 1) hx hb dX3_premiseCount_29 (by decide) ?_
            refine lv_goto (tgt := 34) hx hb dX3_premiseCount_30 (by decide) ?_
            exact L_34 v7 1 v6 _ _ _ hP hS (lv_sub hl [0, 2] rfl) hm
  unfold mX3_premiseCount at hm
  refine lv_iconst (v := 0) hx hb dX3_premiseCount_0 (by decide) ?_
  refine lv_istore_n (lv' := [(1, .int 0), (0, .ref (a 5))]) hx hb dX3_premiseCount_1 rfl hl (by decide) rfl (fun ls hl => ?_)
  refine lv_iconst (v := 0) hx hb dX3_premiseCount_2 (by decide) ?_
  refine lv_istore_n (lv' := [(2, .int 0), (1, .int 0), (0, .ref (a 5))]) hx hb dX3_premiseCount_3 rfl hl (by decide) rfl (fun ls hl => ?_)
  exact L_4 NF 0 0 _ _ _ hP hS (lv_sub hl [2, 1, 0] rfl) hm
theorem eX3_formulaOf : yX3_formulaOf.cls = RX3 ∧ yX3_formulaOf.cls ≠ "java/lang/invoke/MethodHandle" ∧ yX3_formulaOf.cls ≠ "java/lang/invoke/VarHandle" ∧ (parseMethodDescriptor yX3_formulaOf.desc).map (fun d => d.parameters.length) = some 1 := by decide +kernel
def mX3_formulaOf (σ : St) (p1 : Int32) : Option Int32 :=
if p1 < 0 then (
some (-1))
else (
if (σ.1 8 0) ≤ p1 then (
some (-1))
else (
chkI p1 60 (
some (σ.1 29 p1.toNatClampNeg))))
set_option maxHeartbeats 4000000 in
set_option maxRecDepth 100000 in
theorem kX3_formulaOf (l : Launch) (D : va_G) (y : Nat → ClassId) (a t : Nat → Nat) (hI : AI a 37) (sz : Nat) (σ : St) (p1 : Int32) (r : Int32) (hm : mX3_formulaOf σ p1 = some r) : Met l yX3_formulaOf zX3_formulaOf { frames := 0, cells := 0, slots := 0, locals := 0 } (va_Pc [.ref (a 5), .int p1] (preW (wC y a) a 37 D y t σ sz)) (va_Qi (fun r' u => r' = r ∧ u = σ) (posW (wC y a) D) (AC a 37 sz)) 0 0 (AC a 37 sz) := by
  refine Met.ofW (cc := cX3_formulaOf) (maxL := 2) (ret := (some .int)) (by decide) rfl ?_
  intro p e s m args below meth c s₁ B hml hv
  obtain ⟨rfl, hsz, hP, hK, hF⟩ := hv
  have hx := B.exec
  have hb := B.bytes
  have hr := B.returns
  have hts := atoms_spec (ws := zX3_formulaOf) B.pre
  have hown : s.vm.findClass RX3 = some m.cls := findClass_of_methodNamed B.named
  have hlocks := B.notSynchronized
  subst hsz
  have l_f49 := hts _ (List.mem_cons_of_mem _ aF_X3_49)
  have l_f18 := hts _ (List.mem_cons_of_mem _ aF_X3_18)
  have h_X3 : ∀ w ∈ wsX30, w.before _ s = true := fun w hw => hts w (List.mem_cons_of_mem _ (hwX3 w hw))
  have hS : va_S (AC a 37 s.heap.size) s.heap s.heap [] := va_S.rf
  have hl := lv_entry ([.ref (a 5), .int p1]) (n := 2) (Nat.le_of_ble_eq_true rfl)
  rw [lg_entry_eq]
  generalize (lg_sl ([.ref (a 5), .int p1]) ++ List.replicate (2 - (lg_sl ([.ref (a 5), .int p1])).length) Slot.unset).toArray = ls at hl ⊢
  have hl : lv_has ls 2 [(0, .ref (a 5)), (1, .int p1)] := hl
  unfold mX3_formulaOf at hm
  refine lv_iload_n hx hb dX3_formulaOf_0 rfl (lv_at hl 1 rfl) ?_
  refine lv_if_lt (tgt := 21) hx hb dX3_formulaOf_1 (by decide) (fun c1 => ?_) (fun c1 => ?_)
  · have hm := (if_pos c1).symm.trans hm
    refine lv_iconst (v := (-1)) hx hb dX3_formulaOf_21 (by decide) ?_
    exact W.iret (v := (-1)) hx hb hr (fun T hT hW => ⟨⟨(-1), σ, rfl, ⟨Option.some.inj hm, rfl⟩, by rw [posW, hT]; exact hP⟩, hS.F hT⟩) hS.2.2 dX3_formulaOf_22
  · have hm := (if_neg c1).symm.trans hm
    refine lv_iload_n hx hb dX3_formulaOf_4 rfl (lv_at hl 1 rfl) ?_
    refine lv_aload_n hx hb dX3_formulaOf_5 rfl (lv_at hl 0 rfl) ?_
    refine gfX3_lineCount hx hb h_X3 hown hK hP l_f49 dX3_formulaOf_6 ?_
    refine lv_icmp_ge (tgt := 21) hx hb dX3_formulaOf_9 (by decide) (fun c2 => ?_) (fun c2 => ?_)
    · have hm := (if_pos c2).symm.trans hm
      refine lv_iconst (v := (-1)) hx hb dX3_formulaOf_21 (by decide) ?_
      exact W.iret (v := (-1)) hx hb hr (fun T hT hW => ⟨⟨(-1), σ, rfl, ⟨Option.some.inj hm, rfl⟩, by rw [posW, hT]; exact hP⟩, hS.F hT⟩) hS.2.2 dX3_formulaOf_22
    · have hm := (if_neg c2).symm.trans hm
      refine lv_aload_n hx hb dX3_formulaOf_12 rfl (lv_at hl 0 rfl) ?_
      refine gfX3_lineFormulas hx hb h_X3 hown hK hP l_f18 dX3_formulaOf_13 ?_
      refine lv_iload_n hx hb dX3_formulaOf_16 rfl (lv_at hl 1 rfl) ?_
      obtain ⟨hi, hm⟩ := ok_I hm
      refine ldC_26 hx hb hK hP hi dX3_formulaOf_17 ?_
      refine lv_goto (tgt := 22) hx hb dX3_formulaOf_18 (by decide) ?_
      exact W.iret (v := σ.1 29 p1.toNatClampNeg) hx hb hr (fun T hT hW => ⟨⟨σ.1 29 p1.toNatClampNeg, σ, rfl, ⟨Option.some.inj hm, rfl⟩, by rw [posW, hT]; exact hP⟩, hS.F hT⟩) hS.2.2 dX3_formulaOf_22
theorem eX3_ruleOf : yX3_ruleOf.cls = RX3 ∧ yX3_ruleOf.cls ≠ "java/lang/invoke/MethodHandle" ∧ yX3_ruleOf.cls ≠ "java/lang/invoke/VarHandle" ∧ (parseMethodDescriptor yX3_ruleOf.desc).map (fun d => d.parameters.length) = some 1 := by decide +kernel
def mX3_ruleOf (σ : St) (p1 : Int32) : Option Int32 :=
if p1 < 0 then (
some (-1))
else (
if (σ.1 8 0) ≤ p1 then (
some (-1))
else (
chkI p1 60 (
some (σ.1 30 p1.toNatClampNeg))))
set_option maxHeartbeats 4000000 in
set_option maxRecDepth 100000 in
theorem kX3_ruleOf (l : Launch) (D : va_G) (y : Nat → ClassId) (a t : Nat → Nat) (hI : AI a 37) (sz : Nat) (σ : St) (p1 : Int32) (r : Int32) (hm : mX3_ruleOf σ p1 = some r) : Met l yX3_ruleOf zX3_ruleOf { frames := 0, cells := 0, slots := 0, locals := 0 } (va_Pc [.ref (a 5), .int p1] (preW (wC y a) a 37 D y t σ sz)) (va_Qi (fun r' u => r' = r ∧ u = σ) (posW (wC y a) D) (AC a 37 sz)) 0 0 (AC a 37 sz) := by
  refine Met.ofW (cc := cX3_ruleOf) (maxL := 2) (ret := (some .int)) (by decide) rfl ?_
  intro p e s m args below meth c s₁ B hml hv
  obtain ⟨rfl, hsz, hP, hK, hF⟩ := hv
  have hx := B.exec
  have hb := B.bytes
  have hr := B.returns
  have hts := atoms_spec (ws := zX3_ruleOf) B.pre
  have hown : s.vm.findClass RX3 = some m.cls := findClass_of_methodNamed B.named
  have hlocks := B.notSynchronized
  subst hsz
  have l_f49 := hts _ (List.mem_cons_of_mem _ aF_X3_49)
  have l_f22 := hts _ (List.mem_cons_of_mem _ aF_X3_22)
  have h_X3 : ∀ w ∈ wsX30, w.before _ s = true := fun w hw => hts w (List.mem_cons_of_mem _ (hwX3 w hw))
  have hS : va_S (AC a 37 s.heap.size) s.heap s.heap [] := va_S.rf
  have hl := lv_entry ([.ref (a 5), .int p1]) (n := 2) (Nat.le_of_ble_eq_true rfl)
  rw [lg_entry_eq]
  generalize (lg_sl ([.ref (a 5), .int p1]) ++ List.replicate (2 - (lg_sl ([.ref (a 5), .int p1])).length) Slot.unset).toArray = ls at hl ⊢
  have hl : lv_has ls 2 [(0, .ref (a 5)), (1, .int p1)] := hl
  unfold mX3_ruleOf at hm
  refine lv_iload_n hx hb dX3_ruleOf_0 rfl (lv_at hl 1 rfl) ?_
  refine lv_if_lt (tgt := 21) hx hb dX3_ruleOf_1 (by decide) (fun c1 => ?_) (fun c1 => ?_)
  · have hm := (if_pos c1).symm.trans hm
    refine lv_iconst (v := (-1)) hx hb dX3_ruleOf_21 (by decide) ?_
    exact W.iret (v := (-1)) hx hb hr (fun T hT hW => ⟨⟨(-1), σ, rfl, ⟨Option.some.inj hm, rfl⟩, by rw [posW, hT]; exact hP⟩, hS.F hT⟩) hS.2.2 dX3_ruleOf_22
  · have hm := (if_neg c1).symm.trans hm
    refine lv_iload_n hx hb dX3_ruleOf_4 rfl (lv_at hl 1 rfl) ?_
    refine lv_aload_n hx hb dX3_ruleOf_5 rfl (lv_at hl 0 rfl) ?_
    refine gfX3_lineCount hx hb h_X3 hown hK hP l_f49 dX3_ruleOf_6 ?_
    refine lv_icmp_ge (tgt := 21) hx hb dX3_ruleOf_9 (by decide) (fun c2 => ?_) (fun c2 => ?_)
    · have hm := (if_pos c2).symm.trans hm
      refine lv_iconst (v := (-1)) hx hb dX3_ruleOf_21 (by decide) ?_
      exact W.iret (v := (-1)) hx hb hr (fun T hT hW => ⟨⟨(-1), σ, rfl, ⟨Option.some.inj hm, rfl⟩, by rw [posW, hT]; exact hP⟩, hS.F hT⟩) hS.2.2 dX3_ruleOf_22
    · have hm := (if_neg c2).symm.trans hm
      refine lv_aload_n hx hb dX3_ruleOf_12 rfl (lv_at hl 0 rfl) ?_
      refine gfX3_lineRules hx hb h_X3 hown hK hP l_f22 dX3_ruleOf_13 ?_
      refine lv_iload_n hx hb dX3_ruleOf_16 rfl (lv_at hl 1 rfl) ?_
      obtain ⟨hi, hm⟩ := ok_I hm
      refine ldC_27 hx hb hK hP hi dX3_ruleOf_17 ?_
      refine lv_goto (tgt := 22) hx hb dX3_ruleOf_18 (by decide) ?_
      exact W.iret (v := σ.1 30 p1.toNatClampNeg) hx hb hr (fun T hT hW => ⟨⟨σ.1 30 p1.toNatClampNeg, σ, rfl, ⟨Option.some.inj hm, rfl⟩, by rw [posW, hT]; exact hP⟩, hS.F hT⟩) hS.2.2 dX3_ruleOf_22
theorem eX3_reference : yX3_reference.cls = RX3 ∧ yX3_reference.cls ≠ "java/lang/invoke/MethodHandle" ∧ yX3_reference.cls ≠ "java/lang/invoke/VarHandle" ∧ (parseMethodDescriptor yX3_reference.desc).map (fun d => d.parameters.length) = some 2 := by decide +kernel
def mX3_reference (σ : St) (p1 : Int32) (p2 : Int32) : Option Int32 :=
if p1 < 0 then (
some 0)
else (
if (σ.1 8 0) ≤ p1 then (
some 0)
else (
if p2 < 0 then (
some 0)
else (
if p2 ≤ 2 then (
chkI ((3 * p1) + p2) 180 (
some (σ.1 31 ((3 * p1) + p2).toNatClampNeg)))
else (
some 0))))
set_option maxHeartbeats 4000000 in
set_option maxRecDepth 100000 in
theorem kX3_reference (l : Launch) (D : va_G) (y : Nat → ClassId) (a t : Nat → Nat) (hI : AI a 37) (sz : Nat) (σ : St) (p1 : Int32) (p2 : Int32) (r : Int32) (hm : mX3_reference σ p1 p2 = some r) : Met l yX3_reference zX3_reference { frames := 0, cells := 0, slots := 0, locals := 0 } (va_Pc [.ref (a 5), .int p1, .int p2] (preW (wC y a) a 37 D y t σ sz)) (va_Qi (fun r' u => r' = r ∧ u = σ) (posW (wC y a) D) (AC a 37 sz)) 0 0 (AC a 37 sz) := by
  refine Met.ofW (cc := cX3_reference) (maxL := 3) (ret := (some .int)) (by decide) rfl ?_
  intro p e s m args below meth c s₁ B hml hv
  obtain ⟨rfl, hsz, hP, hK, hF⟩ := hv
  have hx := B.exec
  have hb := B.bytes
  have hr := B.returns
  have hts := atoms_spec (ws := zX3_reference) B.pre
  have hown : s.vm.findClass RX3 = some m.cls := findClass_of_methodNamed B.named
  have hlocks := B.notSynchronized
  subst hsz
  have l_f49 := hts _ (List.mem_cons_of_mem _ aF_X3_49)
  have l_f25 := hts _ (List.mem_cons_of_mem _ aF_X3_25)
  have h_X3 : ∀ w ∈ wsX30, w.before _ s = true := fun w hw => hts w (List.mem_cons_of_mem _ (hwX3 w hw))
  have hS : va_S (AC a 37 s.heap.size) s.heap s.heap [] := va_S.rf
  have hl := lv_entry ([.ref (a 5), .int p1, .int p2]) (n := 3) (Nat.le_of_ble_eq_true rfl)
  rw [lg_entry_eq]
  generalize (lg_sl ([.ref (a 5), .int p1, .int p2]) ++ List.replicate (3 - (lg_sl ([.ref (a 5), .int p1, .int p2])).length) Slot.unset).toArray = ls at hl ⊢
  have hl : lv_has ls 3 [(0, .ref (a 5)), (1, .int p1), (2, .int p2)] := hl
  unfold mX3_reference at hm
  refine lv_iload_n hx hb dX3_reference_0 rfl (lv_at hl 1 rfl) ?_
  refine lv_if_lt (tgt := 21) hx hb dX3_reference_1 (by decide) (fun c1 => ?_) (fun c1 => ?_)
  · have hm := (if_pos c1).symm.trans hm
    refine lv_iconst (v := 0) hx hb dX3_reference_21 (by decide) ?_
    exact W.iret (v := 0) hx hb hr (fun T hT hW => ⟨⟨0, σ, rfl, ⟨Option.some.inj hm, rfl⟩, by rw [posW, hT]; exact hP⟩, hS.F hT⟩) hS.2.2 dX3_reference_22
  · have hm := (if_neg c1).symm.trans hm
    refine lv_iload_n hx hb dX3_reference_4 rfl (lv_at hl 1 rfl) ?_
    refine lv_aload_n hx hb dX3_reference_5 rfl (lv_at hl 0 rfl) ?_
    refine gfX3_lineCount hx hb h_X3 hown hK hP l_f49 dX3_reference_6 ?_
    refine lv_icmp_ge (tgt := 21) hx hb dX3_reference_9 (by decide) (fun c2 => ?_) (fun c2 => ?_)
    · have hm := (if_pos c2).symm.trans hm
      refine lv_iconst (v := 0) hx hb dX3_reference_21 (by decide) ?_
      exact W.iret (v := 0) hx hb hr (fun T hT hW => ⟨⟨0, σ, rfl, ⟨Option.some.inj hm, rfl⟩, by rw [posW, hT]; exact hP⟩, hS.F hT⟩) hS.2.2 dX3_reference_22
    · have hm := (if_neg c2).symm.trans hm
      refine lv_iload_n hx hb dX3_reference_12 rfl (lv_at hl 2 rfl) ?_
      refine lv_if_lt (tgt := 21) hx hb dX3_reference_13 (by decide) (fun c3 => ?_) (fun c3 => ?_)
      · have hm := (if_pos c3).symm.trans hm
        refine lv_iconst (v := 0) hx hb dX3_reference_21 (by decide) ?_
        exact W.iret (v := 0) hx hb hr (fun T hT hW => ⟨⟨0, σ, rfl, ⟨Option.some.inj hm, rfl⟩, by rw [posW, hT]; exact hP⟩, hS.F hT⟩) hS.2.2 dX3_reference_22
      · have hm := (if_neg c3).symm.trans hm
        refine lv_iload_n hx hb dX3_reference_16 rfl (lv_at hl 2 rfl) ?_
        refine lv_iconst (v := 2) hx hb dX3_reference_17 (by decide) ?_
        refine lv_icmp_le (tgt := 23) hx hb dX3_reference_18 (by decide) (fun c4 => ?_) (fun c4 => ?_)
        · have hm := (if_pos c4).symm.trans hm
          refine lv_aload_n hx hb dX3_reference_23 rfl (lv_at hl 0 rfl) ?_
          refine gfX3_references hx hb h_X3 hown hK hP l_f25 dX3_reference_24 ?_
          refine lv_iconst (v := 3) hx hb dX3_reference_27 (by decide) ?_
          refine lv_iload_n hx hb dX3_reference_28 rfl (lv_at hl 1 rfl) ?_
          refine lv_imul hx hb dX3_reference_29 ?_
          refine lv_iload_n hx hb dX3_reference_30 rfl (lv_at hl 2 rfl) ?_
          refine lv_iadd hx hb dX3_reference_31 ?_
          obtain ⟨hi, hm⟩ := ok_I hm
          refine ldC_28 hx hb hK hP hi dX3_reference_32 ?_
          exact W.iret (v := σ.1 31 ((3 * p1) + p2).toNatClampNeg) hx hb hr (fun T hT hW => ⟨⟨σ.1 31 ((3 * p1) + p2).toNatClampNeg, σ, rfl, ⟨Option.some.inj hm, rfl⟩, by rw [posW, hT]; exact hP⟩, hS.F hT⟩) hS.2.2 dX3_reference_33
        · have hm := (if_neg c4).symm.trans hm
          refine lv_iconst (v := 0) hx hb dX3_reference_21 (by decide) ?_
          exact W.iret (v := 0) hx hb hr (fun T hT hW => ⟨⟨0, σ, rfl, ⟨Option.some.inj hm, rfl⟩, by rw [posW, hT]; exact hP⟩, hS.F hT⟩) hS.2.2 dX3_reference_22
theorem eX3_boxOf : yX3_boxOf.cls = RX3 ∧ yX3_boxOf.cls ≠ "java/lang/invoke/MethodHandle" ∧ yX3_boxOf.cls ≠ "java/lang/invoke/VarHandle" ∧ (parseMethodDescriptor yX3_boxOf.desc).map (fun d => d.parameters.length) = some 1 := by decide +kernel
def mX3_boxOf (σ : St) (p1 : Int32) : Option Int32 :=
if p1 < 0 then (
some (-1))
else (
if (σ.1 8 0) ≤ p1 then (
some (-1))
else (
chkI p1 60 (
some (σ.1 33 p1.toNatClampNeg))))
set_option maxHeartbeats 4000000 in
set_option maxRecDepth 100000 in
theorem kX3_boxOf (l : Launch) (D : va_G) (y : Nat → ClassId) (a t : Nat → Nat) (hI : AI a 37) (sz : Nat) (σ : St) (p1 : Int32) (r : Int32) (hm : mX3_boxOf σ p1 = some r) : Met l yX3_boxOf zX3_boxOf { frames := 0, cells := 0, slots := 0, locals := 0 } (va_Pc [.ref (a 5), .int p1] (preW (wC y a) a 37 D y t σ sz)) (va_Qi (fun r' u => r' = r ∧ u = σ) (posW (wC y a) D) (AC a 37 sz)) 0 0 (AC a 37 sz) := by
  refine Met.ofW (cc := cX3_boxOf) (maxL := 2) (ret := (some .int)) (by decide) rfl ?_
  intro p e s m args below meth c s₁ B hml hv
  obtain ⟨rfl, hsz, hP, hK, hF⟩ := hv
  have hx := B.exec
  have hb := B.bytes
  have hr := B.returns
  have hts := atoms_spec (ws := zX3_boxOf) B.pre
  have hown : s.vm.findClass RX3 = some m.cls := findClass_of_methodNamed B.named
  have hlocks := B.notSynchronized
  subst hsz
  have l_f49 := hts _ (List.mem_cons_of_mem _ aF_X3_49)
  have l_f31 := hts _ (List.mem_cons_of_mem _ aF_X3_31)
  have h_X3 : ∀ w ∈ wsX30, w.before _ s = true := fun w hw => hts w (List.mem_cons_of_mem _ (hwX3 w hw))
  have hS : va_S (AC a 37 s.heap.size) s.heap s.heap [] := va_S.rf
  have hl := lv_entry ([.ref (a 5), .int p1]) (n := 2) (Nat.le_of_ble_eq_true rfl)
  rw [lg_entry_eq]
  generalize (lg_sl ([.ref (a 5), .int p1]) ++ List.replicate (2 - (lg_sl ([.ref (a 5), .int p1])).length) Slot.unset).toArray = ls at hl ⊢
  have hl : lv_has ls 2 [(0, .ref (a 5)), (1, .int p1)] := hl
  unfold mX3_boxOf at hm
  refine lv_iload_n hx hb dX3_boxOf_0 rfl (lv_at hl 1 rfl) ?_
  refine lv_if_lt (tgt := 21) hx hb dX3_boxOf_1 (by decide) (fun c1 => ?_) (fun c1 => ?_)
  · have hm := (if_pos c1).symm.trans hm
    refine lv_iconst (v := (-1)) hx hb dX3_boxOf_21 (by decide) ?_
    exact W.iret (v := (-1)) hx hb hr (fun T hT hW => ⟨⟨(-1), σ, rfl, ⟨Option.some.inj hm, rfl⟩, by rw [posW, hT]; exact hP⟩, hS.F hT⟩) hS.2.2 dX3_boxOf_22
  · have hm := (if_neg c1).symm.trans hm
    refine lv_iload_n hx hb dX3_boxOf_4 rfl (lv_at hl 1 rfl) ?_
    refine lv_aload_n hx hb dX3_boxOf_5 rfl (lv_at hl 0 rfl) ?_
    refine gfX3_lineCount hx hb h_X3 hown hK hP l_f49 dX3_boxOf_6 ?_
    refine lv_icmp_ge (tgt := 21) hx hb dX3_boxOf_9 (by decide) (fun c2 => ?_) (fun c2 => ?_)
    · have hm := (if_pos c2).symm.trans hm
      refine lv_iconst (v := (-1)) hx hb dX3_boxOf_21 (by decide) ?_
      exact W.iret (v := (-1)) hx hb hr (fun T hT hW => ⟨⟨(-1), σ, rfl, ⟨Option.some.inj hm, rfl⟩, by rw [posW, hT]; exact hP⟩, hS.F hT⟩) hS.2.2 dX3_boxOf_22
    · have hm := (if_neg c2).symm.trans hm
      refine lv_aload_n hx hb dX3_boxOf_12 rfl (lv_at hl 0 rfl) ?_
      refine gfX3_lineBoxes hx hb h_X3 hown hK hP l_f31 dX3_boxOf_13 ?_
      refine lv_iload_n hx hb dX3_boxOf_16 rfl (lv_at hl 1 rfl) ?_
      obtain ⟨hi, hm⟩ := ok_I hm
      refine ldC_30 hx hb hK hP hi dX3_boxOf_17 ?_
      refine lv_goto (tgt := 22) hx hb dX3_boxOf_18 (by decide) ?_
      exact W.iret (v := σ.1 33 p1.toNatClampNeg) hx hb hr (fun T hT hW => ⟨⟨σ.1 33 p1.toNatClampNeg, σ, rfl, ⟨Option.some.inj hm, rfl⟩, by rw [posW, hT]; exact hP⟩, hS.F hT⟩) hS.2.2 dX3_boxOf_22
theorem eX3_firstLine : yX3_firstLine.cls = RX3 ∧ yX3_firstLine.cls ≠ "java/lang/invoke/MethodHandle" ∧ yX3_firstLine.cls ≠ "java/lang/invoke/VarHandle" ∧ (parseMethodDescriptor yX3_firstLine.desc).map (fun d => d.parameters.length) = some 1 := by decide +kernel
def mX3_firstLine (σ : St) (p1 : Int32) : Option Int32 :=
(mX0_first σ p1).bind fun r1 =>
some r1
set_option maxHeartbeats 4000000 in
set_option maxRecDepth 100000 in
theorem kX3_firstLine (l : Launch) (D : va_G) (y : Nat → ClassId) (a t : Nat → Nat) (hI : AI a 37) (sz : Nat) (σ : St) (p1 : Int32) (r : Int32) (hm : mX3_firstLine σ p1 = some r) : Met l yX3_firstLine zX3_firstLine { frames := 1, cells := 0, slots := 0, locals := 21 } (va_Pc [.ref (a 5), .int p1] (preW (wC y a) a 37 D y t σ sz)) (va_Qi (fun r' u => r' = r ∧ u = σ) (posW (wC y a) D) (AC a 37 sz)) 0 0 (AC a 37 sz) := by
  refine Met.ofW (cc := cX3_firstLine) (maxL := 2) (ret := (some .int)) (by decide) rfl ?_
  intro p e s m args below meth c s₁ B hml hv
  obtain ⟨rfl, hsz, hP, hK, hF⟩ := hv
  have hx := B.exec
  have hb := B.bytes
  have hr := B.returns
  have hts := atoms_spec (ws := zX3_firstLine) B.pre
  have hown : s.vm.findClass RX3 = some m.cls := findClass_of_methodNamed B.named
  have hlocks := B.notSynchronized
  subst hsz
  have l_f12 := hts _ (List.mem_cons_of_mem _ aF_X3_12)
  have h_X3 : ∀ w ∈ wsX30, w.before _ s = true := fun w hw => hts w (List.mem_cons_of_mem _ (hwX3 w hw))
  have hS : va_S (AC a 37 s.heap.size) s.heap s.heap [] := va_S.rf
  have hl := lv_entry ([.ref (a 5), .int p1]) (n := 2) (Nat.le_of_ble_eq_true rfl)
  rw [lg_entry_eq]
  generalize (lg_sl ([.ref (a 5), .int p1]) ++ List.replicate (2 - (lg_sl ([.ref (a 5), .int p1])).length) Slot.unset).toArray = ls at hl ⊢
  have hl : lv_has ls 2 [(0, .ref (a 5)), (1, .int p1)] := hl
  unfold mX3_firstLine at hm
  refine lv_aload_n hx hb dX3_firstLine_0 rfl (lv_at hl 0 rfl) ?_
  refine gfX3_boxes hx hb h_X3 hown hK hP l_f12 dX3_firstLine_1 ?_
  refine lv_iload_n hx hb dX3_firstLine_4 rfl (lv_at hl 1 rfl) ?_
  obtain ⟨r1, h2, hm⟩ := ok_bind hm
  refine calV_i (As := [.int p1]) (rest := []) ⟨hx, hb, hml, hown, hts⟩ (kX0_first l D y a t hI _ σ p1 r1 h2) (cwV 1 hts (gAV aM_X3_62 aI_X0_first aS_X0_first aN_X0 aC_X0_first) rfl rfl rfl eX0_first ⟨Nat.le_of_ble_eq_true rfl, Nat.le_of_ble_eq_true rfl⟩) (preV_W (ci := 0) (q := (RX0, TX0, 6)) hK hP hF hS rfl (wC_6 y a σ)) rfl hl.1 rfl (Nat.le_of_ble_eq_true rfl) dX3_firstLine_5 ⟨Nat.zero_le _, Nat.zero_le _⟩ hS (AC_le hS.1) (fun H locs hP hS hk1 => ?_)
  exact W.iret (v := r1) hx hb hr (fun T hT hW => ⟨⟨r1, σ, rfl, ⟨Option.some.inj hm, rfl⟩, by rw [posW, hT]; exact hP⟩, hS.F hT⟩) hS.2.2 dX3_firstLine_8
theorem eX3_lastLine : yX3_lastLine.cls = RX3 ∧ yX3_lastLine.cls ≠ "java/lang/invoke/MethodHandle" ∧ yX3_lastLine.cls ≠ "java/lang/invoke/VarHandle" ∧ (parseMethodDescriptor yX3_lastLine.desc).map (fun d => d.parameters.length) = some 1 := by decide +kernel
def mX3_lastLine (σ : St) (p1 : Int32) : Option Int32 :=
(mX0_last σ p1).bind fun r1 =>
some r1
set_option maxHeartbeats 4000000 in
set_option maxRecDepth 100000 in
theorem kX3_lastLine (l : Launch) (D : va_G) (y : Nat → ClassId) (a t : Nat → Nat) (hI : AI a 37) (sz : Nat) (σ : St) (p1 : Int32) (r : Int32) (hm : mX3_lastLine σ p1 = some r) : Met l yX3_lastLine zX3_lastLine { frames := 1, cells := 0, slots := 0, locals := 21 } (va_Pc [.ref (a 5), .int p1] (preW (wC y a) a 37 D y t σ sz)) (va_Qi (fun r' u => r' = r ∧ u = σ) (posW (wC y a) D) (AC a 37 sz)) 0 0 (AC a 37 sz) := by
  refine Met.ofW (cc := cX3_lastLine) (maxL := 2) (ret := (some .int)) (by decide) rfl ?_
  intro p e s m args below meth c s₁ B hml hv
  obtain ⟨rfl, hsz, hP, hK, hF⟩ := hv
  have hx := B.exec
  have hb := B.bytes
  have hr := B.returns
  have hts := atoms_spec (ws := zX3_lastLine) B.pre
  have hown : s.vm.findClass RX3 = some m.cls := findClass_of_methodNamed B.named
  have hlocks := B.notSynchronized
  subst hsz
  have l_f12 := hts _ (List.mem_cons_of_mem _ aF_X3_12)
  have h_X3 : ∀ w ∈ wsX30, w.before _ s = true := fun w hw => hts w (List.mem_cons_of_mem _ (hwX3 w hw))
  have hS : va_S (AC a 37 s.heap.size) s.heap s.heap [] := va_S.rf
  have hl := lv_entry ([.ref (a 5), .int p1]) (n := 2) (Nat.le_of_ble_eq_true rfl)
  rw [lg_entry_eq]
  generalize (lg_sl ([.ref (a 5), .int p1]) ++ List.replicate (2 - (lg_sl ([.ref (a 5), .int p1])).length) Slot.unset).toArray = ls at hl ⊢
  have hl : lv_has ls 2 [(0, .ref (a 5)), (1, .int p1)] := hl
  unfold mX3_lastLine at hm
  refine lv_aload_n hx hb dX3_lastLine_0 rfl (lv_at hl 0 rfl) ?_
  refine gfX3_boxes hx hb h_X3 hown hK hP l_f12 dX3_lastLine_1 ?_
  refine lv_iload_n hx hb dX3_lastLine_4 rfl (lv_at hl 1 rfl) ?_
  obtain ⟨r1, h2, hm⟩ := ok_bind hm
  refine calV_i (As := [.int p1]) (rest := []) ⟨hx, hb, hml, hown, hts⟩ (kX0_last l D y a t hI _ σ p1 r1 h2) (cwV 1 hts (gAV aM_X3_66 aI_X0_last aS_X0_last aN_X0 aC_X0_last) rfl rfl rfl eX0_last ⟨Nat.le_of_ble_eq_true rfl, Nat.le_of_ble_eq_true rfl⟩) (preV_W (ci := 0) (q := (RX0, TX0, 6)) hK hP hF hS rfl (wC_6 y a σ)) rfl hl.1 rfl (Nat.le_of_ble_eq_true rfl) dX3_lastLine_5 ⟨Nat.zero_le _, Nat.zero_le _⟩ hS (AC_le hS.1) (fun H locs hP hS hk1 => ?_)
  exact W.iret (v := r1) hx hb hr (fun T hT hW => ⟨⟨r1, σ, rfl, ⟨Option.some.inj hm, rfl⟩, by rw [posW, hT]; exact hP⟩, hS.F hT⟩) hS.2.2 dX3_lastLine_8
theorem eX3_outerBox : yX3_outerBox.cls = RX3 ∧ yX3_outerBox.cls ≠ "java/lang/invoke/MethodHandle" ∧ yX3_outerBox.cls ≠ "java/lang/invoke/VarHandle" ∧ (parseMethodDescriptor yX3_outerBox.desc).map (fun d => d.parameters.length) = some 1 := by decide +kernel
def mX3_outerBox (σ : St) (p1 : Int32) : Option Int32 :=
(mX0_outer σ p1).bind fun r1 =>
some r1
set_option maxHeartbeats 4000000 in
set_option maxRecDepth 100000 in
theorem kX3_outerBox (l : Launch) (D : va_G) (y : Nat → ClassId) (a t : Nat → Nat) (hI : AI a 37) (sz : Nat) (σ : St) (p1 : Int32) (r : Int32) (hm : mX3_outerBox σ p1 = some r) : Met l yX3_outerBox zX3_outerBox { frames := 1, cells := 0, slots := 0, locals := 21 } (va_Pc [.ref (a 5), .int p1] (preW (wC y a) a 37 D y t σ sz)) (va_Qi (fun r' u => r' = r ∧ u = σ) (posW (wC y a) D) (AC a 37 sz)) 0 0 (AC a 37 sz) := by
  refine Met.ofW (cc := cX3_outerBox) (maxL := 2) (ret := (some .int)) (by decide) rfl ?_
  intro p e s m args below meth c s₁ B hml hv
  obtain ⟨rfl, hsz, hP, hK, hF⟩ := hv
  have hx := B.exec
  have hb := B.bytes
  have hr := B.returns
  have hts := atoms_spec (ws := zX3_outerBox) B.pre
  have hown : s.vm.findClass RX3 = some m.cls := findClass_of_methodNamed B.named
  have hlocks := B.notSynchronized
  subst hsz
  have l_f12 := hts _ (List.mem_cons_of_mem _ aF_X3_12)
  have h_X3 : ∀ w ∈ wsX30, w.before _ s = true := fun w hw => hts w (List.mem_cons_of_mem _ (hwX3 w hw))
  have hS : va_S (AC a 37 s.heap.size) s.heap s.heap [] := va_S.rf
  have hl := lv_entry ([.ref (a 5), .int p1]) (n := 2) (Nat.le_of_ble_eq_true rfl)
  rw [lg_entry_eq]
  generalize (lg_sl ([.ref (a 5), .int p1]) ++ List.replicate (2 - (lg_sl ([.ref (a 5), .int p1])).length) Slot.unset).toArray = ls at hl ⊢
  have hl : lv_has ls 2 [(0, .ref (a 5)), (1, .int p1)] := hl
  unfold mX3_outerBox at hm
  refine lv_aload_n hx hb dX3_outerBox_0 rfl (lv_at hl 0 rfl) ?_
  refine gfX3_boxes hx hb h_X3 hown hK hP l_f12 dX3_outerBox_1 ?_
  refine lv_iload_n hx hb dX3_outerBox_4 rfl (lv_at hl 1 rfl) ?_
  obtain ⟨r1, h2, hm⟩ := ok_bind hm
  refine calV_i (As := [.int p1]) (rest := []) ⟨hx, hb, hml, hown, hts⟩ (kX0_outer l D y a t hI _ σ p1 r1 h2) (cwV 1 hts (gAV aM_X3_69 aI_X0_outer aS_X0_outer aN_X0 aC_X0_outer) rfl rfl rfl eX0_outer ⟨Nat.le_of_ble_eq_true rfl, Nat.le_of_ble_eq_true rfl⟩) (preV_W (ci := 0) (q := (RX0, TX0, 6)) hK hP hF hS rfl (wC_6 y a σ)) rfl hl.1 rfl (Nat.le_of_ble_eq_true rfl) dX3_outerBox_5 ⟨Nat.zero_le _, Nat.zero_le _⟩ hS (AC_le hS.1) (fun H locs hP hS hk1 => ?_)
  exact W.iret (v := r1) hx hb hr (fun T hT hW => ⟨⟨r1, σ, rfl, ⟨Option.some.inj hm, rfl⟩, by rw [posW, hT]; exact hP⟩, hS.F hT⟩) hS.2.2 dX3_outerBox_8
theorem eX3_beginOf : yX3_beginOf.cls = RX3 ∧ yX3_beginOf.cls ≠ "java/lang/invoke/MethodHandle" ∧ yX3_beginOf.cls ≠ "java/lang/invoke/VarHandle" ∧ (parseMethodDescriptor yX3_beginOf.desc).map (fun d => d.parameters.length) = some 1 := by decide +kernel
def mX3_beginOf (σ : St) (p1 : Int32) : Option Int32 :=
(mX0_first σ p1).bind fun r1 =>
(mX3_formulaOf σ r1).bind fun r3 =>
some r3
set_option maxHeartbeats 4000000 in
set_option maxRecDepth 100000 in
theorem kX3_beginOf (l : Launch) (D : va_G) (y : Nat → ClassId) (a t : Nat → Nat) (hI : AI a 37) (sz : Nat) (σ : St) (p1 : Int32) (r : Int32) (hm : mX3_beginOf σ p1 = some r) : Met l yX3_beginOf zX3_beginOf { frames := 1, cells := 0, slots := 0, locals := 21 } (va_Pc [.ref (a 5), .int p1] (preW (wC y a) a 37 D y t σ sz)) (va_Qi (fun r' u => r' = r ∧ u = σ) (posW (wC y a) D) (AC a 37 sz)) 0 0 (AC a 37 sz) := by
  refine Met.ofW (cc := cX3_beginOf) (maxL := 2) (ret := (some .int)) (by decide) rfl ?_
  intro p e s m args below meth c s₁ B hml hv
  obtain ⟨rfl, hsz, hP, hK, hF⟩ := hv
  have hx := B.exec
  have hb := B.bytes
  have hr := B.returns
  have hts := atoms_spec (ws := zX3_beginOf) B.pre
  have hown : s.vm.findClass RX3 = some m.cls := findClass_of_methodNamed B.named
  have hlocks := B.notSynchronized
  subst hsz
  have l_f12 := hts _ (List.mem_cons_of_mem _ aF_X3_12)
  have h_X3 : ∀ w ∈ wsX30, w.before _ s = true := fun w hw => hts w (List.mem_cons_of_mem _ (hwX3 w hw))
  have hS : va_S (AC a 37 s.heap.size) s.heap s.heap [] := va_S.rf
  have hl := lv_entry ([.ref (a 5), .int p1]) (n := 2) (Nat.le_of_ble_eq_true rfl)
  rw [lg_entry_eq]
  generalize (lg_sl ([.ref (a 5), .int p1]) ++ List.replicate (2 - (lg_sl ([.ref (a 5), .int p1])).length) Slot.unset).toArray = ls at hl ⊢
  have hl : lv_has ls 2 [(0, .ref (a 5)), (1, .int p1)] := hl
  unfold mX3_beginOf at hm
  refine lv_aload_n hx hb dX3_beginOf_0 rfl (lv_at hl 0 rfl) ?_
  refine lv_aload_n hx hb dX3_beginOf_1 rfl (lv_at hl 0 rfl) ?_
  refine gfX3_boxes hx hb h_X3 hown hK hP l_f12 dX3_beginOf_2 ?_
  refine lv_iload_n hx hb dX3_beginOf_5 rfl (lv_at hl 1 rfl) ?_
  obtain ⟨r1, h2, hm⟩ := ok_bind hm
  refine calV_i (As := [.int p1]) (rest := [.ref (a 5)]) ⟨hx, hb, hml, hown, hts⟩ (kX0_first l D y a t hI _ σ p1 r1 h2) (cwV 1 hts (gAV aM_X3_62 aI_X0_first aS_X0_first aN_X0 aC_X0_first) rfl rfl rfl eX0_first ⟨Nat.le_of_ble_eq_true rfl, Nat.le_of_ble_eq_true rfl⟩) (preV_W (ci := 0) (q := (RX0, TX0, 6)) hK hP hF hS rfl (wC_6 y a σ)) rfl hl.1 rfl (Nat.le_of_ble_eq_true rfl) dX3_beginOf_6 ⟨Nat.zero_le _, Nat.zero_le _⟩ hS (AC_le hS.1) (fun H locs hP hS hk1 => ?_)
  obtain ⟨r3, h4, hm⟩ := ok_bind hm
  refine calV_i (As := [.int r1]) (rest := []) ⟨hx, hb, hml, hown, hts⟩ (kX3_formulaOf l D y a t hI _ σ r1 r3 h4) (cwV 1 hts (gAV aM_X3_72 aI_X3_formulaOf aS_X3_formulaOf aN_X3 aC_X3_formulaOf) rfl rfl rfl eX3_formulaOf ⟨Nat.le_of_ble_eq_true rfl, Nat.le_of_ble_eq_true rfl⟩) (preV_W (ci := 3) (q := (RX3, TX3, 12)) hK hP hF hS rfl (wC_5 y a σ)) rfl hl.1 rfl (Nat.le_of_ble_eq_true rfl) dX3_beginOf_9 ⟨Nat.zero_le _, Nat.zero_le _⟩ hS (AC_le hS.1) (fun H locs hP hS hk1 => ?_)
  exact W.iret (v := r3) hx hb hr (fun T hT hW => ⟨⟨r3, σ, rfl, ⟨Option.some.inj hm, rfl⟩, by rw [posW, hT]; exact hP⟩, hS.F hT⟩) hS.2.2 dX3_beginOf_12
theorem eX3_endOf : yX3_endOf.cls = RX3 ∧ yX3_endOf.cls ≠ "java/lang/invoke/MethodHandle" ∧ yX3_endOf.cls ≠ "java/lang/invoke/VarHandle" ∧ (parseMethodDescriptor yX3_endOf.desc).map (fun d => d.parameters.length) = some 1 := by decide +kernel
def mX3_endOf (σ : St) (p1 : Int32) : Option Int32 :=
(mX0_last σ p1).bind fun r1 =>
(mX3_formulaOf σ r1).bind fun r3 =>
some r3
set_option maxHeartbeats 4000000 in
set_option maxRecDepth 100000 in
theorem kX3_endOf (l : Launch) (D : va_G) (y : Nat → ClassId) (a t : Nat → Nat) (hI : AI a 37) (sz : Nat) (σ : St) (p1 : Int32) (r : Int32) (hm : mX3_endOf σ p1 = some r) : Met l yX3_endOf zX3_endOf { frames := 1, cells := 0, slots := 0, locals := 21 } (va_Pc [.ref (a 5), .int p1] (preW (wC y a) a 37 D y t σ sz)) (va_Qi (fun r' u => r' = r ∧ u = σ) (posW (wC y a) D) (AC a 37 sz)) 0 0 (AC a 37 sz) := by
  refine Met.ofW (cc := cX3_endOf) (maxL := 2) (ret := (some .int)) (by decide) rfl ?_
  intro p e s m args below meth c s₁ B hml hv
  obtain ⟨rfl, hsz, hP, hK, hF⟩ := hv
  have hx := B.exec
  have hb := B.bytes
  have hr := B.returns
  have hts := atoms_spec (ws := zX3_endOf) B.pre
  have hown : s.vm.findClass RX3 = some m.cls := findClass_of_methodNamed B.named
  have hlocks := B.notSynchronized
  subst hsz
  have l_f12 := hts _ (List.mem_cons_of_mem _ aF_X3_12)
  have h_X3 : ∀ w ∈ wsX30, w.before _ s = true := fun w hw => hts w (List.mem_cons_of_mem _ (hwX3 w hw))
  have hS : va_S (AC a 37 s.heap.size) s.heap s.heap [] := va_S.rf
  have hl := lv_entry ([.ref (a 5), .int p1]) (n := 2) (Nat.le_of_ble_eq_true rfl)
  rw [lg_entry_eq]
  generalize (lg_sl ([.ref (a 5), .int p1]) ++ List.replicate (2 - (lg_sl ([.ref (a 5), .int p1])).length) Slot.unset).toArray = ls at hl ⊢
  have hl : lv_has ls 2 [(0, .ref (a 5)), (1, .int p1)] := hl
  unfold mX3_endOf at hm
  refine lv_aload_n hx hb dX3_endOf_0 rfl (lv_at hl 0 rfl) ?_
  refine lv_aload_n hx hb dX3_endOf_1 rfl (lv_at hl 0 rfl) ?_
  refine gfX3_boxes hx hb h_X3 hown hK hP l_f12 dX3_endOf_2 ?_
  refine lv_iload_n hx hb dX3_endOf_5 rfl (lv_at hl 1 rfl) ?_
  obtain ⟨r1, h2, hm⟩ := ok_bind hm
  refine calV_i (As := [.int p1]) (rest := [.ref (a 5)]) ⟨hx, hb, hml, hown, hts⟩ (kX0_last l D y a t hI _ σ p1 r1 h2) (cwV 1 hts (gAV aM_X3_66 aI_X0_last aS_X0_last aN_X0 aC_X0_last) rfl rfl rfl eX0_last ⟨Nat.le_of_ble_eq_true rfl, Nat.le_of_ble_eq_true rfl⟩) (preV_W (ci := 0) (q := (RX0, TX0, 6)) hK hP hF hS rfl (wC_6 y a σ)) rfl hl.1 rfl (Nat.le_of_ble_eq_true rfl) dX3_endOf_6 ⟨Nat.zero_le _, Nat.zero_le _⟩ hS (AC_le hS.1) (fun H locs hP hS hk1 => ?_)
  obtain ⟨r3, h4, hm⟩ := ok_bind hm
  refine calV_i (As := [.int r1]) (rest := []) ⟨hx, hb, hml, hown, hts⟩ (kX3_formulaOf l D y a t hI _ σ r1 r3 h4) (cwV 1 hts (gAV aM_X3_72 aI_X3_formulaOf aS_X3_formulaOf aN_X3 aC_X3_formulaOf) rfl rfl rfl eX3_formulaOf ⟨Nat.le_of_ble_eq_true rfl, Nat.le_of_ble_eq_true rfl⟩) (preV_W (ci := 3) (q := (RX3, TX3, 12)) hK hP hF hS rfl (wC_5 y a σ)) rfl hl.1 rfl (Nat.le_of_ble_eq_true rfl) dX3_endOf_9 ⟨Nat.zero_le _, Nat.zero_le _⟩ hS (AC_le hS.1) (fun H locs hP hS hk1 => ?_)
  exact W.iret (v := r3) hx hb hr (fun T hT hW => ⟨⟨r3, σ, rfl, ⟨Option.some.inj hm, rfl⟩, by rw [posW, hT]; exact hP⟩, hS.F hT⟩) hS.2.2 dX3_endOf_12
theorem eX3_seesLine : yX3_seesLine.cls = RX3 ∧ yX3_seesLine.cls ≠ "java/lang/invoke/MethodHandle" ∧ yX3_seesLine.cls ≠ "java/lang/invoke/VarHandle" ∧ (parseMethodDescriptor yX3_seesLine.desc).map (fun d => d.parameters.length) = some 1 := by decide +kernel
def mX3_seesLine (σ : St) (p1 : Int32) : Option Int32 :=
if p1 < 0 then (
some 0)
else (
if (σ.1 8 0) ≤ p1 then (
some 0)
else (
chkI p1 60 (
(mX0_isOpen σ (σ.1 33 p1.toNatClampNeg)).bind fun r3 =>
if r3 = 0 then (
some 0)
else (
some 1))))
set_option maxHeartbeats 4000000 in
set_option maxRecDepth 100000 in
theorem kX3_seesLine (l : Launch) (D : va_G) (y : Nat → ClassId) (a t : Nat → Nat) (hI : AI a 37) (sz : Nat) (σ : St) (p1 : Int32) (r : Int32) (hm : mX3_seesLine σ p1 = some r) : Met l yX3_seesLine zX3_seesLine { frames := 1, cells := 0, slots := 0, locals := 21 } (va_Pc [.ref (a 5), .int p1] (preW (wC y a) a 37 D y t σ sz)) (va_Qi (fun r' u => r' = r ∧ u = σ) (posW (wC y a) D) (AC a 37 sz)) 0 0 (AC a 37 sz) := by
  refine Met.ofW (cc := cX3_seesLine) (maxL := 2) (ret := (some .boolean)) (by decide) rfl ?_
  intro p e s m args below meth c s₁ B hml hv
  obtain ⟨rfl, hsz, hP, hK, hF⟩ := hv
  have hx := B.exec
  have hb := B.bytes
  have hr := B.returns
  have hts := atoms_spec (ws := zX3_seesLine) B.pre
  have hown : s.vm.findClass RX3 = some m.cls := findClass_of_methodNamed B.named
  have hlocks := B.notSynchronized
  subst hsz
  have l_f49 := hts _ (List.mem_cons_of_mem _ aF_X3_49)
  have l_f12 := hts _ (List.mem_cons_of_mem _ aF_X3_12)
  have l_f31 := hts _ (List.mem_cons_of_mem _ aF_X3_31)
  have h_X3 : ∀ w ∈ wsX30, w.before _ s = true := fun w hw => hts w (List.mem_cons_of_mem _ (hwX3 w hw))
  have hS : va_S (AC a 37 s.heap.size) s.heap s.heap [] := va_S.rf
  have hl := lv_entry ([.ref (a 5), .int p1]) (n := 2) (Nat.le_of_ble_eq_true rfl)
  rw [lg_entry_eq]
  generalize (lg_sl ([.ref (a 5), .int p1]) ++ List.replicate (2 - (lg_sl ([.ref (a 5), .int p1])).length) Slot.unset).toArray = ls at hl ⊢
  have hl : lv_has ls 2 [(0, .ref (a 5)), (1, .int p1)] := hl
  unfold mX3_seesLine at hm
  refine lv_iload_n hx hb dX3_seesLine_0 rfl (lv_at hl 1 rfl) ?_
  refine lv_if_lt (tgt := 32) hx hb dX3_seesLine_1 (by decide) (fun c1 => ?_) (fun c1 => ?_)
  · have hm := (if_pos c1).symm.trans hm
    refine lv_iconst (v := 0) hx hb dX3_seesLine_32 (by decide) ?_
    exact W.zret (v := 0) hx hb hr rfl (fun T hT hW => ⟨⟨0, σ, rfl, ⟨Option.some.inj hm, rfl⟩, by rw [posW, hT]; exact hP⟩, hS.F hT⟩) hS.2.2 dX3_seesLine_33
  · have hm := (if_neg c1).symm.trans hm
    refine lv_iload_n hx hb dX3_seesLine_4 rfl (lv_at hl 1 rfl) ?_
    refine lv_aload_n hx hb dX3_seesLine_5 rfl (lv_at hl 0 rfl) ?_
    refine gfX3_lineCount hx hb h_X3 hown hK hP l_f49 dX3_seesLine_6 ?_
    refine lv_icmp_ge (tgt := 32) hx hb dX3_seesLine_9 (by decide) (fun c2 => ?_) (fun c2 => ?_)
    · have hm := (if_pos c2).symm.trans hm
      refine lv_iconst (v := 0) hx hb dX3_seesLine_32 (by decide) ?_
      exact W.zret (v := 0) hx hb hr rfl (fun T hT hW => ⟨⟨0, σ, rfl, ⟨Option.some.inj hm, rfl⟩, by rw [posW, hT]; exact hP⟩, hS.F hT⟩) hS.2.2 dX3_seesLine_33
    · have hm := (if_neg c2).symm.trans hm
      refine lv_aload_n hx hb dX3_seesLine_12 rfl (lv_at hl 0 rfl) ?_
      refine gfX3_boxes hx hb h_X3 hown hK hP l_f12 dX3_seesLine_13 ?_
      refine lv_aload_n hx hb dX3_seesLine_16 rfl (lv_at hl 0 rfl) ?_
      refine gfX3_lineBoxes hx hb h_X3 hown hK hP l_f31 dX3_seesLine_17 ?_
      refine lv_iload_n hx hb dX3_seesLine_20 rfl (lv_at hl 1 rfl) ?_
      obtain ⟨hi, hm⟩ := ok_I hm
      refine ldC_30 hx hb hK hP hi dX3_seesLine_21 ?_
      obtain ⟨r3, h4, hm⟩ := ok_bind hm
      refine calV_i (As := [.int (σ.1 33 p1.toNatClampNeg)]) (rest := []) ⟨hx, hb, hml, hown, hts⟩ (kX0_isOpen l D y a t hI _ σ (σ.1 33 p1.toNatClampNeg) r3 h4) (cwV 1 hts (gAV aM_X3_75 aI_X0_isOpen aS_X0_isOpen aN_X0 aC_X0_isOpen) rfl rfl rfl eX0_isOpen ⟨Nat.le_of_ble_eq_true rfl, Nat.le_of_ble_eq_true rfl⟩) (preV_W (ci := 0) (q := (RX0, TX0, 6)) hK hP hF hS rfl (wC_6 y a σ)) rfl hl.1 rfl (Nat.le_of_ble_eq_true rfl) dX3_seesLine_22 ⟨Nat.zero_le _, Nat.zero_le _⟩ hS (AC_le hS.1) (fun H locs hP hS hk1 => ?_)
      refine lv_if_eq (tgt := 32) hx hb dX3_seesLine_25 (by decide) (fun c5 => ?_) (fun c5 => ?_)
      · have hm := (if_pos c5).symm.trans hm
        refine lv_iconst (v := 0) hx hb dX3_seesLine_32 (by decide) ?_
        exact W.zret (v := 0) hx hb hr rfl (fun T hT hW => ⟨⟨0, σ, rfl, ⟨Option.some.inj hm, rfl⟩, by rw [posW, hT]; exact hP⟩, hS.F hT⟩) hS.2.2 dX3_seesLine_33
      · have hm := (if_neg c5).symm.trans hm
        refine lv_iconst (v := 1) hx hb dX3_seesLine_28 (by decide) ?_
        refine lv_goto (tgt := 33) hx hb dX3_seesLine_29 (by decide) ?_
        exact W.zret (v := 1) hx hb hr rfl (fun T hT hW => ⟨⟨1, σ, rfl, ⟨Option.some.inj hm, rfl⟩, by rw [posW, hT]; exact hP⟩, hS.F hT⟩) hS.2.2 dX3_seesLine_33
theorem eX3_seesBox : yX3_seesBox.cls = RX3 ∧ yX3_seesBox.cls ≠ "java/lang/invoke/MethodHandle" ∧ yX3_seesBox.cls ≠ "java/lang/invoke/VarHandle" ∧ (parseMethodDescriptor yX3_seesBox.desc).map (fun d => d.parameters.length) = some 1 := by decide +kernel
def mX3_seesBox (σ : St) (p1 : Int32) : Option Int32 :=
(mX0_canBeReferredTo σ p1).bind fun r1 =>
chkZ r1 (some r1)
set_option maxHeartbeats 4000000 in
set_option maxRecDepth 100000 in
theorem kX3_seesBox (l : Launch) (D : va_G) (y : Nat → ClassId) (a t : Nat → Nat) (hI : AI a 37) (sz : Nat) (σ : St) (p1 : Int32) (r : Int32) (hm : mX3_seesBox σ p1 = some r) : Met l yX3_seesBox zX3_seesBox { frames := 2, cells := 0, slots := 0, locals := 42 } (va_Pc [.ref (a 5), .int p1] (preW (wC y a) a 37 D y t σ sz)) (va_Qi (fun r' u => r' = r ∧ u = σ) (posW (wC y a) D) (AC a 37 sz)) 0 0 (AC a 37 sz) := by
  refine Met.ofW (cc := cX3_seesBox) (maxL := 2) (ret := (some .boolean)) (by decide) rfl ?_
  intro p e s m args below meth c s₁ B hml hv
  obtain ⟨rfl, hsz, hP, hK, hF⟩ := hv
  have hx := B.exec
  have hb := B.bytes
  have hr := B.returns
  have hts := atoms_spec (ws := zX3_seesBox) B.pre
  have hown : s.vm.findClass RX3 = some m.cls := findClass_of_methodNamed B.named
  have hlocks := B.notSynchronized
  subst hsz
  have l_f12 := hts _ (List.mem_cons_of_mem _ aF_X3_12)
  have h_X3 : ∀ w ∈ wsX30, w.before _ s = true := fun w hw => hts w (List.mem_cons_of_mem _ (hwX3 w hw))
  have hS : va_S (AC a 37 s.heap.size) s.heap s.heap [] := va_S.rf
  have hl := lv_entry ([.ref (a 5), .int p1]) (n := 2) (Nat.le_of_ble_eq_true rfl)
  rw [lg_entry_eq]
  generalize (lg_sl ([.ref (a 5), .int p1]) ++ List.replicate (2 - (lg_sl ([.ref (a 5), .int p1])).length) Slot.unset).toArray = ls at hl ⊢
  have hl : lv_has ls 2 [(0, .ref (a 5)), (1, .int p1)] := hl
  unfold mX3_seesBox at hm
  refine lv_aload_n hx hb dX3_seesBox_0 rfl (lv_at hl 0 rfl) ?_
  refine gfX3_boxes hx hb h_X3 hown hK hP l_f12 dX3_seesBox_1 ?_
  refine lv_iload_n hx hb dX3_seesBox_4 rfl (lv_at hl 1 rfl) ?_
  obtain ⟨r1, h2, hm⟩ := ok_bind hm
  refine calV_i (As := [.int p1]) (rest := []) ⟨hx, hb, hml, hown, hts⟩ (kX0_canBeReferredTo l D y a t hI _ σ p1 r1 h2) (cwV 1 hts (gAV aM_X3_79 aI_X0_canBeReferredTo aS_X0_canBeReferredTo aN_X0 aC_X0_canBeReferredTo) rfl rfl rfl eX0_canBeReferredTo ⟨Nat.le_of_ble_eq_true rfl, Nat.le_of_ble_eq_true rfl⟩) (preV_W (ci := 0) (q := (RX0, TX0, 6)) hK hP hF hS rfl (wC_6 y a σ)) rfl hl.1 rfl (Nat.le_of_ble_eq_true rfl) dX3_seesBox_5 ⟨Nat.zero_le _, Nat.zero_le _⟩ hS (AC_le hS.1) (fun H locs hP hS hk1 => ?_)
  obtain ⟨hz, hm⟩ := ok_Z hm
  exact W.zret (v := r1) hx hb hr hz (fun T hT hW => ⟨⟨r1, σ, rfl, ⟨Option.some.inj hm, rfl⟩, by rw [posW, hT]; exact hP⟩, hS.F hT⟩) hS.2.2 dX3_seesBox_8
theorem eX3_clear : yX3_clear.cls = RX3 ∧ yX3_clear.cls ≠ "java/lang/invoke/MethodHandle" ∧ yX3_clear.cls ≠ "java/lang/invoke/VarHandle" ∧ (parseMethodDescriptor yX3_clear.desc).map (fun d => d.parameters.length) = some 0 := by decide +kernel
def mX3_clear (σ : St) : Option St :=
(mX0_clear σ).bind fun s2 =>
bnd (su s2 7 (fun _ => 0)) fun s3 =>
bnd (su s3 8 (fun _ => 0)) fun s4 =>
some s4
set_option maxHeartbeats 4000000 in
set_option maxRecDepth 100000 in
theorem kX3_clear (l : Launch) (D : va_G) (y : Nat → ClassId) (a t : Nat → Nat) (hI : AI a 37) (sz : Nat) (σ τ : St) (hm : mX3_clear σ = some τ) : Met l yX3_clear zX3_clear { frames := 1, cells := 0, slots := 0, locals := 20 } (va_Pc [.ref (a 5)] (preW (wC y a) a 37 D y t σ sz)) (va_Qv (fun u => u = τ) (posW (wC y a) D) (AC a 37 sz)) 0 0 (AC a 37 sz) := by
  refine Met.ofW (cc := cX3_clear) (maxL := 1) (ret := none) (by decide) rfl ?_
  intro p e s m args below meth c s₁ B hml hv
  obtain ⟨rfl, hsz, hP, hK, hF⟩ := hv
  have hx := B.exec
  have hb := B.bytes
  have hr := B.returns
  have hts := atoms_spec (ws := zX3_clear) B.pre
  have hown : s.vm.findClass RX3 = some m.cls := findClass_of_methodNamed B.named
  have hlocks := B.notSynchronized
  subst hsz
  have l_f12 := hts _ (List.mem_cons_of_mem _ aF_X3_12)
  have l_f85 := hts _ (List.mem_cons_of_mem _ aF_X3_85)
  have l_f49 := hts _ (List.mem_cons_of_mem _ aF_X3_49)
  have h_X3 : ∀ w ∈ wsX30, w.before _ s = true := fun w hw => hts w (List.mem_cons_of_mem _ (hwX3 w hw))
  have hS : va_S (AC a 37 s.heap.size) s.heap s.heap [] := va_S.rf
  have hl := lv_entry ([.ref (a 5)]) (n := 1) (Nat.le_of_ble_eq_true rfl)
  rw [lg_entry_eq]
  generalize (lg_sl ([.ref (a 5)]) ++ List.replicate (1 - (lg_sl ([.ref (a 5)])).length) Slot.unset).toArray = ls at hl ⊢
  have hl : lv_has ls 1 [(0, .ref (a 5))] := hl
  unfold mX3_clear at hm
  refine lv_aload_n hx hb dX3_clear_0 rfl (lv_at hl 0 rfl) ?_
  refine gfX3_boxes hx hb h_X3 hown hK hP l_f12 dX3_clear_1 ?_
  obtain ⟨s2, h1, hm⟩ := ok_bind hm
  refine calV_v (As := []) (rest := []) ⟨hx, hb, hml, hown, hts⟩ (kX0_clear l D y a t hI _ σ s2  h1) (cwV 0 hts (gAV aM_X3_82 aI_X0_clear aS_X0_clear aN_X0 aC_X0_clear) rfl rfl rfl eX0_clear ⟨Nat.le_of_ble_eq_true rfl, Nat.le_of_ble_eq_true rfl⟩) (preV_W (ci := 0) (q := (RX0, TX0, 6)) hK hP hF hS rfl (wC_6 y a σ)) rfl hl.1 rfl (Nat.le_of_ble_eq_true rfl) dX3_clear_4 ⟨Nat.zero_le _, Nat.zero_le _⟩ hS (AC_le hS.1) (fun H locs hP hS hk1 => ?_)
  refine lv_aload_n hx hb dX3_clear_7 rfl (lv_at hl 0 rfl) ?_
  refine lv_iconst (v := 0) hx hb dX3_clear_8 (by decide) ?_
  refine pfX3_deedCount hx hb h_X3 hown hK hP hI AC_in hS l_f85 dX3_clear_9 (fun H locs hP hS => ?_)
  generalize es3 : su s2 7 (fun _ => 0) = s3 at hP
  have hm := bnd_x es3.symm hm
  refine lv_aload_n hx hb dX3_clear_12 rfl (lv_at hl 0 rfl) ?_
  refine lv_iconst (v := 0) hx hb dX3_clear_13 (by decide) ?_
  refine pfX3_lineCount hx hb h_X3 hown hK hP hI AC_in hS l_f49 dX3_clear_14 (fun H locs hP hS => ?_)
  generalize es4 : su s3 8 (fun _ => 0) = s4 at hP
  have hm := bnd_x es4.symm hm
  exact W.vret hx hb hr (fun T hT hW => ⟨⟨s4, rfl, Option.some.inj hm, by rw [posW, hT]; exact hP⟩, hS.F hT⟩) hS.2.2 dX3_clear_17
theorem eX3_kind : yX3_kind.cls = RX3 ∧ yX3_kind.cls ≠ "java/lang/invoke/MethodHandle" ∧ yX3_kind.cls ≠ "java/lang/invoke/VarHandle" ∧ (parseMethodDescriptor yX3_kind.desc).map (fun d => d.parameters.length) = some 3 := by decide +kernel
def mX3_kind_20 (σ : St) (v1 : Int32) (v2 : Int32) : Option Int32 :=
bnd ((3 * v1) + v2) fun x3 =>
if x3 < 0 then (
some 0)
else (
if 48 ≤ x3 then (
some 0)
else (
chkI x3 48 (
some (kKINDS x3.toNatClampNeg))))
def mX3_kind (σ : St) (p1 : Int32) (p2 : Int32) (p3 : Int32) : Option Int32 :=
if p1 = 13 then (
(mX6_premises σ p3).bind fun r7 =>
if p2 ≤ r7 then (
mX3_kind_20 σ p1 p2)
else (
some 0))
else (
mX3_kind_20 σ p1 p2)
set_option maxHeartbeats 4000000 in
set_option maxRecDepth 100000 in
theorem kX3_kind (l : Launch) (D : va_G) (y : Nat → ClassId) (a t : Nat → Nat) (hI : AI a 37) (sz : Nat) (σ : St) (p1 : Int32) (p2 : Int32) (p3 : Int32) (r : Int32) (hm : mX3_kind σ p1 p2 p3 = some r) : Met l yX3_kind zX3_kind { frames := 1, cells := 0, slots := 0, locals := 21 } (va_Pc [.ref (a 5), .int p1, .int p2, .int p3] (preW (wC y a) a 37 D y t σ sz)) (va_Qi (fun r' u => r' = r ∧ u = σ) (posW (wC y a) D) (AC a 37 sz)) 0 0 (AC a 37 sz) := by
  refine Met.ofW (cc := cX3_kind) (maxL := 5) (ret := (some .int)) (by decide) rfl ?_
  intro p e s m args below meth c s₁ B hml hv
  obtain ⟨rfl, hsz, hP, hK, hF⟩ := hv
  have hx := B.exec
  have hb := B.bytes
  have hr := B.returns
  have hts := atoms_spec (ws := zX3_kind) B.pre
  have hown : s.vm.findClass RX3 = some m.cls := findClass_of_methodNamed B.named
  have hlocks := B.notSynchronized
  subst hsz
  have l_f45 := hts _ (List.mem_cons_of_mem _ aF_X3_45)
  have l_f135 := hts _ (List.mem_cons_of_mem _ aF_X3_135)
  have h_X3 : ∀ w ∈ wsX30, w.before _ s = true := fun w hw => hts w (List.mem_cons_of_mem _ (hwX3 w hw))
  have hS : va_S (AC a 37 s.heap.size) s.heap s.heap [] := va_S.rf
  have hl := lv_entry ([.ref (a 5), .int p1, .int p2, .int p3]) (n := 5) (Nat.le_of_ble_eq_true rfl)
  rw [lg_entry_eq]
  generalize (lg_sl ([.ref (a 5), .int p1, .int p2, .int p3]) ++ List.replicate (5 - (lg_sl ([.ref (a 5), .int p1, .int p2, .int p3])).length) Slot.unset).toArray = ls at hl ⊢
  have hl : lv_has ls 5 [(0, .ref (a 5)), (1, .int p1), (2, .int p2), (3, .int p3)] := hl
  have L_20 : ∀ (v1 : Int32) (v2 : Int32) (H : Heap) (locs : List Loc) (ls : Array Slot), va_P D vwCl (wC y a σ) H → va_S (AC a 37 s.heap.size) s.heap H locs → lv_has ls 5 [(1, .int v1), (2, .int v2)] → mX3_kind_20 σ v1 v2 = some r → W p l e (headSpec zX3_kind ({ frames := 1, cells := 0, slots := 0, locals := 21 })).room s m ([.ref (a 5), .int p1, .int p2, .int p3] : List Value).toArray below meth c H locs 0 0 (MQ below (va_Qi (fun r' u => r' = r ∧ u = σ) (posW (wC y a) D) (AC a 37 s.heap.size)) ([.ref (a 5), .int p1, .int p2, .int p3] : List Value).toArray s 0 0 (AC a 37 s.heap.size)) (F0 m 20 ls []) := by
    intro v1 v2 H locs ls hP hS hl hm
    unfold mX3_kind_20 at hm
    refine lv_iconst (v := 3) hx hb dX3_kind_20 (by decide) ?_
    refine lv_iload_n hx hb dX3_kind_21 rfl (lv_at hl 0 rfl) ?_
    refine lv_imul hx hb dX3_kind_22 ?_
    refine lv_iload_n hx hb dX3_kind_23 rfl (lv_at hl 1 rfl) ?_
    refine lv_iadd hx hb dX3_kind_24 ?_
    refine lv_topi (fun x3 ex3 => ?_)
    have hm := bnd_x ex3 hm
    refine lv_istore (lv' := [(4, .int x3), (1, .int v1), (2, .int v2)]) hx hb dX3_kind_25 hl (by decide) rfl (fun ls hl => ?_)
    refine lv_iload hx hb dX3_kind_27 (lv_at hl 0 rfl) ?_
    refine lv_if_lt (tgt := 50) hx hb dX3_kind_29 (by decide) (fun c4 => ?_) (fun c4 => ?_)
    · have hm := (if_pos c4).symm.trans hm
      refine lv_iconst (v := 0) hx hb dX3_kind_50 (by decide) ?_
      exact W.iret (v := 0) hx hb hr (fun T hT hW => ⟨⟨0, σ, rfl, ⟨Option.some.inj hm, rfl⟩, by rw [posW, hT]; exact hP⟩, hS.F hT⟩) hS.2.2 dX3_kind_51
    · have hm := (if_neg c4).symm.trans hm
      refine lv_iload hx hb dX3_kind_32 (lv_at hl 0 rfl) ?_
      refine va_gets hx hb hF.1 hS hown l_f135 (fun _ h9 => h9) dX3_kind_34 ?_
      refine va_tlen (v := 48) hx hb hF.2.1 hS rfl dX3_kind_37 ?_
      refine lv_icmp_ge (tgt := 50) hx hb dX3_kind_38 (by decide) (fun c5 => ?_) (fun c5 => ?_)
      · have hm := (if_pos c5).symm.trans hm
        refine lv_iconst (v := 0) hx hb dX3_kind_50 (by decide) ?_
        exact W.iret (v := 0) hx hb hr (fun T hT hW => ⟨⟨0, σ, rfl, ⟨Option.some.inj hm, rfl⟩, by rw [posW, hT]; exact hP⟩, hS.F hT⟩) hS.2.2 dX3_kind_51
      · have hm := (if_neg c5).symm.trans hm
        refine va_gets hx hb hF.1 hS hown l_f135 (fun _ h9 => h9) dX3_kind_41 ?_
        refine lv_iload hx hb dX3_kind_44 (lv_at hl 0 rfl) ?_
        obtain ⟨hi, hm⟩ := ok_I hm
        refine va_ti hx hb hF.2.1 hS hi rfl dX3_kind_46 ?_
        refine lv_goto (tgt := 51) hx hb dX3_kind_47 (by decide) ?_
        exact W.iret (v := kKINDS x3.toNatClampNeg) hx hb hr (fun T hT hW => ⟨⟨kKINDS x3.toNatClampNeg, σ, rfl, ⟨Option.some.inj hm, rfl⟩, by rw [posW, hT]; exact hP⟩, hS.F hT⟩) hS.2.2 dX3_kind_51
  unfold mX3_kind at hm
  refine lv_iload_n hx hb dX3_kind_0 rfl (lv_at hl 1 rfl) ?_
  refine lv_bipush (v := 13) hx hb dX3_kind_1 (by decide) ?_
  refine lv_icmp_ne (tgt := 20) hx hb dX3_kind_3 (by decide) (fun c6 => ?_) (fun c6 => ?_)
  · have hm := (if_neg c6).symm.trans hm
    exact L_20 p1 p2 _ _ _ hP hS (lv_sub hl [1, 2] rfl) hm
  · have hm := (if_pos c6).symm.trans hm
    refine lv_iload_n hx hb dX3_kind_6 rfl (lv_at hl 2 rfl) ?_
    refine lv_aload_n hx hb dX3_kind_7 rfl (lv_at hl 0 rfl) ?_
    refine gfX3_theorems hx hb h_X3 hown hK hP l_f45 dX3_kind_8 ?_
    refine lv_iload_n hx hb dX3_kind_11 rfl (lv_at hl 3 rfl) ?_
    obtain ⟨r7, h8, hm⟩ := ok_bind hm
    refine calV_i (As := [.int p3]) (rest := [.int p2]) ⟨hx, hb, hml, hown, hts⟩ (kX6_premises l D y a t hI _ σ p3 r7 h8) (cwV 1 hts (gAV aM_X3_130 aI_X6_premises aS_X6_premises aN_X6 aC_X6_premises) rfl rfl rfl eX6_premises ⟨Nat.le_of_ble_eq_true rfl, Nat.le_of_ble_eq_true rfl⟩) (preV_W (ci := 6) (q := (RX6, TX6, 9)) hK hP hF hS rfl (wC_4 y a σ)) rfl hl.1 rfl (Nat.le_of_ble_eq_true rfl) dX3_kind_12 ⟨Nat.zero_le _, Nat.zero_le _⟩ hS (AC_le hS.1) (fun H locs hP hS hk1 => ?_)
    refine lv_icmp_le (tgt := 20) hx hb dX3_kind_15 (by decide) (fun c9 => ?_) (fun c9 => ?_)
    · have hm := (if_pos c9).symm.trans hm
      exact L_20 p1 p2 _ _ _ hP hS (lv_sub hl [1, 2] rfl) hm
    · have hm := (if_neg c9).symm.trans hm
      refine lv_iconst (v := 0) hx hb dX3_kind_18 (by decide) ?_
      exact W.iret (v := 0) hx hb hr (fun T hT hW => ⟨⟨0, σ, rfl, ⟨Option.some.inj hm, rfl⟩, by rw [posW, hT]; exact hP⟩, hS.F hT⟩) hS.2.2 dX3_kind_19
theorem eX3_refer : yX3_refer.cls = RX3 ∧ yX3_refer.cls ≠ "java/lang/invoke/MethodHandle" ∧ yX3_refer.cls ≠ "java/lang/invoke/VarHandle" ∧ (parseMethodDescriptor yX3_refer.desc).map (fun d => d.parameters.length) = some 3 := by decide +kernel
def mX3_refer_34 (s3 : St) (v1 : Int32) (v2 : Int32) : Option St :=
chkI v2 180 (
bnd (su s3 31 (upd (s3.1 31) v2.toNatClampNeg v1)) fun s4 =>
some s4)
def mX3_refer (σ : St) (p1 : Int32) (p2 : Int32) (p3 : Int32) : Option St :=
if p1 < 0 then (
some σ)
else (
if 180 ≤ p1 then (
some σ)
else (
chkI p1 180 (
bnd (su σ 32 (upd (σ.1 32) p1.toNatClampNeg p2)) fun s7 =>
if p2 = 0 then (
mX3_refer_34 s7 0 p1)
else (
mX3_refer_34 s7 p3 p1))))
set_option maxHeartbeats 4000000 in
set_option maxRecDepth 100000 in
theorem kX3_refer (l : Launch) (D : va_G) (y : Nat → ClassId) (a t : Nat → Nat) (hI : AI a 37) (sz : Nat) (σ τ : St) (p1 : Int32) (p2 : Int32) (p3 : Int32) (hm : mX3_refer σ p1 p2 p3 = some τ) : Met l yX3_refer zX3_refer { frames := 0, cells := 0, slots := 0, locals := 0 } (va_Pc [.ref (a 5), .int p1, .int p2, .int p3] (preW (wC y a) a 37 D y t σ sz)) (va_Qv (fun u => u = τ) (posW (wC y a) D) (AC a 37 sz)) 0 0 (AC a 37 sz) := by
  refine Met.ofW (cc := cX3_refer) (maxL := 4) (ret := none) (by decide) rfl ?_
  intro p e s m args below meth c s₁ B hml hv
  obtain ⟨rfl, hsz, hP, hK, hF⟩ := hv
  have hx := B.exec
  have hb := B.bytes
  have hr := B.returns
  have hts := atoms_spec (ws := zX3_refer) B.pre
  have hown : s.vm.findClass RX3 = some m.cls := findClass_of_methodNamed B.named
  have hlocks := B.notSynchronized
  subst hsz
  have l_f25 := hts _ (List.mem_cons_of_mem _ aF_X3_25)
  have l_f28 := hts _ (List.mem_cons_of_mem _ aF_X3_28)
  have h_X3 : ∀ w ∈ wsX30, w.before _ s = true := fun w hw => hts w (List.mem_cons_of_mem _ (hwX3 w hw))
  have hS : va_S (AC a 37 s.heap.size) s.heap s.heap [] := va_S.rf
  have hl := lv_entry ([.ref (a 5), .int p1, .int p2, .int p3]) (n := 4) (Nat.le_of_ble_eq_true rfl)
  rw [lg_entry_eq]
  generalize (lg_sl ([.ref (a 5), .int p1, .int p2, .int p3]) ++ List.replicate (4 - (lg_sl ([.ref (a 5), .int p1, .int p2, .int p3])).length) Slot.unset).toArray = ls at hl ⊢
  have hl : lv_has ls 4 [(0, .ref (a 5)), (1, .int p1), (2, .int p2), (3, .int p3)] := hl
  have L_34 : ∀ (s3 : St) (v1 : Int32) (v2 : Int32) (H : Heap) (locs : List Loc) (ls : Array Slot), va_P D vwCl (wC y a s3) H → va_S (AC a 37 s.heap.size) s.heap H locs → lv_has ls 4 [] → mX3_refer_34 s3 v1 v2 = some τ → W p l e (headSpec zX3_refer ({ frames := 0, cells := 0, slots := 0, locals := 0 })).room s m ([.ref (a 5), .int p1, .int p2, .int p3] : List Value).toArray below meth c H locs 0 0 (MQ below (va_Qv (fun u => u = τ) (posW (wC y a) D) (AC a 37 s.heap.size)) ([.ref (a 5), .int p1, .int p2, .int p3] : List Value).toArray s 0 0 (AC a 37 s.heap.size)) (F0 m 34 ls [.int v1, .int v2, .ref (a 28)]) := by
    intro s3 v1 v2 H locs ls hP hS hl hm
    unfold mX3_refer_34 at hm
    obtain ⟨hi, hm⟩ := ok_I hm
    refine stC_28 hx hb hK hP hI AC_in hS hi dX3_refer_34 (fun H locs hP hS => ?_)
    generalize es4 : su s3 31 (upd (s3.1 31) v2.toNatClampNeg v1) = s4 at hP
    have hm := bnd_x es4.symm hm
    exact W.vret hx hb hr (fun T hT hW => ⟨⟨s4, rfl, Option.some.inj hm, by rw [posW, hT]; exact hP⟩, hS.F hT⟩) hS.2.2 dX3_refer_35
  unfold mX3_refer at hm
  refine lv_iload_n hx hb dX3_refer_0 rfl (lv_at hl 1 rfl) ?_
  refine lv_if_lt (tgt := 35) hx hb dX3_refer_1 (by decide) (fun c5 => ?_) (fun c5 => ?_)
  · have hm := (if_pos c5).symm.trans hm
    exact W.vret hx hb hr (fun T hT hW => ⟨⟨σ, rfl, Option.some.inj hm, by rw [posW, hT]; exact hP⟩, hS.F hT⟩) hS.2.2 dX3_refer_35
  · have hm := (if_neg c5).symm.trans hm
    refine lv_iload_n hx hb dX3_refer_4 rfl (lv_at hl 1 rfl) ?_
    refine lv_aload_n hx hb dX3_refer_5 rfl (lv_at hl 0 rfl) ?_
    refine gfX3_references hx hb h_X3 hown hK hP l_f25 dX3_refer_6 ?_
    refine alC_28 hx hb hK hP dX3_refer_9 ?_
    refine lv_icmp_ge (tgt := 35) hx hb dX3_refer_10 (by decide) (fun c6 => ?_) (fun c6 => ?_)
    · have hm := (if_pos c6).symm.trans hm
      exact W.vret hx hb hr (fun T hT hW => ⟨⟨σ, rfl, Option.some.inj hm, by rw [posW, hT]; exact hP⟩, hS.F hT⟩) hS.2.2 dX3_refer_35
    · have hm := (if_neg c6).symm.trans hm
      refine lv_aload_n hx hb dX3_refer_13 rfl (lv_at hl 0 rfl) ?_
      refine gfX3_kinds hx hb h_X3 hown hK hP l_f28 dX3_refer_14 ?_
      refine lv_iload_n hx hb dX3_refer_17 rfl (lv_at hl 1 rfl) ?_
      refine lv_iload_n hx hb dX3_refer_18 rfl (lv_at hl 2 rfl) ?_
      obtain ⟨hi, hm⟩ := ok_I hm
      refine stC_29 hx hb hK hP hI AC_in hS hi dX3_refer_19 (fun H locs hP hS => ?_)
      generalize es7 : su σ 32 (upd (σ.1 32) p1.toNatClampNeg p2) = s7 at hP
      have hm := bnd_x es7.symm hm
      refine lv_aload_n hx hb dX3_refer_20 rfl (lv_at hl 0 rfl) ?_
      refine gfX3_references hx hb h_X3 hown hK hP l_f25 dX3_refer_21 ?_
      refine lv_iload_n hx hb dX3_refer_24 rfl (lv_at hl 1 rfl) ?_
      refine lv_iload_n hx hb dX3_refer_25 rfl (lv_at hl 2 rfl) ?_
      refine lv_if_ne (tgt := 33) hx hb dX3_refer_26 (by decide) (fun c8 => ?_) (fun c8 => ?_)
      · have hm := (if_neg c8).symm.trans hm
        refine lv_iload_n hx hb dX3_refer_33 rfl (lv_at hl 3 rfl) ?_
        exact L_34 s7 p3 p1 _ _ _ hP hS (lv_sub hl [] rfl) hm
      · have hm := (if_pos c8).symm.trans hm
        refine lv_iconst (v := 0) hx hb dX3_refer_29 (by decide) ?_
        refine lv_goto (tgt := 34) hx hb dX3_refer_30 (by decide) ?_
        exact L_34 s7 0 p1 _ _ _ hP hS (lv_sub hl [] rfl) hm
theorem eX3_noteDeed : yX3_noteDeed.cls = RX3 ∧ yX3_noteDeed.cls ≠ "java/lang/invoke/MethodHandle" ∧ yX3_noteDeed.cls ≠ "java/lang/invoke/VarHandle" ∧ (parseMethodDescriptor yX3_noteDeed.desc).map (fun d => d.parameters.length) = some 1 := by decide +kernel
def mX3_noteDeed (σ : St) (p1 : Int32) : Option St :=
if (σ.1 7 0) < 0 then (
some σ)
else (
if 120 ≤ (σ.1 7 0) then (
some σ)
else (
chkI (σ.1 7 0) 120 (
bnd (su σ 35 (upd (σ.1 35) (σ.1 7 0).toNatClampNeg p1)) fun s3 =>
bnd (su s3 7 (fun _ => (s3.1 7 0) + 1)) fun s4 =>
some s4)))
set_option maxHeartbeats 4000000 in
set_option maxRecDepth 100000 in
theorem kX3_noteDeed (l : Launch) (D : va_G) (y : Nat → ClassId) (a t : Nat → Nat) (hI : AI a 37) (sz : Nat) (σ τ : St) (p1 : Int32) (hm : mX3_noteDeed σ p1 = some τ) : Met l yX3_noteDeed zX3_noteDeed { frames := 0, cells := 0, slots := 0, locals := 0 } (va_Pc [.ref (a 5), .int p1] (preW (wC y a) a 37 D y t σ sz)) (va_Qv (fun u => u = τ) (posW (wC y a) D) (AC a 37 sz)) 0 0 (AC a 37 sz) := by
  refine Met.ofW (cc := cX3_noteDeed) (maxL := 2) (ret := none) (by decide) rfl ?_
  intro p e s m args below meth c s₁ B hml hv
  obtain ⟨rfl, hsz, hP, hK, hF⟩ := hv
  have hx := B.exec
  have hb := B.bytes
  have hr := B.returns
  have hts := atoms_spec (ws := zX3_noteDeed) B.pre
  have hown : s.vm.findClass RX3 = some m.cls := findClass_of_methodNamed B.named
  have hlocks := B.notSynchronized
  subst hsz
  have l_f85 := hts _ (List.mem_cons_of_mem _ aF_X3_85)
  have l_f38 := hts _ (List.mem_cons_of_mem _ aF_X3_38)
  have h_X3 : ∀ w ∈ wsX30, w.before _ s = true := fun w hw => hts w (List.mem_cons_of_mem _ (hwX3 w hw))
  have hS : va_S (AC a 37 s.heap.size) s.heap s.heap [] := va_S.rf
  have hl := lv_entry ([.ref (a 5), .int p1]) (n := 2) (Nat.le_of_ble_eq_true rfl)
  rw [lg_entry_eq]
  generalize (lg_sl ([.ref (a 5), .int p1]) ++ List.replicate (2 - (lg_sl ([.ref (a 5), .int p1])).length) Slot.unset).toArray = ls at hl ⊢
  have hl : lv_has ls 2 [(0, .ref (a 5)), (1, .int p1)] := hl
  unfold mX3_noteDeed at hm
  refine lv_aload_n hx hb dX3_noteDeed_0 rfl (lv_at hl 0 rfl) ?_
  refine gfX3_deedCount hx hb h_X3 hown hK hP l_f85 dX3_noteDeed_1 ?_
  refine lv_if_lt (tgt := 36) hx hb dX3_noteDeed_4 (by decide) (fun c1 => ?_) (fun c1 => ?_)
  · have hm := (if_pos c1).symm.trans hm
    exact W.vret hx hb hr (fun T hT hW => ⟨⟨σ, rfl, Option.some.inj hm, by rw [posW, hT]; exact hP⟩, hS.F hT⟩) hS.2.2 dX3_noteDeed_36
  · have hm := (if_neg c1).symm.trans hm
    refine lv_aload_n hx hb dX3_noteDeed_7 rfl (lv_at hl 0 rfl) ?_
    refine gfX3_deedCount hx hb h_X3 hown hK hP l_f85 dX3_noteDeed_8 ?_
    refine lv_bipush (v := 120) hx hb dX3_noteDeed_11 (by decide) ?_
    refine lv_icmp_ge (tgt := 36) hx hb dX3_noteDeed_13 (by decide) (fun c2 => ?_) (fun c2 => ?_)
    · have hm := (if_pos c2).symm.trans hm
      exact W.vret hx hb hr (fun T hT hW => ⟨⟨σ, rfl, Option.some.inj hm, by rw [posW, hT]; exact hP⟩, hS.F hT⟩) hS.2.2 dX3_noteDeed_36
    · have hm := (if_neg c2).symm.trans hm
      refine lv_aload_n hx hb dX3_noteDeed_16 rfl (lv_at hl 0 rfl) ?_
      refine gfX3_deeds hx hb h_X3 hown hK hP l_f38 dX3_noteDeed_17 ?_
      refine lv_aload_n hx hb dX3_noteDeed_20 rfl (lv_at hl 0 rfl) ?_
      refine gfX3_deedCount hx hb h_X3 hown hK hP l_f85 dX3_noteDeed_21 ?_
      refine lv_iload_n hx hb dX3_noteDeed_24 rfl (lv_at hl 1 rfl) ?_
      obtain ⟨hi, hm⟩ := ok_I hm
      refine stC_32 hx hb hK hP hI AC_in hS hi dX3_noteDeed_25 (fun H locs hP hS => ?_)
      generalize es3 : su σ 35 (upd (σ.1 35) (σ.1 7 0).toNatClampNeg p1) = s3 at hP
      have hm := bnd_x es3.symm hm
      refine lv_aload_n hx hb dX3_noteDeed_26 rfl (lv_at hl 0 rfl) ?_
      refine lv_dup hx hb dX3_noteDeed_27 rfl ?_
      refine gfX3_deedCount hx hb h_X3 hown hK hP l_f85 dX3_noteDeed_28 ?_
      refine lv_iconst (v := 1) hx hb dX3_noteDeed_31 (by decide) ?_
      refine lv_iadd hx hb dX3_noteDeed_32 ?_
      refine pfX3_deedCount hx hb h_X3 hown hK hP hI AC_in hS l_f85 dX3_noteDeed_33 (fun H locs hP hS => ?_)
      generalize es4 : su s3 7 (fun _ => (s3.1 7 0) + 1) = s4 at hP
      have hm := bnd_x es4.symm hm
      exact W.vret hx hb hr (fun T hT hW => ⟨⟨s4, rfl, Option.some.inj hm, by rw [posW, hT]; exact hP⟩, hS.F hT⟩) hS.2.2 dX3_noteDeed_36
theorem eX3_add : yX3_add.cls = RX3 ∧ yX3_add.cls ≠ "java/lang/invoke/MethodHandle" ∧ yX3_add.cls ≠ "java/lang/invoke/VarHandle" ∧ (parseMethodDescriptor yX3_add.desc).map (fun d => d.parameters.length) = some 5 := by decide +kernel
def mX3_add (σ : St) (p1 : Int32) (p2 : Int32) (p3 : Int32) (p4 : Int32) (p5 : Int32) : Option (Int32 × St) :=
bnd (σ.1 8 0) fun x1 =>
if x1 < 0 then (
some ((-1), σ))
else (
if x1 < 60 then (
chkI x1 60 (
bnd (su σ 29 (upd (σ.1 29) x1.toNatClampNeg p1)) fun s4 =>
chkI x1 60 (
bnd (su s4 30 (upd (s4.1 30) x1.toNatClampNeg p2)) fun s5 =>
(mX3_kind s5 p2 0 p3).bind fun r6 =>
(mX3_refer s5 (3 * x1) r6 p3).bind fun s9 =>
(mX3_kind s9 p2 1 p3).bind fun r10 =>
(mX3_refer s9 ((3 * x1) + 1) r10 p4).bind fun s13 =>
(mX3_kind s13 p2 2 p3).bind fun r14 =>
(mX3_refer s13 ((3 * x1) + 2) r14 p5).bind fun s17 =>
(mX0_innermost s17).bind fun r18 =>
chkI x1 60 (
bnd (su s17 33 (upd (s17.1 33) x1.toNatClampNeg r18)) fun s20 =>
bnd (su s20 8 (fun _ => (s20.1 8 0) + 1)) fun s21 =>
(mX3_noteDeed s21 (-1)).bind fun s23 =>
some (x1, s23)))))
else (
some ((-1), σ)))
set_option maxHeartbeats 4000000 in
set_option maxRecDepth 100000 in
theorem kX3_add (l : Launch) (D : va_G) (y : Nat → ClassId) (a t : Nat → Nat) (hI : AI a 37) (sz : Nat) (σ τ : St) (p1 : Int32) (p2 : Int32) (p3 : Int32) (p4 : Int32) (p5 : Int32) (r : Int32) (hm : mX3_add σ p1 p2 p3 p4 p5 = some (r, τ)) : Met l yX3_add zX3_add { frames := 2, cells := 0, slots := 0, locals := 45 } (va_Pc [.ref (a 5), .int p1, .int p2, .int p3, .int p4, .int p5] (preW (wC y a) a 37 D y t σ sz)) (va_Qi (fun r' u => r' = r ∧ u = τ) (posW (wC y a) D) (AC a 37 sz)) 0 0 (AC a 37 sz) := by
  refine Met.ofW (cc := cX3_add) (maxL := 7) (ret := (some .int)) (by decide) rfl ?_
  intro p e s m args below meth c s₁ B hml hv
  obtain ⟨rfl, hsz, hP, hK, hF⟩ := hv
  have hx := B.exec
  have hb := B.bytes
  have hr := B.returns
  have hts := atoms_spec (ws := zX3_add) B.pre
  have hown : s.vm.findClass RX3 = some m.cls := findClass_of_methodNamed B.named
  have hlocks := B.notSynchronized
  subst hsz
  have l_f49 := hts _ (List.mem_cons_of_mem _ aF_X3_49)
  have l_f18 := hts _ (List.mem_cons_of_mem _ aF_X3_18)
  have l_f22 := hts _ (List.mem_cons_of_mem _ aF_X3_22)
  have l_f31 := hts _ (List.mem_cons_of_mem _ aF_X3_31)
  have l_f12 := hts _ (List.mem_cons_of_mem _ aF_X3_12)
  have h_X3 : ∀ w ∈ wsX30, w.before _ s = true := fun w hw => hts w (List.mem_cons_of_mem _ (hwX3 w hw))
  have hS : va_S (AC a 37 s.heap.size) s.heap s.heap [] := va_S.rf
  have hl := lv_entry ([.ref (a 5), .int p1, .int p2, .int p3, .int p4, .int p5]) (n := 7) (Nat.le_of_ble_eq_true rfl)
  rw [lg_entry_eq]
  generalize (lg_sl ([.ref (a 5), .int p1, .int p2, .int p3, .int p4, .int p5]) ++ List.replicate (7 - (lg_sl ([.ref (a 5), .int p1, .int p2, .int p3, .int p4, .int p5])).length) Slot.unset).toArray = ls at hl ⊢
  have hl : lv_has ls 7 [(0, .ref (a 5)), (1, .int p1), (2, .int p2), (3, .int p3), (4, .int p4), (5, .int p5)] := hl
  unfold mX3_add at hm
  refine lv_aload_n hx hb dX3_add_0 rfl (lv_at hl 0 rfl) ?_
  refine gfX3_lineCount hx hb h_X3 hown hK hP l_f49 dX3_add_1 ?_
  refine lv_topi (fun x1 ex1 => ?_)
  have hm := bnd_x ex1 hm
  refine lv_istore (lv' := [(6, .int x1), (0, .ref (a 5)), (1, .int p1), (2, .int p2), (3, .int p3), (4, .int p4), (5, .int p5)]) hx hb dX3_add_4 hl (by decide) rfl (fun ls hl => ?_)
  refine lv_iload hx hb dX3_add_6 (lv_at hl 0 rfl) ?_
  refine lv_if_lt (tgt := 18) hx hb dX3_add_8 (by decide) (fun c2 => ?_) (fun c2 => ?_)
  · have hm := (if_pos c2).symm.trans hm
    refine lv_iconst (v := (-1)) hx hb dX3_add_18 (by decide) ?_
    exact W.iret (v := (-1)) hx hb hr (fun T hT hW => ⟨⟨(-1), σ, rfl, ⟨congrArg Prod.fst (Option.some.inj hm), congrArg Prod.snd (Option.some.inj hm)⟩, by rw [posW, hT]; exact hP⟩, hS.F hT⟩) hS.2.2 dX3_add_19
  · have hm := (if_neg c2).symm.trans hm
    refine lv_iload hx hb dX3_add_11 (lv_at hl 0 rfl) ?_
    refine lv_bipush (v := 60) hx hb dX3_add_13 (by decide) ?_
    refine lv_icmp_lt (tgt := 20) hx hb dX3_add_15 (by decide) (fun c3 => ?_) (fun c3 => ?_)
    · have hm := (if_pos c3).symm.trans hm
      refine lv_aload_n hx hb dX3_add_20 rfl (lv_at hl 1 rfl) ?_
      refine gfX3_lineFormulas hx hb h_X3 hown hK hP l_f18 dX3_add_21 ?_
      refine lv_iload hx hb dX3_add_24 (lv_at hl 0 rfl) ?_
      refine lv_iload_n hx hb dX3_add_26 rfl (lv_at hl 2 rfl) ?_
      obtain ⟨hi, hm⟩ := ok_I hm
      refine stC_26 hx hb hK hP hI AC_in hS hi dX3_add_27 (fun H locs hP hS => ?_)
      generalize es4 : su σ 29 (upd (σ.1 29) x1.toNatClampNeg p1) = s4 at hP
      have hm := bnd_x es4.symm hm
      refine lv_aload_n hx hb dX3_add_28 rfl (lv_at hl 1 rfl) ?_
      refine gfX3_lineRules hx hb h_X3 hown hK hP l_f22 dX3_add_29 ?_
      refine lv_iload hx hb dX3_add_32 (lv_at hl 0 rfl) ?_
      refine lv_iload_n hx hb dX3_add_34 rfl (lv_at hl 3 rfl) ?_
      obtain ⟨hi, hm⟩ := ok_I hm
      refine stC_27 hx hb hK hP hI AC_in hS hi dX3_add_35 (fun H locs hP hS => ?_)
      generalize es5 : su s4 30 (upd (s4.1 30) x1.toNatClampNeg p2) = s5 at hP
      have hm := bnd_x es5.symm hm
      refine lv_aload_n hx hb dX3_add_36 rfl (lv_at hl 1 rfl) ?_
      refine lv_iconst (v := 3) hx hb dX3_add_37 (by decide) ?_
      refine lv_iload hx hb dX3_add_38 (lv_at hl 0 rfl) ?_
      refine lv_imul hx hb dX3_add_40 ?_
      refine lv_aload_n hx hb dX3_add_41 rfl (lv_at hl 1 rfl) ?_
      refine lv_iload_n hx hb dX3_add_42 rfl (lv_at hl 3 rfl) ?_
      refine lv_iconst (v := 0) hx hb dX3_add_43 (by decide) ?_
      refine lv_iload_n hx hb dX3_add_44 rfl (lv_at hl 4 rfl) ?_
      obtain ⟨r6, h7, hm⟩ := ok_bind hm
      refine calV_i (As := [.int p2, .int 0, .int p3]) (rest := [.int (3 * x1), .ref (a 5)]) ⟨hx, hb, hml, hown, hts⟩ (kX3_kind l D y a t hI _ s5 p2 0 p3 r6 h7) (cwV 3 hts (gAV aM_X3_88 aI_X3_kind aS_X3_kind aN_X3 aC_X3_kind) rfl rfl rfl eX3_kind ⟨Nat.le_of_ble_eq_true rfl, Nat.le_of_ble_eq_true rfl⟩) (preV_W (ci := 3) (q := (RX3, TX3, 12)) hK hP hF hS rfl (wC_5 y a s5)) rfl hl.1 rfl (Nat.le_of_ble_eq_true rfl) dX3_add_45 ⟨Nat.zero_le _, Nat.zero_le _⟩ hS (AC_le hS.1) (fun H locs hP hS hk1 => ?_)
      refine lv_iload_n hx hb dX3_add_48 rfl (lv_at hl 4 rfl) ?_
      obtain ⟨s9, h8, hm⟩ := ok_bind hm
      refine calV_v (As := [.int (3 * x1), .int r6, .int p3]) (rest := []) ⟨hx, hb, hml, hown, hts⟩ (kX3_refer l D y a t hI _ s5 s9 (3 * x1) r6 p3 h8) (cwV 3 hts (gAV aM_X3_92 aI_X3_refer aS_X3_refer aN_X3 aC_X3_refer) rfl rfl rfl eX3_refer ⟨Nat.le_of_ble_eq_true rfl, Nat.le_of_ble_eq_true rfl⟩) (preV_W (ci := 3) (q := (RX3, TX3, 12)) hK hP hF hS rfl (wC_5 y a s5)) rfl hl.1 rfl (Nat.le_of_ble_eq_true rfl) dX3_add_49 ⟨Nat.zero_le _, Nat.zero_le _⟩ hS (AC_le hS.1) (fun H locs hP hS hk1 => ?_)
      refine lv_aload_n hx hb dX3_add_52 rfl (lv_at hl 1 rfl) ?_
      refine lv_iconst (v := 3) hx hb dX3_add_53 (by decide) ?_
      refine lv_iload hx hb dX3_add_54 (lv_at hl 0 rfl) ?_
      refine lv_imul hx hb dX3_add_56 ?_
      refine lv_iconst (v := 1) hx hb dX3_add_57 (by decide) ?_
      refine lv_iadd hx hb dX3_add_58 ?_
      refine lv_aload_n hx hb dX3_add_59 rfl (lv_at hl 1 rfl) ?_
      refine lv_iload_n hx hb dX3_add_60 rfl (lv_at hl 3 rfl) ?_
      refine lv_iconst (v := 1) hx hb dX3_add_61 (by decide) ?_
      refine lv_iload_n hx hb dX3_add_62 rfl (lv_at hl 4 rfl) ?_
      obtain ⟨r10, h11, hm⟩ := ok_bind hm
      refine calV_i (As := [.int p2, .int 1, .int p3]) (rest := [.int ((3 * x1) + 1), .ref (a 5)]) ⟨hx, hb, hml, hown, hts⟩ (kX3_kind l D y a t hI _ s9 p2 1 p3 r10 h11) (cwV 3 hts (gAV aM_X3_88 aI_X3_kind aS_X3_kind aN_X3 aC_X3_kind) rfl rfl rfl eX3_kind ⟨Nat.le_of_ble_eq_true rfl, Nat.le_of_ble_eq_true rfl⟩) (preV_W (ci := 3) (q := (RX3, TX3, 12)) hK hP hF hS rfl (wC_5 y a s9)) rfl hl.1 rfl (Nat.le_of_ble_eq_true rfl) dX3_add_63 ⟨Nat.zero_le _, Nat.zero_le _⟩ hS (AC_le hS.1) (fun H locs hP hS hk1 => ?_)
      refine lv_iload hx hb dX3_add_66 (lv_at hl 5 rfl) ?_
      obtain ⟨s13, h12, hm⟩ := ok_bind hm
      refine calV_v (As := [.int ((3 * x1) + 1), .int r10, .int p4]) (rest := []) ⟨hx, hb, hml, hown, hts⟩ (kX3_refer l D y a t hI _ s9 s13 ((3 * x1) + 1) r10 p4 h12) (cwV 3 hts (gAV aM_X3_92 aI_X3_refer aS_X3_refer aN_X3 aC_X3_refer) rfl rfl rfl eX3_refer ⟨Nat.le_of_ble_eq_true rfl, Nat.le_of_ble_eq_true rfl⟩) (preV_W (ci := 3) (q := (RX3, TX3, 12)) hK hP hF hS rfl (wC_5 y a s9)) rfl hl.1 rfl (Nat.le_of_ble_eq_true rfl) dX3_add_68 ⟨Nat.zero_le _, Nat.zero_le _⟩ hS (AC_le hS.1) (fun H locs hP hS hk1 => ?_)
      refine lv_aload_n hx hb dX3_add_71 rfl (lv_at hl 1 rfl) ?_
      refine lv_iconst (v := 3) hx hb dX3_add_72 (by decide) ?_
      refine lv_iload hx hb dX3_add_73 (lv_at hl 0 rfl) ?_
      refine lv_imul hx hb dX3_add_75 ?_
      refine lv_iconst (v := 2) hx hb dX3_add_76 (by decide) ?_
      refine lv_iadd hx hb dX3_add_77 ?_
      refine lv_aload_n hx hb dX3_add_78 rfl (lv_at hl 1 rfl) ?_
      refine lv_iload_n hx hb dX3_add_79 rfl (lv_at hl 3 rfl) ?_
      refine lv_iconst (v := 2) hx hb dX3_add_80 (by decide) ?_
      refine lv_iload_n hx hb dX3_add_81 rfl (lv_at hl 4 rfl) ?_
      obtain ⟨r14, h15, hm⟩ := ok_bind hm
      refine calV_i (As := [.int p2, .int 2, .int p3]) (rest := [.int ((3 * x1) + 2), .ref (a 5)]) ⟨hx, hb, hml, hown, hts⟩ (kX3_kind l D y a t hI _ s13 p2 2 p3 r14 h15) (cwV 3 hts (gAV aM_X3_88 aI_X3_kind aS_X3_kind aN_X3 aC_X3_kind) rfl rfl rfl eX3_kind ⟨Nat.le_of_ble_eq_true rfl, Nat.le_of_ble_eq_true rfl⟩) (preV_W (ci := 3) (q := (RX3, TX3, 12)) hK hP hF hS rfl (wC_5 y a s13)) rfl hl.1 rfl (Nat.le_of_ble_eq_true rfl) dX3_add_82 ⟨Nat.zero_le _, Nat.zero_le _⟩ hS (AC_le hS.1) (fun H locs hP hS hk1 => ?_)
      refine lv_iload hx hb dX3_add_85 (lv_at hl 6 rfl) ?_
      obtain ⟨s17, h16, hm⟩ := ok_bind hm
      refine calV_v (As := [.int ((3 * x1) + 2), .int r14, .int p5]) (rest := []) ⟨hx, hb, hml, hown, hts⟩ (kX3_refer l D y a t hI _ s13 s17 ((3 * x1) + 2) r14 p5 h16) (cwV 3 hts (gAV aM_X3_92 aI_X3_refer aS_X3_refer aN_X3 aC_X3_refer) rfl rfl rfl eX3_refer ⟨Nat.le_of_ble_eq_true rfl, Nat.le_of_ble_eq_true rfl⟩) (preV_W (ci := 3) (q := (RX3, TX3, 12)) hK hP hF hS rfl (wC_5 y a s13)) rfl hl.1 rfl (Nat.le_of_ble_eq_true rfl) dX3_add_87 ⟨Nat.zero_le _, Nat.zero_le _⟩ hS (AC_le hS.1) (fun H locs hP hS hk1 => ?_)
      refine lv_aload_n hx hb dX3_add_90 rfl (lv_at hl 1 rfl) ?_
      refine gfX3_lineBoxes hx hb h_X3 hown hK hP l_f31 dX3_add_91 ?_
      refine lv_iload hx hb dX3_add_94 (lv_at hl 0 rfl) ?_
      refine lv_aload_n hx hb dX3_add_96 rfl (lv_at hl 1 rfl) ?_
      refine gfX3_boxes hx hb h_X3 hown hK hP l_f12 dX3_add_97 ?_
      obtain ⟨r18, h19, hm⟩ := ok_bind hm
      refine calV_i (As := []) (rest := [.int x1, .ref (a 30)]) ⟨hx, hb, hml, hown, hts⟩ (kX0_innermost l D y a t hI _ s17 r18 h19) (cwV 0 hts (gAV aM_X3_96 aI_X0_innermost aS_X0_innermost aN_X0 aC_X0_innermost) rfl rfl rfl eX0_innermost ⟨Nat.le_of_ble_eq_true rfl, Nat.le_of_ble_eq_true rfl⟩) (preV_W (ci := 0) (q := (RX0, TX0, 6)) hK hP hF hS rfl (wC_6 y a s17)) rfl hl.1 rfl (Nat.le_of_ble_eq_true rfl) dX3_add_100 ⟨Nat.zero_le _, Nat.zero_le _⟩ hS (AC_le hS.1) (fun H locs hP hS hk1 => ?_)
      obtain ⟨hi, hm⟩ := ok_I hm
      refine stC_30 hx hb hK hP hI AC_in hS hi dX3_add_103 (fun H locs hP hS => ?_)
      generalize es20 : su s17 33 (upd (s17.1 33) x1.toNatClampNeg r18) = s20 at hP
      have hm := bnd_x es20.symm hm
      refine lv_aload_n hx hb dX3_add_104 rfl (lv_at hl 1 rfl) ?_
      refine lv_dup hx hb dX3_add_105 rfl ?_
      refine gfX3_lineCount hx hb h_X3 hown hK hP l_f49 dX3_add_106 ?_
      refine lv_iconst (v := 1) hx hb dX3_add_109 (by decide) ?_
      refine lv_iadd hx hb dX3_add_110 ?_
      refine pfX3_lineCount hx hb h_X3 hown hK hP hI AC_in hS l_f49 dX3_add_111 (fun H locs hP hS => ?_)
      generalize es21 : su s20 8 (fun _ => (s20.1 8 0) + 1) = s21 at hP
      have hm := bnd_x es21.symm hm
      refine lv_aload_n hx hb dX3_add_114 rfl (lv_at hl 1 rfl) ?_
      refine lv_iconst (v := (-1)) hx hb dX3_add_115 (by decide) ?_
      obtain ⟨s23, h22, hm⟩ := ok_bind hm
      refine calV_v (As := [.int (-1)]) (rest := []) ⟨hx, hb, hml, hown, hts⟩ (kX3_noteDeed l D y a t hI _ s21 s23 (-1) h22) (cwV 1 hts (gAV aM_X3_99 aI_X3_noteDeed aS_X3_noteDeed aN_X3 aC_X3_noteDeed) rfl rfl rfl eX3_noteDeed ⟨Nat.le_of_ble_eq_true rfl, Nat.le_of_ble_eq_true rfl⟩) (preV_W (ci := 3) (q := (RX3, TX3, 12)) hK hP hF hS rfl (wC_5 y a s21)) rfl hl.1 rfl (Nat.le_of_ble_eq_true rfl) dX3_add_116 ⟨Nat.zero_le _, Nat.zero_le _⟩ hS (AC_le hS.1) (fun H locs hP hS hk1 => ?_)
      refine lv_iload hx hb dX3_add_119 (lv_at hl 0 rfl) ?_
      exact W.iret (v := x1) hx hb hr (fun T hT hW => ⟨⟨x1, s23, rfl, ⟨congrArg Prod.fst (Option.some.inj hm), congrArg Prod.snd (Option.some.inj hm)⟩, by rw [posW, hT]; exact hP⟩, hS.F hT⟩) hS.2.2 dX3_add_121
    · have hm := (if_neg c3).symm.trans hm
      refine lv_iconst (v := (-1)) hx hb dX3_add_18 (by decide) ?_
      exact W.iret (v := (-1)) hx hb hr (fun T hT hW => ⟨⟨(-1), σ, rfl, ⟨congrArg Prod.fst (Option.some.inj hm), congrArg Prod.snd (Option.some.inj hm)⟩, by rw [posW, hT]; exact hP⟩, hS.F hT⟩) hS.2.2 dX3_add_19
theorem eX3_openBox : yX3_openBox.cls = RX3 ∧ yX3_openBox.cls ≠ "java/lang/invoke/MethodHandle" ∧ yX3_openBox.cls ≠ "java/lang/invoke/VarHandle" ∧ (parseMethodDescriptor yX3_openBox.desc).map (fun d => d.parameters.length) = some 0 := by decide +kernel
def mX3_openBox (σ : St) : Option St :=
(mX0_addAt σ (σ.1 8 0)).bind fun s2 =>
some s2
set_option maxHeartbeats 4000000 in
set_option maxRecDepth 100000 in
theorem kX3_openBox (l : Launch) (D : va_G) (y : Nat → ClassId) (a t : Nat → Nat) (hI : AI a 37) (sz : Nat) (σ τ : St) (hm : mX3_openBox σ = some τ) : Met l yX3_openBox zX3_openBox { frames := 1, cells := 0, slots := 0, locals := 21 } (va_Pc [.ref (a 5)] (preW (wC y a) a 37 D y t σ sz)) (va_Qv (fun u => u = τ) (posW (wC y a) D) (AC a 37 sz)) 0 0 (AC a 37 sz) := by
  refine Met.ofW (cc := cX3_openBox) (maxL := 1) (ret := none) (by decide) rfl ?_
  intro p e s m args below meth c s₁ B hml hv
  obtain ⟨rfl, hsz, hP, hK, hF⟩ := hv
  have hx := B.exec
  have hb := B.bytes
  have hr := B.returns
  have hts := atoms_spec (ws := zX3_openBox) B.pre
  have hown : s.vm.findClass RX3 = some m.cls := findClass_of_methodNamed B.named
  have hlocks := B.notSynchronized
  subst hsz
  have l_f12 := hts _ (List.mem_cons_of_mem _ aF_X3_12)
  have l_f49 := hts _ (List.mem_cons_of_mem _ aF_X3_49)
  have h_X3 : ∀ w ∈ wsX30, w.before _ s = true := fun w hw => hts w (List.mem_cons_of_mem _ (hwX3 w hw))
  have hS : va_S (AC a 37 s.heap.size) s.heap s.heap [] := va_S.rf
  have hl := lv_entry ([.ref (a 5)]) (n := 1) (Nat.le_of_ble_eq_true rfl)
  rw [lg_entry_eq]
  generalize (lg_sl ([.ref (a 5)]) ++ List.replicate (1 - (lg_sl ([.ref (a 5)])).length) Slot.unset).toArray = ls at hl ⊢
  have hl : lv_has ls 1 [(0, .ref (a 5))] := hl
  unfold mX3_openBox at hm
  refine lv_aload_n hx hb dX3_openBox_0 rfl (lv_at hl 0 rfl) ?_
  refine gfX3_boxes hx hb h_X3 hown hK hP l_f12 dX3_openBox_1 ?_
  refine lv_aload_n hx hb dX3_openBox_4 rfl (lv_at hl 0 rfl) ?_
  refine gfX3_lineCount hx hb h_X3 hown hK hP l_f49 dX3_openBox_5 ?_
  obtain ⟨s2, h1, hm⟩ := ok_bind hm
  refine calV_v (As := [.int (σ.1 8 0)]) (rest := []) ⟨hx, hb, hml, hown, hts⟩ (kX0_addAt l D y a t hI _ σ s2 (σ.1 8 0) h1) (cwV 1 hts (gAV aM_X3_103 aI_X0_addAt aS_X0_addAt aN_X0 aC_X0_addAt) rfl rfl rfl eX0_addAt ⟨Nat.le_of_ble_eq_true rfl, Nat.le_of_ble_eq_true rfl⟩) (preV_W (ci := 0) (q := (RX0, TX0, 6)) hK hP hF hS rfl (wC_6 y a σ)) rfl hl.1 rfl (Nat.le_of_ble_eq_true rfl) dX3_openBox_8 ⟨Nat.zero_le _, Nat.zero_le _⟩ hS (AC_le hS.1) (fun H locs hP hS hk1 => ?_)
  exact W.vret hx hb hr (fun T hT hW => ⟨⟨s2, rfl, Option.some.inj hm, by rw [posW, hT]; exact hP⟩, hS.F hT⟩) hS.2.2 dX3_openBox_11
theorem eX3_latestLineOf : yX3_latestLineOf.cls = RX3 ∧ yX3_latestLineOf.cls ≠ "java/lang/invoke/MethodHandle" ∧ yX3_latestLineOf.cls ≠ "java/lang/invoke/VarHandle" ∧ (parseMethodDescriptor yX3_latestLineOf.desc).map (fun d => d.parameters.length) = some 1 := by decide +kernel
def bX3_latestLineOf_12 (kh12 : St → Int32 → Int32 → Option Int32) (σ : St) (v1 : Int32) (v2 : Int32) : Option Int32 :=
if v2 < 0 then (
some (-1))
else (
chkI v2 60 (
if (σ.1 33 v2.toNatClampNeg) = v1 then (
some v2)
else (
bnd (v2 + (-1)) fun x5 =>
kh12 σ v1 x5)))
abbrev mX3_latestLineOf_12 (n : Nat) : St → Int32 → Int32 → Option Int32 := fx (fun _ _ _ => none) (bX3_latestLineOf_12) n
def mX3_latestLineOf (σ : St) (p1 : Int32) : Option Int32 :=
bnd ((if (σ.1 8 0) < (60 : Int32) then σ.1 8 0 else 60) - 1) fun x6 =>
mX3_latestLineOf_12 NF σ p1 x6
set_option maxHeartbeats 4000000 in
set_option maxRecDepth 100000 in
theorem kX3_latestLineOf (l : Launch) (D : va_G) (y : Nat → ClassId) (a t : Nat → Nat) (hI : AI a 37) (sz : Nat) (σ : St) (p1 : Int32) (r : Int32) (hm : mX3_latestLineOf σ p1 = some r) : Met l yX3_latestLineOf zX3_latestLineOf { frames := 1, cells := 0, slots := 0, locals := 21 } (va_Pc [.ref (a 5), .int p1] (preW (wC y a) a 37 D y t σ sz)) (va_Qi (fun r' u => r' = r ∧ u = σ) (posW (wC y a) D) (AC a 37 sz)) 0 0 (AC a 37 sz) := by
  refine Met.ofW (cc := cX3_latestLineOf) (maxL := 3) (ret := (some .int)) (by decide) rfl ?_
  intro p e s m args below meth c s₁ B hml hv
  obtain ⟨rfl, hsz, hP, hK, hF⟩ := hv
  have hx := B.exec
  have hb := B.bytes
  have hr := B.returns
  have hts := atoms_spec (ws := zX3_latestLineOf) B.pre
  have hown : s.vm.findClass RX3 = some m.cls := findClass_of_methodNamed B.named
  have hlocks := B.notSynchronized
  subst hsz
  have l_f49 := hts _ (List.mem_cons_of_mem _ aF_X3_49)
  have l_ml112 := hts _ (List.mem_cons_of_mem _ aM_X3_112)
  have l_msmin := hts _ (List.mem_cons_of_mem _ aT_J9_min_7cf53)
  have l_mi := hts _ (List.mem_cons_of_mem _ aN_J9)
  have l_mcmin := hts _ (List.mem_cons_of_mem _ aC_J9_min_7cf53)
  have l_f31 := hts _ (List.mem_cons_of_mem _ aF_X3_31)
  have h_X3 : ∀ w ∈ wsX30, w.before _ s = true := fun w hw => hts w (List.mem_cons_of_mem _ (hwX3 w hw))
  have hS : va_S (AC a 37 s.heap.size) s.heap s.heap [] := va_S.rf
  have hl := lv_entry ([.ref (a 5), .int p1]) (n := 3) (Nat.le_of_ble_eq_true rfl)
  rw [lg_entry_eq]
  generalize (lg_sl ([.ref (a 5), .int p1]) ++ List.replicate (3 - (lg_sl ([.ref (a 5), .int p1])).length) Slot.unset).toArray = ls at hl ⊢
  have hl : lv_has ls 3 [(0, .ref (a 5)), (1, .int p1)] := hl
  have L_12 : ∀ (n : Nat) (v1 : Int32) (v2 : Int32) (H : Heap) (locs : List Loc) (ls : Array Slot), va_P D vwCl (wC y a σ) H → va_S (AC a 37 s.heap.size) s.heap H locs → lv_has ls 3 [(0, .ref (a 5)), (1, .int v1), (2, .int v2)] → mX3_latestLineOf_12 n σ v1 v2 = some r → W p l e (headSpec zX3_latestLineOf ({ frames := 1, cells := 0, slots := 0, locals := 21 })).room s m ([.ref (a 5), .int p1] : List Value).toArray below meth c H locs 0 0 (MQ below (va_Qi (fun r' u => r' = r ∧ u = σ) (posW (wC y a) D) (AC a 37 s.heap.size)) ([.ref (a 5), .int p1] : List Value).toArray s 0 0 (AC a 37 s.heap.size)) (F0 m 12 ls []) := by
    intro n
    induction n with
    | zero =>
      intro v1 v2 H locs ls hP hS hl hm
      exact absurd (show (none : Option Int32) = some r from hm) (by intro h; cases h)
    | succ n ih12 =>
      obtain ⟨kh12, ekh12⟩ : ∃ z, z = mX3_latestLineOf_12 n := ⟨_, rfl⟩
      have ih12 : ∀ (v1 : Int32) (v2 : Int32) (H : Heap) (locs : List Loc) (ls : Array Slot), va_P D vwCl (wC y a σ) H → va_S (AC a 37 s.heap.size) s.heap H locs → lv_has ls 3 [(0, .ref (a 5)), (1, .int v1), (2, .int v2)] → kh12 σ v1 v2 = some r → W p l e (headSpec zX3_latestLineOf ({ frames := 1, cells := 0, slots := 0, locals := 21 })).room s m ([.ref (a 5), .int p1] : List Value).toArray below meth c H locs 0 0 (MQ below (va_Qi (fun r' u => r' = r ∧ u = σ) (posW (wC y a) D) (AC a 37 s.heap.size)) ([.ref (a 5), .int p1] : List Value).toArray s 0 0 (AC a 37 s.heap.size)) (F0 m 12 ls []) := by rw [ekh12]; exact ih12
      intro v1 v2 H locs ls hP hS hl hm
      have hm : bX3_latestLineOf_12 (mX3_latestLineOf_12 n) σ v1 v2 = some r := hm
      rw [← ekh12] at hm
      unfold bX3_latestLineOf_12 at hm
      refine lv_iload_n hx hb dX3_latestLineOf_12 rfl (lv_at hl 2 rfl) ?_
      refine lv_if_lt (tgt := 34) hx hb dX3_latestLineOf_13 (by decide) (fun c3 => ?_) (fun c3 => ?_)
      · have hm := (if_pos c3).symm.trans hm
        refine lv_iconst (v := (-1)) hx hb dX3_latestLineOf_34 (by decide) ?_
        exact W.iret (v := (-1)) hx hb hr (fun T hT hW => ⟨⟨(-1), σ, rfl, ⟨Option.some.inj hm, rfl⟩, by rw [posW, hT]; exact hP⟩, hS.F hT⟩) hS.2.2 dX3_latestLineOf_35
      · have hm := (if_neg c3).symm.trans hm
        refine lv_aload_n hx hb dX3_latestLineOf_16 rfl (lv_at hl 0 rfl) ?_
        refine gfX3_lineBoxes hx hb h_X3 hown hK hP l_f31 dX3_latestLineOf_17 ?_
        refine lv_iload_n hx hb dX3_latestLineOf_20 rfl (lv_at hl 2 rfl) ?_
        obtain ⟨hi, hm⟩ := ok_I hm
        refine ldC_30 hx hb hK hP hi dX3_latestLineOf_21 ?_
        refine lv_iload_n hx hb dX3_latestLineOf_22 rfl (lv_at hl 1 rfl) ?_
        refine lv_icmp_ne (tgt := 28) hx hb dX3_latestLineOf_23 (by decide) (fun c4 => ?_) (fun c4 => ?_)
        · have hm := (if_neg c4).symm.trans hm
          obtain ⟨x5, ex5⟩ : ∃ z : Int32, z = v2 + (-1) := ⟨_, rfl⟩
          have hm := bnd_x ex5 hm
          refine lv_iinc (v := x5) (lv' := [(2, .int x5), (0, .ref (a 5)), (1, .int v1)]) hx hb dX3_latestLineOf_28 hl (k := 2) rfl (by rw [ex5]; rfl) (by decide) rfl (fun ls hl => ?_)
          refine lv_goto (tgt := 12) hx hb dX3_latestLineOf_31 (by decide) ?_
          exact ih12 v1 x5 _ _ _ hP hS (lv_sub hl [1, 2, 0] rfl) hm
        · have hm := (if_pos c4).symm.trans hm
          refine lv_iload_n hx hb dX3_latestLineOf_26 rfl (lv_at hl 2 rfl) ?_
          exact W.iret (v := v2) hx hb hr (fun T hT hW => ⟨⟨v2, σ, rfl, ⟨Option.some.inj hm, rfl⟩, by rw [posW, hT]; exact hP⟩, hS.F hT⟩) hS.2.2 dX3_latestLineOf_27
  unfold mX3_latestLineOf at hm
  refine lv_bipush (v := 60) hx hb dX3_latestLineOf_0 (by decide) ?_
  refine lv_aload_n hx hb dX3_latestLineOf_2 rfl (lv_at hl 0 rfl) ?_
  refine gfX3_lineCount hx hb h_X3 hown hK hP l_f49 dX3_latestLineOf_3 ?_
  refine va_mmin hx hb (hml.trans hl.1.symm) hown l_ml112 l_msmin l_mi l_mcmin (Nat.le_of_ble_eq_true rfl) (Nat.le_of_ble_eq_true rfl) (Nat.zero_le _) (Nat.zero_le _) dX3_latestLineOf_6 ?_
  refine lv_iconst (v := 1) hx hb dX3_latestLineOf_9 (by decide) ?_
  refine lv_isub hx hb dX3_latestLineOf_10 ?_
  refine lv_topi (fun x6 ex6 => ?_)
  have hm := bnd_x ex6 hm
  refine lv_istore_n (lv' := [(2, .int x6), (0, .ref (a 5)), (1, .int p1)]) hx hb dX3_latestLineOf_11 rfl hl (by decide) rfl (fun ls hl => ?_)
  exact L_12 NF p1 x6 _ _ _ hP hS (lv_sub hl [1, 2, 0] rfl) hm
theorem eX3_shutBox : yX3_shutBox.cls = RX3 ∧ yX3_shutBox.cls ≠ "java/lang/invoke/MethodHandle" ∧ yX3_shutBox.cls ≠ "java/lang/invoke/VarHandle" ∧ (parseMethodDescriptor yX3_shutBox.desc).map (fun d => d.parameters.length) = some 0 := by decide +kernel
def mX3_shutBox (σ : St) : Option (Int32 × St) :=
(mX0_innermost σ).bind fun r1 =>
(mX3_latestLineOf σ r1).bind fun r3 =>
(mX0_shutAt σ r3).bind fun s6 =>
(mX3_noteDeed s6 r1).bind fun s8 =>
some (r1, s8)
set_option maxHeartbeats 4000000 in
set_option maxRecDepth 100000 in
theorem kX3_shutBox (l : Launch) (D : va_G) (y : Nat → ClassId) (a t : Nat → Nat) (hI : AI a 37) (sz : Nat) (σ τ : St) (r : Int32) (hm : mX3_shutBox σ = some (r, τ)) : Met l yX3_shutBox zX3_shutBox { frames := 2, cells := 0, slots := 0, locals := 43 } (va_Pc [.ref (a 5)] (preW (wC y a) a 37 D y t σ sz)) (va_Qi (fun r' u => r' = r ∧ u = τ) (posW (wC y a) D) (AC a 37 sz)) 0 0 (AC a 37 sz) := by
  refine Met.ofW (cc := cX3_shutBox) (maxL := 2) (ret := (some .int)) (by decide) rfl ?_
  intro p e s m args below meth c s₁ B hml hv
  obtain ⟨rfl, hsz, hP, hK, hF⟩ := hv
  have hx := B.exec
  have hb := B.bytes
  have hr := B.returns
  have hts := atoms_spec (ws := zX3_shutBox) B.pre
  have hown : s.vm.findClass RX3 = some m.cls := findClass_of_methodNamed B.named
  have hlocks := B.notSynchronized
  subst hsz
  have l_f12 := hts _ (List.mem_cons_of_mem _ aF_X3_12)
  have h_X3 : ∀ w ∈ wsX30, w.before _ s = true := fun w hw => hts w (List.mem_cons_of_mem _ (hwX3 w hw))
  have hS : va_S (AC a 37 s.heap.size) s.heap s.heap [] := va_S.rf
  have hl := lv_entry ([.ref (a 5)]) (n := 2) (Nat.le_of_ble_eq_true rfl)
  rw [lg_entry_eq]
  generalize (lg_sl ([.ref (a 5)]) ++ List.replicate (2 - (lg_sl ([.ref (a 5)])).length) Slot.unset).toArray = ls at hl ⊢
  have hl : lv_has ls 2 [(0, .ref (a 5))] := hl
  unfold mX3_shutBox at hm
  refine lv_aload_n hx hb dX3_shutBox_0 rfl (lv_at hl 0 rfl) ?_
  refine gfX3_boxes hx hb h_X3 hown hK hP l_f12 dX3_shutBox_1 ?_
  obtain ⟨r1, h2, hm⟩ := ok_bind hm
  refine calV_i (As := []) (rest := []) ⟨hx, hb, hml, hown, hts⟩ (kX0_innermost l D y a t hI _ σ r1 h2) (cwV 0 hts (gAV aM_X3_96 aI_X0_innermost aS_X0_innermost aN_X0 aC_X0_innermost) rfl rfl rfl eX0_innermost ⟨Nat.le_of_ble_eq_true rfl, Nat.le_of_ble_eq_true rfl⟩) (preV_W (ci := 0) (q := (RX0, TX0, 6)) hK hP hF hS rfl (wC_6 y a σ)) rfl hl.1 rfl (Nat.le_of_ble_eq_true rfl) dX3_shutBox_4 ⟨Nat.zero_le _, Nat.zero_le _⟩ hS (AC_le hS.1) (fun H locs hP hS hk1 => ?_)
  refine lv_istore_n (lv' := [(1, .int r1), (0, .ref (a 5))]) hx hb dX3_shutBox_7 rfl hl (by decide) rfl (fun ls hl => ?_)
  refine lv_aload_n hx hb dX3_shutBox_8 rfl (lv_at hl 1 rfl) ?_
  refine gfX3_boxes hx hb h_X3 hown hK hP l_f12 dX3_shutBox_9 ?_
  refine lv_aload_n hx hb dX3_shutBox_12 rfl (lv_at hl 1 rfl) ?_
  refine lv_iload_n hx hb dX3_shutBox_13 rfl (lv_at hl 0 rfl) ?_
  obtain ⟨r3, h4, hm⟩ := ok_bind hm
  refine calV_i (As := [.int r1]) (rest := [.ref (a 6)]) ⟨hx, hb, hml, hown, hts⟩ (kX3_latestLineOf l D y a t hI _ σ r1 r3 h4) (cwV 1 hts (gAV aM_X3_106 aI_X3_latestLineOf aS_X3_latestLineOf aN_X3 aC_X3_latestLineOf) rfl rfl rfl eX3_latestLineOf ⟨Nat.le_of_ble_eq_true rfl, Nat.le_of_ble_eq_true rfl⟩) (preV_W (ci := 3) (q := (RX3, TX3, 12)) hK hP hF hS rfl (wC_5 y a σ)) rfl hl.1 rfl (Nat.le_of_ble_eq_true rfl) dX3_shutBox_14 ⟨Nat.zero_le _, Nat.zero_le _⟩ hS (AC_le hS.1) (fun H locs hP hS hk1 => ?_)
  obtain ⟨s6, h5, hm⟩ := ok_bind hm
  refine calV_v (As := [.int r3]) (rest := []) ⟨hx, hb, hml, hown, hts⟩ (kX0_shutAt l D y a t hI _ σ s6 r3 h5) (cwV 1 hts (gAV aM_X3_109 aI_X0_shutAt aS_X0_shutAt aN_X0 aC_X0_shutAt) rfl rfl rfl eX0_shutAt ⟨Nat.le_of_ble_eq_true rfl, Nat.le_of_ble_eq_true rfl⟩) (preV_W (ci := 0) (q := (RX0, TX0, 6)) hK hP hF hS rfl (wC_6 y a σ)) rfl hl.1 rfl (Nat.le_of_ble_eq_true rfl) dX3_shutBox_17 ⟨Nat.zero_le _, Nat.zero_le _⟩ hS (AC_le hS.1) (fun H locs hP hS hk1 => ?_)
  refine lv_aload_n hx hb dX3_shutBox_20 rfl (lv_at hl 1 rfl) ?_
  refine lv_iload_n hx hb dX3_shutBox_21 rfl (lv_at hl 0 rfl) ?_
  obtain ⟨s8, h7, hm⟩ := ok_bind hm
  refine calV_v (As := [.int r1]) (rest := []) ⟨hx, hb, hml, hown, hts⟩ (kX3_noteDeed l D y a t hI _ s6 s8 r1 h7) (cwV 1 hts (gAV aM_X3_99 aI_X3_noteDeed aS_X3_noteDeed aN_X3 aC_X3_noteDeed) rfl rfl rfl eX3_noteDeed ⟨Nat.le_of_ble_eq_true rfl, Nat.le_of_ble_eq_true rfl⟩) (preV_W (ci := 3) (q := (RX3, TX3, 12)) hK hP hF hS rfl (wC_5 y a s6)) rfl hl.1 rfl (Nat.le_of_ble_eq_true rfl) dX3_shutBox_22 ⟨Nat.zero_le _, Nat.zero_le _⟩ hS (AC_le hS.1) (fun H locs hP hS hk1 => ?_)
  refine lv_iload_n hx hb dX3_shutBox_25 rfl (lv_at hl 0 rfl) ?_
  exact W.iret (v := r1) hx hb hr (fun T hT hW => ⟨⟨r1, s8, rfl, ⟨congrArg Prod.fst (Option.some.inj hm), congrArg Prod.snd (Option.some.inj hm)⟩, by rw [posW, hT]; exact hP⟩, hS.F hT⟩) hS.2.2 dX3_shutBox_26
theorem eX3_wasBegun : yX3_wasBegun.cls = RX3 ∧ yX3_wasBegun.cls ≠ "java/lang/invoke/MethodHandle" ∧ yX3_wasBegun.cls ≠ "java/lang/invoke/VarHandle" ∧ (parseMethodDescriptor yX3_wasBegun.desc).map (fun d => d.parameters.length) = some 0 := by decide +kernel
def mX3_wasBegun (σ : St) : Option Int32 :=
if (σ.1 7 0) ≤ 0 then (
some 0)
else (
some 1)
set_option maxHeartbeats 4000000 in
set_option maxRecDepth 100000 in
theorem kX3_wasBegun (l : Launch) (D : va_G) (y : Nat → ClassId) (a t : Nat → Nat) (hI : AI a 37) (sz : Nat) (σ : St) (r : Int32) (hm : mX3_wasBegun σ = some r) : Met l yX3_wasBegun zX3_wasBegun { frames := 0, cells := 0, slots := 0, locals := 0 } (va_Pc [.ref (a 5)] (preW (wC y a) a 37 D y t σ sz)) (va_Qi (fun r' u => r' = r ∧ u = σ) (posW (wC y a) D) (AC a 37 sz)) 0 0 (AC a 37 sz) := by
  refine Met.ofW (cc := cX3_wasBegun) (maxL := 1) (ret := (some .boolean)) (by decide) rfl ?_
  intro p e s m args below meth c s₁ B hml hv
  obtain ⟨rfl, hsz, hP, hK, hF⟩ := hv
  have hx := B.exec
  have hb := B.bytes
  have hr := B.returns
  have hts := atoms_spec (ws := zX3_wasBegun) B.pre
  have hown : s.vm.findClass RX3 = some m.cls := findClass_of_methodNamed B.named
  have hlocks := B.notSynchronized
  subst hsz
  have l_f85 := hts _ (List.mem_cons_of_mem _ aF_X3_85)
  have h_X3 : ∀ w ∈ wsX30, w.before _ s = true := fun w hw => hts w (List.mem_cons_of_mem _ (hwX3 w hw))
  have hS : va_S (AC a 37 s.heap.size) s.heap s.heap [] := va_S.rf
  have hl := lv_entry ([.ref (a 5)]) (n := 1) (Nat.le_of_ble_eq_true rfl)
  rw [lg_entry_eq]
  generalize (lg_sl ([.ref (a 5)]) ++ List.replicate (1 - (lg_sl ([.ref (a 5)])).length) Slot.unset).toArray = ls at hl ⊢
  have hl : lv_has ls 1 [(0, .ref (a 5))] := hl
  unfold mX3_wasBegun at hm
  refine lv_aload_n hx hb dX3_wasBegun_0 rfl (lv_at hl 0 rfl) ?_
  refine gfX3_deedCount hx hb h_X3 hown hK hP l_f85 dX3_wasBegun_1 ?_
  refine lv_if_le (tgt := 11) hx hb dX3_wasBegun_4 (by decide) (fun c1 => ?_) (fun c1 => ?_)
  · have hm := (if_pos c1).symm.trans hm
    refine lv_iconst (v := 0) hx hb dX3_wasBegun_11 (by decide) ?_
    exact W.zret (v := 0) hx hb hr rfl (fun T hT hW => ⟨⟨0, σ, rfl, ⟨Option.some.inj hm, rfl⟩, by rw [posW, hT]; exact hP⟩, hS.F hT⟩) hS.2.2 dX3_wasBegun_12
  · have hm := (if_neg c1).symm.trans hm
    refine lv_iconst (v := 1) hx hb dX3_wasBegun_7 (by decide) ?_
    refine lv_goto (tgt := 12) hx hb dX3_wasBegun_8 (by decide) ?_
    exact W.zret (v := 1) hx hb hr rfl (fun T hT hW => ⟨⟨1, σ, rfl, ⟨Option.some.inj hm, rfl⟩, by rw [posW, hT]; exact hP⟩, hS.F hT⟩) hS.2.2 dX3_wasBegun_12
theorem eX3_takeBack : yX3_takeBack.cls = RX3 ∧ yX3_takeBack.cls ≠ "java/lang/invoke/MethodHandle" ∧ yX3_takeBack.cls ≠ "java/lang/invoke/VarHandle" ∧ (parseMethodDescriptor yX3_takeBack.desc).map (fun d => d.parameters.length) = some 0 := by decide +kernel
def mX3_takeBack_69 (s1 : St) : Option St :=
bnd (su s1 8 (fun _ => if (0 : Int32) < ((s1.1 8 0) - 1) then (s1.1 8 0) - 1 else 0)) fun s2 =>
some s2
def mX3_takeBack (σ : St) : Option St :=
bnd ((σ.1 7 0) - 1) fun x3 =>
if x3 < 0 then (
some σ)
else (
if x3 < 120 then (
bnd (su σ 7 (fun _ => x3)) fun s6 =>
chkI x3 120 (
if (s6.1 35 x3.toNatClampNeg) = (-1) then (
(mX3_ruleOf s6 ((s6.1 8 0) - 1)).bind fun r8 =>
if r8 = 14 then (
(mX0_dropLatest s6).bind fun s12 =>
mX3_takeBack_69 s12)
else (
mX3_takeBack_69 s6))
else (
chkI x3 120 (
(mX0_reopen s6 (s6.1 35 x3.toNatClampNeg)).bind fun s14 =>
some s14))))
else (
some σ))
set_option maxHeartbeats 4000000 in
set_option maxRecDepth 100000 in
theorem kX3_takeBack (l : Launch) (D : va_G) (y : Nat → ClassId) (a t : Nat → Nat) (hI : AI a 37) (sz : Nat) (σ τ : St) (hm : mX3_takeBack σ = some τ) : Met l yX3_takeBack zX3_takeBack { frames := 1, cells := 0, slots := 0, locals := 21 } (va_Pc [.ref (a 5)] (preW (wC y a) a 37 D y t σ sz)) (va_Qv (fun u => u = τ) (posW (wC y a) D) (AC a 37 sz)) 0 0 (AC a 37 sz) := by
  refine Met.ofW (cc := cX3_takeBack) (maxL := 2) (ret := none) (by decide) rfl ?_
  intro p e s m args below meth c s₁ B hml hv
  obtain ⟨rfl, hsz, hP, hK, hF⟩ := hv
  have hx := B.exec
  have hb := B.bytes
  have hr := B.returns
  have hts := atoms_spec (ws := zX3_takeBack) B.pre
  have hown : s.vm.findClass RX3 = some m.cls := findClass_of_methodNamed B.named
  have hlocks := B.notSynchronized
  subst hsz
  have l_f85 := hts _ (List.mem_cons_of_mem _ aF_X3_85)
  have l_f38 := hts _ (List.mem_cons_of_mem _ aF_X3_38)
  have l_f49 := hts _ (List.mem_cons_of_mem _ aF_X3_49)
  have l_f12 := hts _ (List.mem_cons_of_mem _ aF_X3_12)
  have l_ml127 := hts _ (List.mem_cons_of_mem _ aM_X3_127)
  have l_msmax := hts _ (List.mem_cons_of_mem _ aT_J9_max_7cf53)
  have l_mi := hts _ (List.mem_cons_of_mem _ aN_J9)
  have l_mcmax := hts _ (List.mem_cons_of_mem _ aC_J9_max_7cf53)
  have h_X3 : ∀ w ∈ wsX30, w.before _ s = true := fun w hw => hts w (List.mem_cons_of_mem _ (hwX3 w hw))
  have hS : va_S (AC a 37 s.heap.size) s.heap s.heap [] := va_S.rf
  have hl := lv_entry ([.ref (a 5)]) (n := 2) (Nat.le_of_ble_eq_true rfl)
  rw [lg_entry_eq]
  generalize (lg_sl ([.ref (a 5)]) ++ List.replicate (2 - (lg_sl ([.ref (a 5)])).length) Slot.unset).toArray = ls at hl ⊢
  have hl : lv_has ls 2 [(0, .ref (a 5))] := hl
  have L_69 : ∀ (s1 : St) (H : Heap) (locs : List Loc) (ls : Array Slot), va_P D vwCl (wC y a s1) H → va_S (AC a 37 s.heap.size) s.heap H locs → lv_has ls 2 [(0, .ref (a 5))] → mX3_takeBack_69 s1 = some τ → W p l e (headSpec zX3_takeBack ({ frames := 1, cells := 0, slots := 0, locals := 21 })).room s m ([.ref (a 5)] : List Value).toArray below meth c H locs 0 0 (MQ below (va_Qv (fun u => u = τ) (posW (wC y a) D) (AC a 37 s.heap.size)) ([.ref (a 5)] : List Value).toArray s 0 0 (AC a 37 s.heap.size)) (F0 m 69 ls []) := by
    intro s1 H locs ls hP hS hl hm
    unfold mX3_takeBack_69 at hm
    refine lv_aload_n hx hb dX3_takeBack_69 rfl (lv_at hl 0 rfl) ?_
    refine lv_iconst (v := 0) hx hb dX3_takeBack_70 (by decide) ?_
    refine lv_aload_n hx hb dX3_takeBack_71 rfl (lv_at hl 0 rfl) ?_
    refine gfX3_lineCount hx hb h_X3 hown hK hP l_f49 dX3_takeBack_72 ?_
    refine lv_iconst (v := 1) hx hb dX3_takeBack_75 (by decide) ?_
    refine lv_isub hx hb dX3_takeBack_76 ?_
    refine va_mmax hx hb (hml.trans hl.1.symm) hown l_ml127 l_msmax l_mi l_mcmax (Nat.le_of_ble_eq_true rfl) (Nat.le_of_ble_eq_true rfl) (Nat.zero_le _) (Nat.zero_le _) dX3_takeBack_77 ?_
    refine pfX3_lineCount hx hb h_X3 hown hK hP hI AC_in hS l_f49 dX3_takeBack_80 (fun H locs hP hS => ?_)
    generalize es2 : su s1 8 (fun _ => if (0 : Int32) < ((s1.1 8 0) - 1) then (s1.1 8 0) - 1 else 0) = s2 at hP
    have hm := bnd_x es2.symm hm
    exact W.vret hx hb hr (fun T hT hW => ⟨⟨s2, rfl, Option.some.inj hm, by rw [posW, hT]; exact hP⟩, hS.F hT⟩) hS.2.2 dX3_takeBack_83
  unfold mX3_takeBack at hm
  refine lv_aload_n hx hb dX3_takeBack_0 rfl (lv_at hl 0 rfl) ?_
  refine gfX3_deedCount hx hb h_X3 hown hK hP l_f85 dX3_takeBack_1 ?_
  refine lv_iconst (v := 1) hx hb dX3_takeBack_4 (by decide) ?_
  refine lv_isub hx hb dX3_takeBack_5 ?_
  refine lv_topi (fun x3 ex3 => ?_)
  have hm := bnd_x ex3 hm
  refine lv_istore_n (lv' := [(1, .int x3), (0, .ref (a 5))]) hx hb dX3_takeBack_6 rfl hl (by decide) rfl (fun ls hl => ?_)
  refine lv_iload_n hx hb dX3_takeBack_7 rfl (lv_at hl 0 rfl) ?_
  refine lv_if_lt (tgt := 17) hx hb dX3_takeBack_8 (by decide) (fun c4 => ?_) (fun c4 => ?_)
  · have hm := (if_pos c4).symm.trans hm
    exact W.vret hx hb hr (fun T hT hW => ⟨⟨σ, rfl, Option.some.inj hm, by rw [posW, hT]; exact hP⟩, hS.F hT⟩) hS.2.2 dX3_takeBack_17
  · have hm := (if_neg c4).symm.trans hm
    refine lv_iload_n hx hb dX3_takeBack_11 rfl (lv_at hl 0 rfl) ?_
    refine lv_bipush (v := 120) hx hb dX3_takeBack_12 (by decide) ?_
    refine lv_icmp_lt (tgt := 18) hx hb dX3_takeBack_14 (by decide) (fun c5 => ?_) (fun c5 => ?_)
    · have hm := (if_pos c5).symm.trans hm
      refine lv_aload_n hx hb dX3_takeBack_18 rfl (lv_at hl 1 rfl) ?_
      refine lv_iload_n hx hb dX3_takeBack_19 rfl (lv_at hl 0 rfl) ?_
      refine pfX3_deedCount hx hb h_X3 hown hK hP hI AC_in hS l_f85 dX3_takeBack_20 (fun H locs hP hS => ?_)
      generalize es6 : su σ 7 (fun _ => x3) = s6 at hP
      have hm := bnd_x es6.symm hm
      refine lv_aload_n hx hb dX3_takeBack_23 rfl (lv_at hl 1 rfl) ?_
      refine gfX3_deeds hx hb h_X3 hown hK hP l_f38 dX3_takeBack_24 ?_
      refine lv_iload_n hx hb dX3_takeBack_27 rfl (lv_at hl 0 rfl) ?_
      obtain ⟨hi, hm⟩ := ok_I hm
      refine ldC_32 hx hb hK hP hi dX3_takeBack_28 ?_
      refine lv_iconst (v := (-1)) hx hb dX3_takeBack_29 (by decide) ?_
      refine lv_icmp_eq (tgt := 47) hx hb dX3_takeBack_30 (by decide) (fun c7 => ?_) (fun c7 => ?_)
      · have hm := (if_pos c7).symm.trans hm
        refine lv_aload_n hx hb dX3_takeBack_47 rfl (lv_at hl 1 rfl) ?_
        refine lv_aload_n hx hb dX3_takeBack_48 rfl (lv_at hl 1 rfl) ?_
        refine gfX3_lineCount hx hb h_X3 hown hK hP l_f49 dX3_takeBack_49 ?_
        refine lv_iconst (v := 1) hx hb dX3_takeBack_52 (by decide) ?_
        refine lv_isub hx hb dX3_takeBack_53 ?_
        obtain ⟨r8, h9, hm⟩ := ok_bind hm
        refine calV_i (As := [.int ((s6.1 8 0) - 1)]) (rest := []) ⟨hx, hb, hml, hown, hts⟩ (kX3_ruleOf l D y a t hI _ s6 ((s6.1 8 0) - 1) r8 h9) (cwV 1 hts (gAV aM_X3_121 aI_X3_ruleOf aS_X3_ruleOf aN_X3 aC_X3_ruleOf) rfl rfl rfl eX3_ruleOf ⟨Nat.le_of_ble_eq_true rfl, Nat.le_of_ble_eq_true rfl⟩) (preV_W (ci := 3) (q := (RX3, TX3, 12)) hK hP hF hS rfl (wC_5 y a s6)) rfl hl.1 rfl (Nat.le_of_ble_eq_true rfl) dX3_takeBack_54 ⟨Nat.zero_le _, Nat.zero_le _⟩ hS (AC_le hS.1) (fun H locs hP hS hk1 => ?_)
        refine lv_bipush (v := 14) hx hb dX3_takeBack_57 (by decide) ?_
        refine lv_icmp_ne (tgt := 69) hx hb dX3_takeBack_59 (by decide) (fun c10 => ?_) (fun c10 => ?_)
        · have hm := (if_neg c10).symm.trans hm
          exact L_69 s6 _ _ _ hP hS (lv_sub hl [1] rfl) hm
        · have hm := (if_pos c10).symm.trans hm
          refine lv_aload_n hx hb dX3_takeBack_62 rfl (lv_at hl 1 rfl) ?_
          refine gfX3_boxes hx hb h_X3 hown hK hP l_f12 dX3_takeBack_63 ?_
          obtain ⟨s12, h11, hm⟩ := ok_bind hm
          refine calV_v (As := []) (rest := []) ⟨hx, hb, hml, hown, hts⟩ (kX0_dropLatest l D y a t hI _ s6 s12  h11) (cwV 0 hts (gAV aM_X3_124 aI_X0_dropLatest aS_X0_dropLatest aN_X0 aC_X0_dropLatest) rfl rfl rfl eX0_dropLatest ⟨Nat.le_of_ble_eq_true rfl, Nat.le_of_ble_eq_true rfl⟩) (preV_W (ci := 0) (q := (RX0, TX0, 6)) hK hP hF hS rfl (wC_6 y a s6)) rfl hl.1 rfl (Nat.le_of_ble_eq_true rfl) dX3_takeBack_66 ⟨Nat.zero_le _, Nat.zero_le _⟩ hS (AC_le hS.1) (fun H locs hP hS hk1 => ?_)
          exact L_69 s12 _ _ _ hP hS (lv_sub hl [1] rfl) hm
      · have hm := (if_neg c7).symm.trans hm
        refine lv_aload_n hx hb dX3_takeBack_33 rfl (lv_at hl 1 rfl) ?_
        refine gfX3_boxes hx hb h_X3 hown hK hP l_f12 dX3_takeBack_34 ?_
        refine lv_aload_n hx hb dX3_takeBack_37 rfl (lv_at hl 1 rfl) ?_
        refine gfX3_deeds hx hb h_X3 hown hK hP l_f38 dX3_takeBack_38 ?_
        refine lv_iload_n hx hb dX3_takeBack_41 rfl (lv_at hl 0 rfl) ?_
        obtain ⟨hi, hm⟩ := ok_I hm
        refine ldC_32 hx hb hK hP hi dX3_takeBack_42 ?_
        obtain ⟨s14, h13, hm⟩ := ok_bind hm
        refine calV_v (As := [.int (s6.1 35 x3.toNatClampNeg)]) (rest := []) ⟨hx, hb, hml, hown, hts⟩ (kX0_reopen l D y a t hI _ s6 s14 (s6.1 35 x3.toNatClampNeg) h13) (cwV 1 hts (gAV aM_X3_118 aI_X0_reopen aS_X0_reopen aN_X0 aC_X0_reopen) rfl rfl rfl eX0_reopen ⟨Nat.le_of_ble_eq_true rfl, Nat.le_of_ble_eq_true rfl⟩) (preV_W (ci := 0) (q := (RX0, TX0, 6)) hK hP hF hS rfl (wC_6 y a s6)) rfl hl.1 rfl (Nat.le_of_ble_eq_true rfl) dX3_takeBack_43 ⟨Nat.zero_le _, Nat.zero_le _⟩ hS (AC_le hS.1) (fun H locs hP hS hk1 => ?_)
        exact W.vret hx hb hr (fun T hT hW => ⟨⟨s14, rfl, Option.some.inj hm, by rw [posW, hT]; exact hP⟩, hS.F hT⟩) hS.2.2 dX3_takeBack_46
    · have hm := (if_neg c5).symm.trans hm
      exact W.vret hx hb hr (fun T hT hW => ⟨⟨σ, rfl, Option.some.inj hm, by rw [posW, hT]; exact hP⟩, hS.F hT⟩) hS.2.2 dX3_takeBack_17
theorem eX3_mark : yX3_mark.cls = RX3 ∧ yX3_mark.cls ≠ "java/lang/invoke/MethodHandle" ∧ yX3_mark.cls ≠ "java/lang/invoke/VarHandle" ∧ (parseMethodDescriptor yX3_mark.desc).map (fun d => d.parameters.length) = some 1 := by decide +kernel
def mX3_mark (σ : St) (p1 : Int32) : Option St :=
if p1 < 0 then (
some σ)
else (
if (σ.1 8 0) ≤ p1 then (
some σ)
else (
chkI p1 60 (
bnd (su σ 34 (upd (σ.1 34) p1.toNatClampNeg (vp_nar .boolean 1))) fun s3 =>
some s3)))
set_option maxHeartbeats 4000000 in
set_option maxRecDepth 100000 in
theorem kX3_mark (l : Launch) (D : va_G) (y : Nat → ClassId) (a t : Nat → Nat) (hI : AI a 37) (sz : Nat) (σ τ : St) (p1 : Int32) (hm : mX3_mark σ p1 = some τ) : Met l yX3_mark zX3_mark { frames := 0, cells := 0, slots := 0, locals := 0 } (va_Pc [.ref (a 5), .int p1] (preW (wC y a) a 37 D y t σ sz)) (va_Qv (fun u => u = τ) (posW (wC y a) D) (AC a 37 sz)) 0 0 (AC a 37 sz) := by
  refine Met.ofW (cc := cX3_mark) (maxL := 2) (ret := none) (by decide) rfl ?_
  intro p e s m args below meth c s₁ B hml hv
  obtain ⟨rfl, hsz, hP, hK, hF⟩ := hv
  have hx := B.exec
  have hb := B.bytes
  have hr := B.returns
  have hts := atoms_spec (ws := zX3_mark) B.pre
  have hown : s.vm.findClass RX3 = some m.cls := findClass_of_methodNamed B.named
  have hlocks := B.notSynchronized
  subst hsz
  have l_f49 := hts _ (List.mem_cons_of_mem _ aF_X3_49)
  have l_f34 := hts _ (List.mem_cons_of_mem _ aF_X3_34)
  have h_X3 : ∀ w ∈ wsX30, w.before _ s = true := fun w hw => hts w (List.mem_cons_of_mem _ (hwX3 w hw))
  have hS : va_S (AC a 37 s.heap.size) s.heap s.heap [] := va_S.rf
  have hl := lv_entry ([.ref (a 5), .int p1]) (n := 2) (Nat.le_of_ble_eq_true rfl)
  rw [lg_entry_eq]
  generalize (lg_sl ([.ref (a 5), .int p1]) ++ List.replicate (2 - (lg_sl ([.ref (a 5), .int p1])).length) Slot.unset).toArray = ls at hl ⊢
  have hl : lv_has ls 2 [(0, .ref (a 5)), (1, .int p1)] := hl
  unfold mX3_mark at hm
  refine lv_iload_n hx hb dX3_mark_0 rfl (lv_at hl 1 rfl) ?_
  refine lv_if_lt (tgt := 19) hx hb dX3_mark_1 (by decide) (fun c1 => ?_) (fun c1 => ?_)
  · have hm := (if_pos c1).symm.trans hm
    exact W.vret hx hb hr (fun T hT hW => ⟨⟨σ, rfl, Option.some.inj hm, by rw [posW, hT]; exact hP⟩, hS.F hT⟩) hS.2.2 dX3_mark_19
  · have hm := (if_neg c1).symm.trans hm
    refine lv_iload_n hx hb dX3_mark_4 rfl (lv_at hl 1 rfl) ?_
    refine lv_aload_n hx hb dX3_mark_5 rfl (lv_at hl 0 rfl) ?_
    refine gfX3_lineCount hx hb h_X3 hown hK hP l_f49 dX3_mark_6 ?_
    refine lv_icmp_ge (tgt := 19) hx hb dX3_mark_9 (by decide) (fun c2 => ?_) (fun c2 => ?_)
    · have hm := (if_pos c2).symm.trans hm
      exact W.vret hx hb hr (fun T hT hW => ⟨⟨σ, rfl, Option.some.inj hm, by rw [posW, hT]; exact hP⟩, hS.F hT⟩) hS.2.2 dX3_mark_19
    · have hm := (if_neg c2).symm.trans hm
      refine lv_aload_n hx hb dX3_mark_12 rfl (lv_at hl 0 rfl) ?_
      refine gfX3_needed hx hb h_X3 hown hK hP l_f34 dX3_mark_13 ?_
      refine lv_iload_n hx hb dX3_mark_16 rfl (lv_at hl 1 rfl) ?_
      refine lv_iconst (v := 1) hx hb dX3_mark_17 (by decide) ?_
      obtain ⟨hi, hm⟩ := ok_I hm
      refine stC_31 hx hb hK hP hI AC_in hS hi dX3_mark_18 (fun H locs hP hS => ?_)
      generalize es3 : su σ 34 (upd (σ.1 34) p1.toNatClampNeg (vp_nar .boolean 1)) = s3 at hP
      have hm := bnd_x es3.symm hm
      exact W.vret hx hb hr (fun T hT hW => ⟨⟨s3, rfl, Option.some.inj hm, by rw [posW, hT]; exact hP⟩, hS.F hT⟩) hS.2.2 dX3_mark_19
theorem eX3_markReferences : yX3_markReferences.cls = RX3 ∧ yX3_markReferences.cls ≠ "java/lang/invoke/MethodHandle" ∧ yX3_markReferences.cls ≠ "java/lang/invoke/VarHandle" ∧ (parseMethodDescriptor yX3_markReferences.desc).map (fun d => d.parameters.length) = some 1 := by decide +kernel
def mX3_markReferences_93 (kh4 : St → Int32 → Int32 → Option St) (s3 : St) (v1 : Int32) (v2 : Int32) : Option St :=
bnd (v2 + 1) fun x4 =>
kh4 s3 v1 x4
def bX3_markReferences_4 (kh4 : St → Int32 → Int32 → Option St) (s7 : St) (v5 : Int32) (v6 : Int32) : Option St :=
if ((3 * v5) + 3) ≤ v6 then (
some s7)
else (
if v6 < 0 then (
some s7)
else (
if 180 ≤ v6 then (
some s7)
else (
chkI v6 180 (
if (s7.1 32 v6.toNatClampNeg) = 1 then (
chkI v6 180 (
(mX3_mark s7 (s7.1 31 v6.toNatClampNeg)).bind fun s22 =>
mX3_markReferences_93 kh4 s22 v5 v6))
else (
chkI v6 180 (
if (s7.1 32 v6.toNatClampNeg) = 2 then (
chkI v6 180 (
(mX0_first s7 (s7.1 31 v6.toNatClampNeg)).bind fun r13 =>
(mX3_mark s7 r13).bind fun s16 =>
chkI v6 180 (
(mX0_last s16 (s16.1 31 v6.toNatClampNeg)).bind fun r17 =>
(mX3_mark s16 r17).bind fun s20 =>
mX3_markReferences_93 kh4 s20 v5 v6)))
else (
mX3_markReferences_93 kh4 s7 v5 v6)))))))
abbrev mX3_markReferences_4 (n : Nat) : St → Int32 → Int32 → Option St := fx (fun _ _ _ => none) (bX3_markReferences_4) n
def mX3_markReferences (σ : St) (p1 : Int32) : Option St :=
bnd (3 * p1) fun x23 =>
mX3_markReferences_4 NF σ p1 x23
set_option maxHeartbeats 4000000 in
set_option maxRecDepth 100000 in
theorem kX3_markReferences (l : Launch) (D : va_G) (y : Nat → ClassId) (a t : Nat → Nat) (hI : AI a 37) (sz : Nat) (σ τ : St) (p1 : Int32) (hm : mX3_markReferences σ p1 = some τ) : Met l yX3_markReferences zX3_markReferences { frames := 1, cells := 0, slots := 0, locals := 21 } (va_Pc [.ref (a 5), .int p1] (preW (wC y a) a 37 D y t σ sz)) (va_Qv (fun u => u = τ) (posW (wC y a) D) (AC a 37 sz)) 0 0 (AC a 37 sz) := by
  refine Met.ofW (cc := cX3_markReferences) (maxL := 3) (ret := none) (by decide) rfl ?_
  intro p e s m args below meth c s₁ B hml hv
  obtain ⟨rfl, hsz, hP, hK, hF⟩ := hv
  have hx := B.exec
  have hb := B.bytes
  have hr := B.returns
  have hts := atoms_spec (ws := zX3_markReferences) B.pre
  have hown : s.vm.findClass RX3 = some m.cls := findClass_of_methodNamed B.named
  have hlocks := B.notSynchronized
  subst hsz
  have l_f28 := hts _ (List.mem_cons_of_mem _ aF_X3_28)
  have l_f12 := hts _ (List.mem_cons_of_mem _ aF_X3_12)
  have l_f25 := hts _ (List.mem_cons_of_mem _ aF_X3_25)
  have h_X3 : ∀ w ∈ wsX30, w.before _ s = true := fun w hw => hts w (List.mem_cons_of_mem _ (hwX3 w hw))
  have hS : va_S (AC a 37 s.heap.size) s.heap s.heap [] := va_S.rf
  have hl := lv_entry ([.ref (a 5), .int p1]) (n := 3) (Nat.le_of_ble_eq_true rfl)
  rw [lg_entry_eq]
  generalize (lg_sl ([.ref (a 5), .int p1]) ++ List.replicate (3 - (lg_sl ([.ref (a 5), .int p1])).length) Slot.unset).toArray = ls at hl ⊢
  have hl : lv_has ls 3 [(0, .ref (a 5)), (1, .int p1)] := hl
  have L_4 : ∀ (n : Nat) (s7 : St) (v5 : Int32) (v6 : Int32) (H : Heap) (locs : List Loc) (ls : Array Slot), va_P D vwCl (wC y a s7) H → va_S (AC a 37 s.heap.size) s.heap H locs → lv_has ls 3 [(0, .ref (a 5)), (1, .int v5), (2, .int v6)] → mX3_markReferences_4 n s7 v5 v6 = some τ → W p l e (headSpec zX3_markReferences ({ frames := 1, cells := 0, slots := 0, locals := 21 })).room s m ([.ref (a 5), .int p1] : List Value).toArray below meth c H locs 0 0 (MQ below (va_Qv (fun u => u = τ) (posW (wC y a) D) (AC a 37 s.heap.size)) ([.ref (a 5), .int p1] : List Value).toArray s 0 0 (AC a 37 s.heap.size)) (F0 m 4 ls []) := by
    intro n
    induction n with
    | zero =>
      intro s7 v5 v6 H locs ls hP hS hl hm
      exact absurd (show (none : Option St) = some τ from hm) (by intro h; cases h)
    | succ n ih4 =>
      obtain ⟨kh4, ekh4⟩ : ∃ z, z = mX3_markReferences_4 n := ⟨_, rfl⟩
      have ih4 : ∀ (s7 : St) (v5 : Int32) (v6 : Int32) (H : Heap) (locs : List Loc) (ls : Array Slot), va_P D vwCl (wC y a s7) H → va_S (AC a 37 s.heap.size) s.heap H locs → lv_has ls 3 [(0, .ref (a 5)), (1, .int v5), (2, .int v6)] → kh4 s7 v5 v6 = some τ → W p l e (headSpec zX3_markReferences ({ frames := 1, cells := 0, slots := 0, locals := 21 })).room s m ([.ref (a 5), .int p1] : List Value).toArray below meth c H locs 0 0 (MQ below (va_Qv (fun u => u = τ) (posW (wC y a) D) (AC a 37 s.heap.size)) ([.ref (a 5), .int p1] : List Value).toArray s 0 0 (AC a 37 s.heap.size)) (F0 m 4 ls []) := by rw [ekh4]; exact ih4
      have L_93 : ∀ (s3 : St) (v1 : Int32) (v2 : Int32) (H : Heap) (locs : List Loc) (ls : Array Slot), va_P D vwCl (wC y a s3) H → va_S (AC a 37 s.heap.size) s.heap H locs → lv_has ls 3 [(0, .ref (a 5)), (1, .int v1), (2, .int v2)] → mX3_markReferences_93 kh4 s3 v1 v2 = some τ → W p l e (headSpec zX3_markReferences ({ frames := 1, cells := 0, slots := 0, locals := 21 })).room s m ([.ref (a 5), .int p1] : List Value).toArray below meth c H locs 0 0 (MQ below (va_Qv (fun u => u = τ) (posW (wC y a) D) (AC a 37 s.heap.size)) ([.ref (a 5), .int p1] : List Value).toArray s 0 0 (AC a 37 s.heap.size)) (F0 m 93 ls []) := by
        intro s3 v1 v2 H locs ls hP hS hl hm
        unfold mX3_markReferences_93 at hm
        obtain ⟨x4, ex4⟩ : ∃ z : Int32, z = v2 + 1 := ⟨_, rfl⟩
        have hm := bnd_x ex4 hm
        refine lv_iinc (v := x4) (lv' := [(2, .int x4), (0, .ref (a 5)), (1, .int v1)]) hx hb dX3_markReferences_93 hl (k := 2) rfl (by rw [ex4]; rfl) (by decide) rfl (fun ls hl => ?_)
        refine lv_goto (tgt := 4) hx hb dX3_markReferences_96 (by decide) ?_
        exact ih4 s3 v1 x4 _ _ _ hP hS (lv_sub hl [1, 2, 0] rfl) hm
      intro s7 v5 v6 H locs ls hP hS hl hm
      have hm : bX3_markReferences_4 (mX3_markReferences_4 n) s7 v5 v6 = some τ := hm
      rw [← ekh4] at hm
      unfold bX3_markReferences_4 at hm
      refine lv_iload_n hx hb dX3_markReferences_4 rfl (lv_at hl 2 rfl) ?_
      refine lv_iconst (v := 3) hx hb dX3_markReferences_5 (by decide) ?_
      refine lv_iload_n hx hb dX3_markReferences_6 rfl (lv_at hl 1 rfl) ?_
      refine lv_imul hx hb dX3_markReferences_7 ?_
      refine lv_iconst (v := 3) hx hb dX3_markReferences_8 (by decide) ?_
      refine lv_iadd hx hb dX3_markReferences_9 ?_
      refine lv_icmp_ge (tgt := 99) hx hb dX3_markReferences_10 (by decide) (fun c8 => ?_) (fun c8 => ?_)
      · have hm := (if_pos c8).symm.trans hm
        exact W.vret hx hb hr (fun T hT hW => ⟨⟨s7, rfl, Option.some.inj hm, by rw [posW, hT]; exact hP⟩, hS.F hT⟩) hS.2.2 dX3_markReferences_99
      · have hm := (if_neg c8).symm.trans hm
        refine lv_iload_n hx hb dX3_markReferences_13 rfl (lv_at hl 2 rfl) ?_
        refine lv_if_lt (tgt := 99) hx hb dX3_markReferences_14 (by decide) (fun c9 => ?_) (fun c9 => ?_)
        · have hm := (if_pos c9).symm.trans hm
          exact W.vret hx hb hr (fun T hT hW => ⟨⟨s7, rfl, Option.some.inj hm, by rw [posW, hT]; exact hP⟩, hS.F hT⟩) hS.2.2 dX3_markReferences_99
        · have hm := (if_neg c9).symm.trans hm
          refine lv_iload_n hx hb dX3_markReferences_17 rfl (lv_at hl 2 rfl) ?_
          refine lv_aload_n hx hb dX3_markReferences_18 rfl (lv_at hl 0 rfl) ?_
          refine gfX3_kinds hx hb h_X3 hown hK hP l_f28 dX3_markReferences_19 ?_
          refine alC_29 hx hb hK hP dX3_markReferences_22 ?_
          refine lv_icmp_ge (tgt := 99) hx hb dX3_markReferences_23 (by decide) (fun c10 => ?_) (fun c10 => ?_)
          · have hm := (if_pos c10).symm.trans hm
            exact W.vret hx hb hr (fun T hT hW => ⟨⟨s7, rfl, Option.some.inj hm, by rw [posW, hT]; exact hP⟩, hS.F hT⟩) hS.2.2 dX3_markReferences_99
          · have hm := (if_neg c10).symm.trans hm
            refine lv_aload_n hx hb dX3_markReferences_26 rfl (lv_at hl 0 rfl) ?_
            refine gfX3_kinds hx hb h_X3 hown hK hP l_f28 dX3_markReferences_27 ?_
            refine lv_iload_n hx hb dX3_markReferences_30 rfl (lv_at hl 2 rfl) ?_
            obtain ⟨hi, hm⟩ := ok_I hm
            refine ldC_29 hx hb hK hP hi dX3_markReferences_31 ?_
            refine lv_iconst (v := 1) hx hb dX3_markReferences_32 (by decide) ?_
            refine lv_icmp_ne (tgt := 49) hx hb dX3_markReferences_33 (by decide) (fun c11 => ?_) (fun c11 => ?_)
            · have hm := (if_neg c11).symm.trans hm
              refine lv_aload_n hx hb dX3_markReferences_49 rfl (lv_at hl 0 rfl) ?_
              refine gfX3_kinds hx hb h_X3 hown hK hP l_f28 dX3_markReferences_50 ?_
              refine lv_iload_n hx hb dX3_markReferences_53 rfl (lv_at hl 2 rfl) ?_
              obtain ⟨hi, hm⟩ := ok_I hm
              refine ldC_29 hx hb hK hP hi dX3_markReferences_54 ?_
              refine lv_iconst (v := 2) hx hb dX3_markReferences_55 (by decide) ?_
              refine lv_icmp_ne (tgt := 93) hx hb dX3_markReferences_56 (by decide) (fun c12 => ?_) (fun c12 => ?_)
              · have hm := (if_neg c12).symm.trans hm
                exact L_93 s7 v5 v6 _ _ _ hP hS (lv_sub hl [0, 1, 2] rfl) hm
              · have hm := (if_pos c12).symm.trans hm
                refine lv_aload_n hx hb dX3_markReferences_59 rfl (lv_at hl 0 rfl) ?_
                refine lv_aload_n hx hb dX3_markReferences_60 rfl (lv_at hl 0 rfl) ?_
                refine gfX3_boxes hx hb h_X3 hown hK hP l_f12 dX3_markReferences_61 ?_
                refine lv_aload_n hx hb dX3_markReferences_64 rfl (lv_at hl 0 rfl) ?_
                refine gfX3_references hx hb h_X3 hown hK hP l_f25 dX3_markReferences_65 ?_
                refine lv_iload_n hx hb dX3_markReferences_68 rfl (lv_at hl 2 rfl) ?_
                obtain ⟨hi, hm⟩ := ok_I hm
                refine ldC_28 hx hb hK hP hi dX3_markReferences_69 ?_
                obtain ⟨r13, h14, hm⟩ := ok_bind hm
                refine calV_i (As := [.int (s7.1 31 v6.toNatClampNeg)]) (rest := [.ref (a 5)]) ⟨hx, hb, hml, hown, hts⟩ (kX0_first l D y a t hI _ s7 (s7.1 31 v6.toNatClampNeg) r13 h14) (cwV 1 hts (gAV aM_X3_62 aI_X0_first aS_X0_first aN_X0 aC_X0_first) rfl rfl rfl eX0_first ⟨Nat.le_of_ble_eq_true rfl, Nat.le_of_ble_eq_true rfl⟩) (preV_W (ci := 0) (q := (RX0, TX0, 6)) hK hP hF hS rfl (wC_6 y a s7)) rfl hl.1 rfl (Nat.le_of_ble_eq_true rfl) dX3_markReferences_70 ⟨Nat.zero_le _, Nat.zero_le _⟩ hS (AC_le hS.1) (fun H locs hP hS hk1 => ?_)
                obtain ⟨s16, h15, hm⟩ := ok_bind hm
                refine calV_v (As := [.int r13]) (rest := []) ⟨hx, hb, hml, hown, hts⟩ (kX3_mark l D y a t hI _ s7 s16 r13 h15) (cwV 1 hts (gAV aM_X3_144 aI_X3_mark aS_X3_mark aN_X3 aC_X3_mark) rfl rfl rfl eX3_mark ⟨Nat.le_of_ble_eq_true rfl, Nat.le_of_ble_eq_true rfl⟩) (preV_W (ci := 3) (q := (RX3, TX3, 12)) hK hP hF hS rfl (wC_5 y a s7)) rfl hl.1 rfl (Nat.le_of_ble_eq_true rfl) dX3_markReferences_73 ⟨Nat.zero_le _, Nat.zero_le _⟩ hS (AC_le hS.1) (fun H locs hP hS hk1 => ?_)
                refine lv_aload_n hx hb dX3_markReferences_76 rfl (lv_at hl 0 rfl) ?_
                refine lv_aload_n hx hb dX3_markReferences_77 rfl (lv_at hl 0 rfl) ?_
                refine gfX3_boxes hx hb h_X3 hown hK hP l_f12 dX3_markReferences_78 ?_
                refine lv_aload_n hx hb dX3_markReferences_81 rfl (lv_at hl 0 rfl) ?_
                refine gfX3_references hx hb h_X3 hown hK hP l_f25 dX3_markReferences_82 ?_
                refine lv_iload_n hx hb dX3_markReferences_85 rfl (lv_at hl 2 rfl) ?_
                obtain ⟨hi, hm⟩ := ok_I hm
                refine ldC_28 hx hb hK hP hi dX3_markReferences_86 ?_
                obtain ⟨r17, h18, hm⟩ := ok_bind hm
                refine calV_i (As := [.int (s16.1 31 v6.toNatClampNeg)]) (rest := [.ref (a 5)]) ⟨hx, hb, hml, hown, hts⟩ (kX0_last l D y a t hI _ s16 (s16.1 31 v6.toNatClampNeg) r17 h18) (cwV 1 hts (gAV aM_X3_66 aI_X0_last aS_X0_last aN_X0 aC_X0_last) rfl rfl rfl eX0_last ⟨Nat.le_of_ble_eq_true rfl, Nat.le_of_ble_eq_true rfl⟩) (preV_W (ci := 0) (q := (RX0, TX0, 6)) hK hP hF hS rfl (wC_6 y a s16)) rfl hl.1 rfl (Nat.le_of_ble_eq_true rfl) dX3_markReferences_87 ⟨Nat.zero_le _, Nat.zero_le _⟩ hS (AC_le hS.1) (fun H locs hP hS hk1 => ?_)
                obtain ⟨s20, h19, hm⟩ := ok_bind hm
                refine calV_v (As := [.int r17]) (rest := []) ⟨hx, hb, hml, hown, hts⟩ (kX3_mark l D y a t hI _ s16 s20 r17 h19) (cwV 1 hts (gAV aM_X3_144 aI_X3_mark aS_X3_mark aN_X3 aC_X3_mark) rfl rfl rfl eX3_mark ⟨Nat.le_of_ble_eq_true rfl, Nat.le_of_ble_eq_true rfl⟩) (preV_W (ci := 3) (q := (RX3, TX3, 12)) hK hP hF hS rfl (wC_5 y a s16)) rfl hl.1 rfl (Nat.le_of_ble_eq_true rfl) dX3_markReferences_90 ⟨Nat.zero_le _, Nat.zero_le _⟩ hS (AC_le hS.1) (fun H locs hP hS hk1 => ?_)
                exact L_93 s20 v5 v6 _ _ _ hP hS (lv_sub hl [0, 1, 2] rfl) hm
            · have hm := (if_pos c11).symm.trans hm
              refine lv_aload_n hx hb dX3_markReferences_36 rfl (lv_at hl 0 rfl) ?_
              refine lv_aload_n hx hb dX3_markReferences_37 rfl (lv_at hl 0 rfl) ?_
              refine gfX3_references hx hb h_X3 hown hK hP l_f25 dX3_markReferences_38 ?_
              refine lv_iload_n hx hb dX3_markReferences_41 rfl (lv_at hl 2 rfl) ?_
              obtain ⟨hi, hm⟩ := ok_I hm
              refine ldC_28 hx hb hK hP hi dX3_markReferences_42 ?_
              obtain ⟨s22, h21, hm⟩ := ok_bind hm
              refine calV_v (As := [.int (s7.1 31 v6.toNatClampNeg)]) (rest := []) ⟨hx, hb, hml, hown, hts⟩ (kX3_mark l D y a t hI _ s7 s22 (s7.1 31 v6.toNatClampNeg) h21) (cwV 1 hts (gAV aM_X3_144 aI_X3_mark aS_X3_mark aN_X3 aC_X3_mark) rfl rfl rfl eX3_mark ⟨Nat.le_of_ble_eq_true rfl, Nat.le_of_ble_eq_true rfl⟩) (preV_W (ci := 3) (q := (RX3, TX3, 12)) hK hP hF hS rfl (wC_5 y a s7)) rfl hl.1 rfl (Nat.le_of_ble_eq_true rfl) dX3_markReferences_43 ⟨Nat.zero_le _, Nat.zero_le _⟩ hS (AC_le hS.1) (fun H locs hP hS hk1 => ?_)
              refine lv_goto (tgt := 93) hx hb dX3_markReferences_46 (by decide) ?_
              exact L_93 s22 v5 v6 _ _ _ hP hS (lv_sub hl [0, 1, 2] rfl) hm
  unfold mX3_markReferences at hm
  refine lv_iconst (v := 3) hx hb dX3_markReferences_0 (by decide) ?_
  refine lv_iload_n hx hb dX3_markReferences_1 rfl (lv_at hl 1 rfl) ?_
  refine lv_imul hx hb dX3_markReferences_2 ?_
  refine lv_topi (fun x23 ex23 => ?_)
  have hm := bnd_x ex23 hm
  refine lv_istore_n (lv' := [(2, .int x23), (0, .ref (a 5)), (1, .int p1)]) hx hb dX3_markReferences_3 rfl hl (by decide) rfl (fun ls hl => ?_)
  exact L_4 NF σ p1 x23 _ _ _ hP hS (lv_sub hl [1, 2, 0] rfl) hm
theorem eX3_neededCount : yX3_neededCount.cls = RX3 ∧ yX3_neededCount.cls ≠ "java/lang/invoke/MethodHandle" ∧ yX3_neededCount.cls ≠ "java/lang/invoke/VarHandle" ∧ (parseMethodDescriptor yX3_neededCount.desc).map (fun d => d.parameters.length) = some 0 := by decide +kernel
def mX3_neededCount_68 (kh47 : St → Int32 → Int32 → Option (Int32 × St)) (s3 : St) (v1 : Int32) (v2 : Int32) : Option (Int32 × St) :=
bnd (v2 + (-1)) fun x4 =>
kh47 s3 v1 x4
def bX3_neededCount_47 (kh47 : St → Int32 → Int32 → Option (Int32 × St)) (s7 : St) (v5 : Int32) (v6 : Int32) : Option (Int32 × St) :=
if v6 < 0 then (
some (v5, s7))
else (
chkI v6 60 (
if (s7.1 34 v6.toNatClampNeg) = 0 then (
mX3_neededCount_68 kh47 s7 v5 v6)
else (
bnd (v5 + 1) fun x10 =>
(mX3_markReferences s7 v6).bind fun s12 =>
mX3_neededCount_68 kh47 s12 x10 v6)))
abbrev mX3_neededCount_47 (n : Nat) : St → Int32 → Int32 → Option (Int32 × St) := fx (fun _ _ _ => none) (bX3_neededCount_47) n
def mX3_neededCount_43 (s15 : St) (v13 : Int32) (v14 : Int32) : Option (Int32 × St) :=
bnd (v14 - 1) fun x16 =>
mX3_neededCount_47 NF s15 v13 x16
def mX3_neededCount_36 (kh14 : St → Int32 → Int32 → Int32 → Option (Int32 × St)) (s22 : St) (v17 : Int32) (v18 : Int32) (v19 : Int32) (v20 : Int32) (v21 : Int32) : Option (Int32 × St) :=
chkI v21 60 (
bnd (su s22 34 (upd (s22.1 34) v21.toNatClampNeg (vp_nar .boolean v20))) fun s23 =>
bnd (v19 + 1) fun x24 =>
kh14 s23 v17 v18 x24)
def bX3_neededCount_14 (kh14 : St → Int32 → Int32 → Int32 → Option (Int32 × St)) (s28 : St) (v25 : Int32) (v26 : Int32) (v27 : Int32) : Option (Int32 × St) :=
if v26 ≤ v27 then (
mX3_neededCount_43 s28 v25 v26)
else (
if v27 = (v26 - 1) then (
mX3_neededCount_36 kh14 s28 v25 v26 v27 1 v27)
else (
mX3_neededCount_36 kh14 s28 v25 v26 v27 0 v27))
abbrev mX3_neededCount_14 (n : Nat) : St → Int32 → Int32 → Int32 → Option (Int32 × St) := fx (fun _ _ _ _ => none) (bX3_neededCount_14) n
def mX3_neededCount (σ : St) : Option (Int32 × St) :=
bnd (if (σ.1 8 0) < (60 : Int32) then σ.1 8 0 else 60) fun x31 =>
mX3_neededCount_14 NF σ 0 x31 0
set_option maxHeartbeats 4000000 in
set_option maxRecDepth 100000 in
theorem kX3_neededCount (l : Launch) (D : va_G) (y : Nat → ClassId) (a t : Nat → Nat) (hI : AI a 37) (sz : Nat) (σ τ : St) (r : Int32) (hm : mX3_neededCount σ = some (r, τ)) : Met l yX3_neededCount zX3_neededCount { frames := 2, cells := 0, slots := 0, locals := 43 } (va_Pc [.ref (a 5)] (preW (wC y a) a 37 D y t σ sz)) (va_Qi (fun r' u => r' = r ∧ u = τ) (posW (wC y a) D) (AC a 37 sz)) 0 0 (AC a 37 sz) := by
  refine Met.ofW (cc := cX3_neededCount) (maxL := 4) (ret := (some .int)) (by decide) rfl ?_
  intro p e s m args below meth c s₁ B hml hv
  obtain ⟨rfl, hsz, hP, hK, hF⟩ := hv
  have hx := B.exec
  have hb := B.bytes
  have hr := B.returns
  have hts := atoms_spec (ws := zX3_neededCount) B.pre
  have hown : s.vm.findClass RX3 = some m.cls := findClass_of_methodNamed B.named
  have hlocks := B.notSynchronized
  subst hsz
  have l_f49 := hts _ (List.mem_cons_of_mem _ aF_X3_49)
  have l_ml112 := hts _ (List.mem_cons_of_mem _ aM_X3_112)
  have l_msmin := hts _ (List.mem_cons_of_mem _ aT_J9_min_7cf53)
  have l_mi := hts _ (List.mem_cons_of_mem _ aN_J9)
  have l_mcmin := hts _ (List.mem_cons_of_mem _ aC_J9_min_7cf53)
  have l_f34 := hts _ (List.mem_cons_of_mem _ aF_X3_34)
  have h_X3 : ∀ w ∈ wsX30, w.before _ s = true := fun w hw => hts w (List.mem_cons_of_mem _ (hwX3 w hw))
  have hS : va_S (AC a 37 s.heap.size) s.heap s.heap [] := va_S.rf
  have hl := lv_entry ([.ref (a 5)]) (n := 4) (Nat.le_of_ble_eq_true rfl)
  rw [lg_entry_eq]
  generalize (lg_sl ([.ref (a 5)]) ++ List.replicate (4 - (lg_sl ([.ref (a 5)])).length) Slot.unset).toArray = ls at hl ⊢
  have hl : lv_has ls 4 [(0, .ref (a 5))] := hl
  have L_47 : ∀ (n : Nat) (s7 : St) (v5 : Int32) (v6 : Int32) (H : Heap) (locs : List Loc) (ls : Array Slot), va_P D vwCl (wC y a s7) H → va_S (AC a 37 s.heap.size) s.heap H locs → lv_has ls 4 [(0, .ref (a 5)), (1, .int v5), (3, .int v6)] → mX3_neededCount_47 n s7 v5 v6 = some (r, τ) → W p l e (headSpec zX3_neededCount ({ frames := 2, cells := 0, slots := 0, locals := 43 })).room s m ([.ref (a 5)] : List Value).toArray below meth c H locs 0 0 (MQ below (va_Qi (fun r' u => r' = r ∧ u = τ) (posW (wC y a) D) (AC a 37 s.heap.size)) ([.ref (a 5)] : List Value).toArray s 0 0 (AC a 37 s.heap.size)) (F0 m 47 ls []) := by
    intro n
    induction n with
    | zero =>
      intro s7 v5 v6 H locs ls hP hS hl hm
      exact absurd (show (none : Option (Int32 × St)) = some (r, τ) from hm) (by intro h; cases h)
    | succ n ih47 =>
      obtain ⟨kh47, ekh47⟩ : ∃ z, z = mX3_neededCount_47 n := ⟨_, rfl⟩
      have ih47 : ∀ (s7 : St) (v5 : Int32) (v6 : Int32) (H : Heap) (locs : List Loc) (ls : Array Slot), va_P D vwCl (wC y a s7) H → va_S (AC a 37 s.heap.size) s.heap H locs → lv_has ls 4 [(0, .ref (a 5)), (1, .int v5), (3, .int v6)] → kh47 s7 v5 v6 = some (r, τ) → W p l e (headSpec zX3_neededCount ({ frames := 2, cells := 0, slots := 0, locals := 43 })).room s m ([.ref (a 5)] : List Value).toArray below meth c H locs 0 0 (MQ below (va_Qi (fun r' u => r' = r ∧ u = τ) (posW (wC y a) D) (AC a 37 s.heap.size)) ([.ref (a 5)] : List Value).toArray s 0 0 (AC a 37 s.heap.size)) (F0 m 47 ls []) := by rw [ekh47]; exact ih47
      have L_68 : ∀ (s3 : St) (v1 : Int32) (v2 : Int32) (H : Heap) (locs : List Loc) (ls : Array Slot), va_P D vwCl (wC y a s3) H → va_S (AC a 37 s.heap.size) s.heap H locs → lv_has ls 4 [(0, .ref (a 5)), (1, .int v1), (3, .int v2)] → mX3_neededCount_68 kh47 s3 v1 v2 = some (r, τ) → W p l e (headSpec zX3_neededCount ({ frames := 2, cells := 0, slots := 0, locals := 43 })).room s m ([.ref (a 5)] : List Value).toArray below meth c H locs 0 0 (MQ below (va_Qi (fun r' u => r' = r ∧ u = τ) (posW (wC y a) D) (AC a 37 s.heap.size)) ([.ref (a 5)] : List Value).toArray s 0 0 (AC a 37 s.heap.size)) (F0 m 68 ls []) := by
        intro s3 v1 v2 H locs ls hP hS hl hm
        unfold mX3_neededCount_68 at hm
        obtain ⟨x4, ex4⟩ : ∃ z : Int32, z = v2 + (-1) := ⟨_, rfl⟩
        have hm := bnd_x ex4 hm
        refine lv_iinc (v := x4) (lv' := [(3, .int x4), (0, .ref (a 5)), (1, .int v1)]) hx hb dX3_neededCount_68 hl (k := 2) rfl (by rw [ex4]; rfl) (by decide) rfl (fun ls hl => ?_)
        refine lv_goto (tgt := 47) hx hb dX3_neededCount_71 (by decide) ?_
        exact ih47 s3 v1 x4 _ _ _ hP hS (lv_sub hl [1, 2, 0] rfl) hm
      intro s7 v5 v6 H locs ls hP hS hl hm
      have hm : bX3_neededCount_47 (mX3_neededCount_47 n) s7 v5 v6 = some (r, τ) := hm
      rw [← ekh47] at hm
      unfold bX3_neededCount_47 at hm
      refine lv_iload_n hx hb dX3_neededCount_47 rfl (lv_at hl 2 rfl) ?_
      refine lv_if_lt (tgt := 74) hx hb dX3_neededCount_48 (by decide) (fun c8 => ?_) (fun c8 => ?_)
      · have hm := (if_pos c8).symm.trans hm
        refine lv_iload_n hx hb dX3_neededCount_74 rfl (lv_at hl 1 rfl) ?_
        exact W.iret (v := v5) hx hb hr (fun T hT hW => ⟨⟨v5, s7, rfl, ⟨congrArg Prod.fst (Option.some.inj hm), congrArg Prod.snd (Option.some.inj hm)⟩, by rw [posW, hT]; exact hP⟩, hS.F hT⟩) hS.2.2 dX3_neededCount_75
      · have hm := (if_neg c8).symm.trans hm
        refine lv_aload_n hx hb dX3_neededCount_51 rfl (lv_at hl 0 rfl) ?_
        refine gfX3_needed hx hb h_X3 hown hK hP l_f34 dX3_neededCount_52 ?_
        refine lv_iload_n hx hb dX3_neededCount_55 rfl (lv_at hl 2 rfl) ?_
        obtain ⟨hi, hm⟩ := ok_I hm
        refine ldC_31 hx hb hK hP hi dX3_neededCount_56 ?_
        refine lv_if_eq (tgt := 68) hx hb dX3_neededCount_57 (by decide) (fun c9 => ?_) (fun c9 => ?_)
        · have hm := (if_pos c9).symm.trans hm
          exact L_68 s7 v5 v6 _ _ _ hP hS (lv_sub hl [0, 1, 2] rfl) hm
        · have hm := (if_neg c9).symm.trans hm
          obtain ⟨x10, ex10⟩ : ∃ z : Int32, z = v5 + 1 := ⟨_, rfl⟩
          have hm := bnd_x ex10 hm
          refine lv_iinc (v := x10) (lv' := [(1, .int x10), (0, .ref (a 5)), (3, .int v6)]) hx hb dX3_neededCount_60 hl (k := 1) rfl (by rw [ex10]; rfl) (by decide) rfl (fun ls hl => ?_)
          refine lv_aload_n hx hb dX3_neededCount_63 rfl (lv_at hl 1 rfl) ?_
          refine lv_iload_n hx hb dX3_neededCount_64 rfl (lv_at hl 2 rfl) ?_
          obtain ⟨s12, h11, hm⟩ := ok_bind hm
          refine calV_v (As := [.int v6]) (rest := []) ⟨hx, hb, hml, hown, hts⟩ (kX3_markReferences l D y a t hI _ s7 s12 v6 h11) (cwV 1 hts (gAV aM_X3_141 aI_X3_markReferences aS_X3_markReferences aN_X3 aC_X3_markReferences) rfl rfl rfl eX3_markReferences ⟨Nat.le_of_ble_eq_true rfl, Nat.le_of_ble_eq_true rfl⟩) (preV_W (ci := 3) (q := (RX3, TX3, 12)) hK hP hF hS rfl (wC_5 y a s7)) rfl hl.1 rfl (Nat.le_of_ble_eq_true rfl) dX3_neededCount_65 ⟨Nat.zero_le _, Nat.zero_le _⟩ hS (AC_le hS.1) (fun H locs hP hS hk1 => ?_)
          exact L_68 s12 x10 v6 _ _ _ hP hS (lv_sub hl [1, 0, 2] rfl) hm
  have L_43 : ∀ (s15 : St) (v13 : Int32) (v14 : Int32) (H : Heap) (locs : List Loc) (ls : Array Slot), va_P D vwCl (wC y a s15) H → va_S (AC a 37 s.heap.size) s.heap H locs → lv_has ls 4 [(0, .ref (a 5)), (1, .int v13), (2, .int v14)] → mX3_neededCount_43 s15 v13 v14 = some (r, τ) → W p l e (headSpec zX3_neededCount ({ frames := 2, cells := 0, slots := 0, locals := 43 })).room s m ([.ref (a 5)] : List Value).toArray below meth c H locs 0 0 (MQ below (va_Qi (fun r' u => r' = r ∧ u = τ) (posW (wC y a) D) (AC a 37 s.heap.size)) ([.ref (a 5)] : List Value).toArray s 0 0 (AC a 37 s.heap.size)) (F0 m 43 ls []) := by
    intro s15 v13 v14 H locs ls hP hS hl hm
    unfold mX3_neededCount_43 at hm
    refine lv_iload_n hx hb dX3_neededCount_43 rfl (lv_at hl 2 rfl) ?_
    refine lv_iconst (v := 1) hx hb dX3_neededCount_44 (by decide) ?_
    refine lv_isub hx hb dX3_neededCount_45 ?_
    refine lv_topi (fun x16 ex16 => ?_)
    have hm := bnd_x ex16 hm
    refine lv_istore_n (lv' := [(3, .int x16), (0, .ref (a 5)), (1, .int v13), (2, .int v14)]) hx hb dX3_neededCount_46 rfl hl (by decide) rfl (fun ls hl => ?_)
    exact L_47 NF s15 v13 x16 _ _ _ hP hS (lv_sub hl [1, 2, 0] rfl) hm
  have L_14 : ∀ (n : Nat) (s28 : St) (v25 : Int32) (v26 : Int32) (v27 : Int32) (H : Heap) (locs : List Loc) (ls : Array Slot), va_P D vwCl (wC y a s28) H → va_S (AC a 37 s.heap.size) s.heap H locs → lv_has ls 4 [(0, .ref (a 5)), (1, .int v25), (2, .int v26), (3, .int v27)] → mX3_neededCount_14 n s28 v25 v26 v27 = some (r, τ) → W p l e (headSpec zX3_neededCount ({ frames := 2, cells := 0, slots := 0, locals := 43 })).room s m ([.ref (a 5)] : List Value).toArray below meth c H locs 0 0 (MQ below (va_Qi (fun r' u => r' = r ∧ u = τ) (posW (wC y a) D) (AC a 37 s.heap.size)) ([.ref (a 5)] : List Value).toArray s 0 0 (AC a 37 s.heap.size)) (F0 m 14 ls []) := by
    intro n
    induction n with
    | zero =>
      intro s28 v25 v26 v27 H locs ls hP hS hl hm
      exact absurd (show (none : Option (Int32 × St)) = some (r, τ) from hm) (by intro h; cases h)
    | succ n ih14 =>
      obtain ⟨kh14, ekh14⟩ : ∃ z, z = mX3_neededCount_14 n := ⟨_, rfl⟩
      have ih14 : ∀ (s28 : St) (v25 : Int32) (v26 : Int32) (v27 : Int32) (H : Heap) (locs : List Loc) (ls : Array Slot), va_P D vwCl (wC y a s28) H → va_S (AC a 37 s.heap.size) s.heap H locs → lv_has ls 4 [(0, .ref (a 5)), (1, .int v25), (2, .int v26), (3, .int v27)] → kh14 s28 v25 v26 v27 = some (r, τ) → W p l e (headSpec zX3_neededCount ({ frames := 2, cells := 0, slots := 0, locals := 43 })).room s m ([.ref (a 5)] : List Value).toArray below meth c H locs 0 0 (MQ below (va_Qi (fun r' u => r' = r ∧ u = τ) (posW (wC y a) D) (AC a 37 s.heap.size)) ([.ref (a 5)] : List Value).toArray s 0 0 (AC a 37 s.heap.size)) (F0 m 14 ls []) := by rw [ekh14]; exact ih14
      have L_36 : ∀ (s22 : St) (v17 : Int32) (v18 : Int32) (v19 : Int32) (v20 : Int32) (v21 : Int32) (H : Heap) (locs : List Loc) (ls : Array Slot), va_P D vwCl (wC y a s22) H → va_S (AC a 37 s.heap.size) s.heap H locs → lv_has ls 4 [(0, .ref (a 5)), (1, .int v17), (2, .int v18), (3, .int v19)] → mX3_neededCount_36 kh14 s22 v17 v18 v19 v20 v21 = some (r, τ) → W p l e (headSpec zX3_neededCount ({ frames := 2, cells := 0, slots := 0, locals := 43 })).room s m ([.ref (a 5)] : List Value).toArray below meth c H locs 0 0 (MQ below (va_Qi (fun r' u => r' = r ∧ u = τ) (posW (wC y a) D) (AC a 37 s.heap.size)) ([.ref (a 5)] : List Value).toArray s 0 0 (AC a 37 s.heap.size)) (F0 m 36 ls [.int v20, .int v21, .ref (a 31)]) := by
        intro s22 v17 v18 v19 v20 v21 H locs ls hP hS hl hm
        unfold mX3_neededCount_36 at hm
        obtain ⟨hi, hm⟩ := ok_I hm
        refine stC_31 hx hb hK hP hI AC_in hS hi dX3_neededCount_36 (fun H locs hP hS => ?_)
        generalize es23 : su s22 34 (upd (s22.1 34) v21.toNatClampNeg (vp_nar .boolean v20)) = s23 at hP
        have hm := bnd_x es23.symm hm
        obtain ⟨x24, ex24⟩ : ∃ z : Int32, z = v19 + 1 := ⟨_, rfl⟩
        have hm := bnd_x ex24 hm
        refine lv_iinc (v := x24) (lv' := [(3, .int x24), (0, .ref (a 5)), (1, .int v17), (2, .int v18)]) hx hb dX3_neededCount_37 hl (k := 3) rfl (by rw [ex24]; rfl) (by decide) rfl (fun ls hl => ?_)
        refine lv_goto (tgt := 14) hx hb dX3_neededCount_40 (by decide) ?_
        exact ih14 s23 v17 v18 x24 _ _ _ hP hS (lv_sub hl [1, 2, 3, 0] rfl) hm
      intro s28 v25 v26 v27 H locs ls hP hS hl hm
      have hm : bX3_neededCount_14 (mX3_neededCount_14 n) s28 v25 v26 v27 = some (r, τ) := hm
      rw [← ekh14] at hm
      unfold bX3_neededCount_14 at hm
      refine lv_iload_n hx hb dX3_neededCount_14 rfl (lv_at hl 3 rfl) ?_
      refine lv_iload_n hx hb dX3_neededCount_15 rfl (lv_at hl 2 rfl) ?_
      refine lv_icmp_ge (tgt := 43) hx hb dX3_neededCount_16 (by decide) (fun c29 => ?_) (fun c29 => ?_)
      · have hm := (if_pos c29).symm.trans hm
        exact L_43 s28 v25 v26 _ _ _ hP hS (lv_sub hl [0, 1, 2] rfl) hm
      · have hm := (if_neg c29).symm.trans hm
        refine lv_aload_n hx hb dX3_neededCount_19 rfl (lv_at hl 0 rfl) ?_
        refine gfX3_needed hx hb h_X3 hown hK hP l_f34 dX3_neededCount_20 ?_
        refine lv_iload_n hx hb dX3_neededCount_23 rfl (lv_at hl 3 rfl) ?_
        refine lv_iload_n hx hb dX3_neededCount_24 rfl (lv_at hl 3 rfl) ?_
        refine lv_iload_n hx hb dX3_neededCount_25 rfl (lv_at hl 2 rfl) ?_
        refine lv_iconst (v := 1) hx hb dX3_neededCount_26 (by decide) ?_
        refine lv_isub hx hb dX3_neededCount_27 ?_
        refine lv_icmp_ne (tgt := 35) hx hb dX3_neededCount_28 (by decide) (fun c30 => ?_) (fun c30 => ?_)
        · have hm := (if_neg c30).symm.trans hm
          refine lv_iconst (v := 0) hx hb dX3_neededCount_35 (by decide) ?_
          exact L_36 s28 v25 v26 v27 0 v27 _ _ _ hP hS (lv_sub hl [0, 1, 2, 3] rfl) hm
        · have hm := (if_pos c30).symm.trans hm
          refine lv_iconst (v := 1) hx hb dX3_neededCount_31 (by decide) ?_
          refine lv_goto (tgt := 36) hx hb dX3_neededCount_32 (by decide) ?_
          exact L_36 s28 v25 v26 v27 1 v27 _ _ _ hP hS (lv_sub hl [0, 1, 2, 3] rfl) hm
  unfold mX3_neededCount at hm
  refine lv_iconst (v := 0) hx hb dX3_neededCount_0 (by decide) ?_
  refine lv_istore_n (lv' := [(1, .int 0), (0, .ref (a 5))]) hx hb dX3_neededCount_1 rfl hl (by decide) rfl (fun ls hl => ?_)
  refine lv_bipush (v := 60) hx hb dX3_neededCount_2 (by decide) ?_
  refine lv_aload_n hx hb dX3_neededCount_4 rfl (lv_at hl 1 rfl) ?_
  refine gfX3_lineCount hx hb h_X3 hown hK hP l_f49 dX3_neededCount_5 ?_
  refine va_mmin hx hb (hml.trans hl.1.symm) hown l_ml112 l_msmin l_mi l_mcmin (Nat.le_of_ble_eq_true rfl) (Nat.le_of_ble_eq_true rfl) (Nat.zero_le _) (Nat.zero_le _) dX3_neededCount_8 ?_
  refine lv_topi (fun x31 ex31 => ?_)
  have hm := bnd_x ex31 hm
  refine lv_istore_n (lv' := [(2, .int x31), (1, .int 0), (0, .ref (a 5))]) hx hb dX3_neededCount_11 rfl hl (by decide) rfl (fun ls hl => ?_)
  refine lv_iconst (v := 0) hx hb dX3_neededCount_12 (by decide) ?_
  refine lv_istore_n (lv' := [(3, .int 0), (2, .int x31), (1, .int 0), (0, .ref (a 5))]) hx hb dX3_neededCount_13 rfl hl (by decide) rfl (fun ls hl => ?_)
  exact L_14 NF σ 0 x31 0 _ _ _ hP hS (lv_sub hl [3, 2, 1, 0] rfl) hm
theorem eX3_isNeeded : yX3_isNeeded.cls = RX3 ∧ yX3_isNeeded.cls ≠ "java/lang/invoke/MethodHandle" ∧ yX3_isNeeded.cls ≠ "java/lang/invoke/VarHandle" ∧ (parseMethodDescriptor yX3_isNeeded.desc).map (fun d => d.parameters.length) = some 1 := by decide +kernel
def mX3_isNeeded (σ : St) (p1 : Int32) : Option (Int32 × St) :=
(mX3_neededCount σ).bind fun ⟨r1, s3⟩ =>
if r1 ≤ 0 then (
some (0, s3))
else (
if p1 < 0 then (
some (0, s3))
else (
if (s3.1 8 0) ≤ p1 then (
some (0, s3))
else (
chkI p1 60 (
if (s3.1 34 p1.toNatClampNeg) = 0 then (
some (0, s3))
else (
some (1, s3))))))
set_option maxHeartbeats 4000000 in
set_option maxRecDepth 100000 in
theorem kX3_isNeeded (l : Launch) (D : va_G) (y : Nat → ClassId) (a t : Nat → Nat) (hI : AI a 37) (sz : Nat) (σ τ : St) (p1 : Int32) (r : Int32) (hm : mX3_isNeeded σ p1 = some (r, τ)) : Met l yX3_isNeeded zX3_isNeeded { frames := 3, cells := 0, slots := 0, locals := 66 } (va_Pc [.ref (a 5), .int p1] (preW (wC y a) a 37 D y t σ sz)) (va_Qi (fun r' u => r' = r ∧ u = τ) (posW (wC y a) D) (AC a 37 sz)) 0 0 (AC a 37 sz) := by
  refine Met.ofW (cc := cX3_isNeeded) (maxL := 2) (ret := (some .boolean)) (by decide) rfl ?_
  intro p e s m args below meth c s₁ B hml hv
  obtain ⟨rfl, hsz, hP, hK, hF⟩ := hv
  have hx := B.exec
  have hb := B.bytes
  have hr := B.returns
  have hts := atoms_spec (ws := zX3_isNeeded) B.pre
  have hown : s.vm.findClass RX3 = some m.cls := findClass_of_methodNamed B.named
  have hlocks := B.notSynchronized
  subst hsz
  have l_f49 := hts _ (List.mem_cons_of_mem _ aF_X3_49)
  have l_f34 := hts _ (List.mem_cons_of_mem _ aF_X3_34)
  have h_X3 : ∀ w ∈ wsX30, w.before _ s = true := fun w hw => hts w (List.mem_cons_of_mem _ (hwX3 w hw))
  have hS : va_S (AC a 37 s.heap.size) s.heap s.heap [] := va_S.rf
  have hl := lv_entry ([.ref (a 5), .int p1]) (n := 2) (Nat.le_of_ble_eq_true rfl)
  rw [lg_entry_eq]
  generalize (lg_sl ([.ref (a 5), .int p1]) ++ List.replicate (2 - (lg_sl ([.ref (a 5), .int p1])).length) Slot.unset).toArray = ls at hl ⊢
  have hl : lv_has ls 2 [(0, .ref (a 5)), (1, .int p1)] := hl
  unfold mX3_isNeeded at hm
  refine lv_aload_n hx hb dX3_isNeeded_0 rfl (lv_at hl 0 rfl) ?_
  obtain ⟨⟨r1, s3⟩, h2, hm⟩ := ok_bind hm
  refine calV_i (As := []) (rest := []) ⟨hx, hb, hml, hown, hts⟩ (kX3_neededCount l D y a t hI _ σ s3 r1 h2) (cwV 0 hts (gAV aM_X3_138 aI_X3_neededCount aS_X3_neededCount aN_X3 aC_X3_neededCount) rfl rfl rfl eX3_neededCount ⟨Nat.le_of_ble_eq_true rfl, Nat.le_of_ble_eq_true rfl⟩) (preV_W (ci := 3) (q := (RX3, TX3, 12)) hK hP hF hS rfl (wC_5 y a σ)) rfl hl.1 rfl (Nat.le_of_ble_eq_true rfl) dX3_isNeeded_1 ⟨Nat.zero_le _, Nat.zero_le _⟩ hS (AC_le hS.1) (fun H locs hP hS hk1 => ?_)
  refine lv_if_le (tgt := 32) hx hb dX3_isNeeded_4 (by decide) (fun c4 => ?_) (fun c4 => ?_)
  · have hm := (if_pos c4).symm.trans hm
    refine lv_iconst (v := 0) hx hb dX3_isNeeded_32 (by decide) ?_
    exact W.zret (v := 0) hx hb hr rfl (fun T hT hW => ⟨⟨0, s3, rfl, ⟨congrArg Prod.fst (Option.some.inj hm), congrArg Prod.snd (Option.some.inj hm)⟩, by rw [posW, hT]; exact hP⟩, hS.F hT⟩) hS.2.2 dX3_isNeeded_33
  · have hm := (if_neg c4).symm.trans hm
    refine lv_iload_n hx hb dX3_isNeeded_7 rfl (lv_at hl 1 rfl) ?_
    refine lv_if_lt (tgt := 32) hx hb dX3_isNeeded_8 (by decide) (fun c5 => ?_) (fun c5 => ?_)
    · have hm := (if_pos c5).symm.trans hm
      refine lv_iconst (v := 0) hx hb dX3_isNeeded_32 (by decide) ?_
      exact W.zret (v := 0) hx hb hr rfl (fun T hT hW => ⟨⟨0, s3, rfl, ⟨congrArg Prod.fst (Option.some.inj hm), congrArg Prod.snd (Option.some.inj hm)⟩, by rw [posW, hT]; exact hP⟩, hS.F hT⟩) hS.2.2 dX3_isNeeded_33
    · have hm := (if_neg c5).symm.trans hm
      refine lv_iload_n hx hb dX3_isNeeded_11 rfl (lv_at hl 1 rfl) ?_
      refine lv_aload_n hx hb dX3_isNeeded_12 rfl (lv_at hl 0 rfl) ?_
      refine gfX3_lineCount hx hb h_X3 hown hK hP l_f49 dX3_isNeeded_13 ?_
      refine lv_icmp_ge (tgt := 32) hx hb dX3_isNeeded_16 (by decide) (fun c6 => ?_) (fun c6 => ?_)
      · have hm := (if_pos c6).symm.trans hm
        refine lv_iconst (v := 0) hx hb dX3_isNeeded_32 (by decide) ?_
        exact W.zret (v := 0) hx hb hr rfl (fun T hT hW => ⟨⟨0, s3, rfl, ⟨congrArg Prod.fst (Option.some.inj hm), congrArg Prod.snd (Option.some.inj hm)⟩, by rw [posW, hT]; exact hP⟩, hS.F hT⟩) hS.2.2 dX3_isNeeded_33
      · have hm := (if_neg c6).symm.trans hm
        refine lv_aload_n hx hb dX3_isNeeded_19 rfl (lv_at hl 0 rfl) ?_
        refine gfX3_needed hx hb h_X3 hown hK hP l_f34 dX3_isNeeded_20 ?_
        refine lv_iload_n hx hb dX3_isNeeded_23 rfl (lv_at hl 1 rfl) ?_
        obtain ⟨hi, hm⟩ := ok_I hm
        refine ldC_31 hx hb hK hP hi dX3_isNeeded_24 ?_
        refine lv_if_eq (tgt := 32) hx hb dX3_isNeeded_25 (by decide) (fun c7 => ?_) (fun c7 => ?_)
        · have hm := (if_pos c7).symm.trans hm
          refine lv_iconst (v := 0) hx hb dX3_isNeeded_32 (by decide) ?_
          exact W.zret (v := 0) hx hb hr rfl (fun T hT hW => ⟨⟨0, s3, rfl, ⟨congrArg Prod.fst (Option.some.inj hm), congrArg Prod.snd (Option.some.inj hm)⟩, by rw [posW, hT]; exact hP⟩, hS.F hT⟩) hS.2.2 dX3_isNeeded_33
        · have hm := (if_neg c7).symm.trans hm
          refine lv_iconst (v := 1) hx hb dX3_isNeeded_28 (by decide) ?_
          refine lv_goto (tgt := 33) hx hb dX3_isNeeded_29 (by decide) ?_
          exact W.zret (v := 1) hx hb hr rfl (fun T hT hW => ⟨⟨1, s3, rfl, ⟨congrArg Prod.fst (Option.some.inj hm), congrArg Prod.snd (Option.some.inj hm)⟩, by rw [posW, hT]; exact hP⟩, hS.F hT⟩) hS.2.2 dX3_isNeeded_33
theorem eX3_failuresIn : yX3_failuresIn.cls = RX3 ∧ yX3_failuresIn.cls ≠ "java/lang/invoke/MethodHandle" ∧ yX3_failuresIn.cls ≠ "java/lang/invoke/VarHandle" ∧ (parseMethodDescriptor yX3_failuresIn.desc).map (fun d => d.parameters.length) = some 2 := by decide +kernel
def bX3_failuresIn_67 (kh67 : St → Int32 → Int64 → Int32 → Int32 → Option Int64) (σ : St) (v1 : Int32) (v2 : Int64) (v3 : Int32) (v4 : Int32) : Option Int64 :=
if 6 ≤ v4 then (
some v2)
else (
if v3 < 0 then (
some v2)
else (
(mX3_beginOf σ v3).bind fun r7 =>
(mX1_truth σ r7 v1).bind fun r9 =>
bnd (v2 &&& r9) fun x11 =>
(mX0_outer σ v3).bind fun r12 =>
bnd (v4 + 1) fun x14 =>
kh67 σ v1 x11 r12 x14))
abbrev mX3_failuresIn_67 (n : Nat) : St → Int32 → Int64 → Int32 → Int32 → Option Int64 := fx (fun _ _ _ _ _ => none) (bX3_failuresIn_67) n
def mX3_failuresIn_57 (σ : St) (v15 : Int32) (v16 : Int32) (v17 : Int64) : Option Int64 :=
(mX3_boxOf σ v15).bind fun r18 =>
mX3_failuresIn_67 NF σ v16 v17 r18 0
def bX3_failuresIn_27 (kh27 : St → Int32 → Int32 → Int64 → Int32 → Int32 → Option Int64) (σ : St) (v20 : Int32) (v21 : Int32) (v22 : Int64) (v23 : Int32) (v24 : Int32) : Option Int64 :=
if v23 ≤ v24 then (
mX3_failuresIn_57 σ v20 v21 v22)
else (
(mX3_formulaOf σ v24).bind fun r26 =>
(mX1_truth σ r26 v21).bind fun r28 =>
bnd (v22 &&& r28) fun x30 =>
bnd (v24 + 1) fun x31 =>
kh27 σ v20 v21 x30 v23 x31)
abbrev mX3_failuresIn_27 (n : Nat) : St → Int32 → Int32 → Int64 → Int32 → Int32 → Option Int64 := fx (fun _ _ _ _ _ _ => none) (bX3_failuresIn_27) n
def mX3_failuresIn (σ : St) (p1 : Int32) (p2 : Int32) : Option Int64 :=
(mX3_formulaOf σ p1).bind fun r32 =>
(mX1_truth σ r32 p2).bind fun r34 =>
bnd (r34 ^^^ (-1)) fun x36 =>
(mX3_premiseCount σ).bind fun r37 =>
mX3_failuresIn_27 NF σ p1 p2 x36 r37 0
set_option maxHeartbeats 4000000 in
set_option maxRecDepth 100000 in
theorem kX3_failuresIn (l : Launch) (D : va_G) (y : Nat → ClassId) (a t : Nat → Nat) (hI : AI a 37) (sz : Nat) (σ : St) (p1 : Int32) (p2 : Int32) (r : Int64) (hm : mX3_failuresIn σ p1 p2 = some r) : Met l yX3_failuresIn zX3_failuresIn { frames := 2, cells := 0, slots := 0, locals := 42 } (va_Pc [.ref (a 5), .int p1, .int p2] (preW (wC y a) a 37 D y t σ sz)) (va_Ql (fun r' u => r' = r ∧ u = σ) (posW (wC y a) D) (AC a 37 sz)) 0 0 (AC a 37 sz) := by
  refine Met.ofW (cc := cX3_failuresIn) (maxL := 8) (ret := (some .long)) (by decide) rfl ?_
  intro p e s m args below meth c s₁ B hml hv
  obtain ⟨rfl, hsz, hP, hK, hF⟩ := hv
  have hx := B.exec
  have hb := B.bytes
  have hr := B.returns
  have hts := atoms_spec (ws := zX3_failuresIn) B.pre
  have hown : s.vm.findClass RX3 = some m.cls := findClass_of_methodNamed B.named
  have hlocks := B.notSynchronized
  subst hsz
  have l_f41 := hts _ (List.mem_cons_of_mem _ aF_X3_41)
  have l_c162 := hts _ (List.mem_cons_of_mem _ aK_X3_162)
  have l_f12 := hts _ (List.mem_cons_of_mem _ aF_X3_12)
  have h_X3 : ∀ w ∈ wsX30, w.before _ s = true := fun w hw => hts w (List.mem_cons_of_mem _ (hwX3 w hw))
  have hS : va_S (AC a 37 s.heap.size) s.heap s.heap [] := va_S.rf
  have hl := lv_entry ([.ref (a 5), .int p1, .int p2]) (n := 8) (Nat.le_of_ble_eq_true rfl)
  rw [lg_entry_eq]
  generalize (lg_sl ([.ref (a 5), .int p1, .int p2]) ++ List.replicate (8 - (lg_sl ([.ref (a 5), .int p1, .int p2])).length) Slot.unset).toArray = ls at hl ⊢
  have hl : lv_has ls 8 [(0, .ref (a 5)), (1, .int p1), (2, .int p2)] := hl
  have L_67 : ∀ (n : Nat) (v1 : Int32) (v2 : Int64) (v3 : Int32) (v4 : Int32) (H : Heap) (locs : List Loc) (ls : Array Slot), va_P D vwCl (wC y a σ) H → va_S (AC a 37 s.heap.size) s.heap H locs → lv_has ls 8 [(0, .ref (a 5)), (2, .int v1), (3, .long v2), (6, .int v3), (7, .int v4)] → mX3_failuresIn_67 n σ v1 v2 v3 v4 = some r → W p l e (headSpec zX3_failuresIn ({ frames := 2, cells := 0, slots := 0, locals := 42 })).room s m ([.ref (a 5), .int p1, .int p2] : List Value).toArray below meth c H locs 0 0 (MQ below (va_Ql (fun r' u => r' = r ∧ u = σ) (posW (wC y a) D) (AC a 37 s.heap.size)) ([.ref (a 5), .int p1, .int p2] : List Value).toArray s 0 0 (AC a 37 s.heap.size)) (F0 m 67 ls []) := by
    intro n
    induction n with
    | zero =>
      intro v1 v2 v3 v4 H locs ls hP hS hl hm
      exact absurd (show (none : Option Int64) = some r from hm) (by intro h; cases h)
    | succ n ih67 =>
      obtain ⟨kh67, ekh67⟩ : ∃ z, z = mX3_failuresIn_67 n := ⟨_, rfl⟩
      have ih67 : ∀ (v1 : Int32) (v2 : Int64) (v3 : Int32) (v4 : Int32) (H : Heap) (locs : List Loc) (ls : Array Slot), va_P D vwCl (wC y a σ) H → va_S (AC a 37 s.heap.size) s.heap H locs → lv_has ls 8 [(0, .ref (a 5)), (2, .int v1), (3, .long v2), (6, .int v3), (7, .int v4)] → kh67 σ v1 v2 v3 v4 = some r → W p l e (headSpec zX3_failuresIn ({ frames := 2, cells := 0, slots := 0, locals := 42 })).room s m ([.ref (a 5), .int p1, .int p2] : List Value).toArray below meth c H locs 0 0 (MQ below (va_Ql (fun r' u => r' = r ∧ u = σ) (posW (wC y a) D) (AC a 37 s.heap.size)) ([.ref (a 5), .int p1, .int p2] : List Value).toArray s 0 0 (AC a 37 s.heap.size)) (F0 m 67 ls []) := by rw [ekh67]; exact ih67
      intro v1 v2 v3 v4 H locs ls hP hS hl hm
      have hm : bX3_failuresIn_67 (mX3_failuresIn_67 n) σ v1 v2 v3 v4 = some r := hm
      rw [← ekh67] at hm
      unfold bX3_failuresIn_67 at hm
      refine lv_iload hx hb dX3_failuresIn_67 (lv_at hl 4 rfl) ?_
      refine lv_bipush (v := 6) hx hb dX3_failuresIn_69 (by decide) ?_
      refine lv_icmp_ge (tgt := 113) hx hb dX3_failuresIn_71 (by decide) (fun c5 => ?_) (fun c5 => ?_)
      · have hm := (if_pos c5).symm.trans hm
        refine lv_lload_n hx hb dX3_failuresIn_113 rfl (lv_at hl 2 rfl) ?_
        exact W.lret (v := v2) hx hb hr (fun T hT hW => ⟨⟨v2, σ, rfl, ⟨Option.some.inj hm, rfl⟩, by rw [posW, hT]; exact hP⟩, hS.F hT⟩) hS.2.2 dX3_failuresIn_114
      · have hm := (if_neg c5).symm.trans hm
        refine lv_iload hx hb dX3_failuresIn_74 (lv_at hl 3 rfl) ?_
        refine lv_if_lt (tgt := 113) hx hb dX3_failuresIn_76 (by decide) (fun c6 => ?_) (fun c6 => ?_)
        · have hm := (if_pos c6).symm.trans hm
          refine lv_lload_n hx hb dX3_failuresIn_113 rfl (lv_at hl 2 rfl) ?_
          exact W.lret (v := v2) hx hb hr (fun T hT hW => ⟨⟨v2, σ, rfl, ⟨Option.some.inj hm, rfl⟩, by rw [posW, hT]; exact hP⟩, hS.F hT⟩) hS.2.2 dX3_failuresIn_114
        · have hm := (if_neg c6).symm.trans hm
          refine lv_lload_n hx hb dX3_failuresIn_79 rfl (lv_at hl 2 rfl) ?_
          refine lv_aload_n hx hb dX3_failuresIn_80 rfl (lv_at hl 0 rfl) ?_
          refine gfX3_formulas hx hb h_X3 hown hK hP l_f41 dX3_failuresIn_81 ?_
          refine lv_aload_n hx hb dX3_failuresIn_84 rfl (lv_at hl 0 rfl) ?_
          refine lv_iload hx hb dX3_failuresIn_85 (lv_at hl 3 rfl) ?_
          obtain ⟨r7, h8, hm⟩ := ok_bind hm
          refine calV_i (As := [.int v3]) (rest := [.ref (a 1), .long v2]) ⟨hx, hb, hml, hown, hts⟩ (kX3_beginOf l D y a t hI _ σ v3 r7 h8) (cwV 1 hts (gAV aM_X3_170 aI_X3_beginOf aS_X3_beginOf aN_X3 aC_X3_beginOf) rfl rfl rfl eX3_beginOf ⟨Nat.le_of_ble_eq_true rfl, Nat.le_of_ble_eq_true rfl⟩) (preV_W (ci := 3) (q := (RX3, TX3, 12)) hK hP hF hS rfl (wC_5 y a σ)) rfl hl.1 rfl (Nat.le_of_ble_eq_true rfl) dX3_failuresIn_87 ⟨Nat.zero_le _, Nat.zero_le _⟩ hS (AC_le hS.1) (fun H locs hP hS hk1 => ?_)
          refine lv_iload_n hx hb dX3_failuresIn_90 rfl (lv_at hl 1 rfl) ?_
          obtain ⟨r9, h10, hm⟩ := ok_bind hm
          refine calV_l (As := [.int r7, .int v1]) (rest := [.long v2]) ⟨hx, hb, hml, hown, hts⟩ (kX1_truth l D y a t hI _ σ r7 v1 r9 h10) (cwV 2 hts (gAV aM_X3_159 aI_X1_truth aS_X1_truth aN_X1 aC_X1_truth) rfl rfl rfl eX1_truth ⟨Nat.le_of_ble_eq_true rfl, Nat.le_of_ble_eq_true rfl⟩) (preV_W (ci := 1) (q := (RX1, TX1, 8)) hK hP hF hS rfl (wC_1 y a σ)) rfl hl.1 rfl (Nat.le_of_ble_eq_true rfl) dX3_failuresIn_91 ⟨Nat.zero_le _, Nat.zero_le _⟩ hS (AC_le hS.1) (fun H locs hP hS hk1 => ?_)
          refine lv_land hx hb dX3_failuresIn_94 ?_
          refine lv_topl (fun x11 ex11 => ?_)
          have hm := bnd_x ex11 hm
          refine lv_lstore_n (lv' := [(3, .long x11), (0, .ref (a 5)), (2, .int v1), (6, .int v3), (7, .int v4)]) hx hb dX3_failuresIn_95 rfl hl (by decide) rfl (fun ls hl => ?_)
          refine lv_aload_n hx hb dX3_failuresIn_96 rfl (lv_at hl 1 rfl) ?_
          refine gfX3_boxes hx hb h_X3 hown hK hP l_f12 dX3_failuresIn_97 ?_
          refine lv_iload hx hb dX3_failuresIn_100 (lv_at hl 3 rfl) ?_
          obtain ⟨r12, h13, hm⟩ := ok_bind hm
          refine calV_i (As := [.int v3]) (rest := []) ⟨hx, hb, hml, hown, hts⟩ (kX0_outer l D y a t hI _ σ v3 r12 h13) (cwV 1 hts (gAV aM_X3_69 aI_X0_outer aS_X0_outer aN_X0 aC_X0_outer) rfl rfl rfl eX0_outer ⟨Nat.le_of_ble_eq_true rfl, Nat.le_of_ble_eq_true rfl⟩) (preV_W (ci := 0) (q := (RX0, TX0, 6)) hK hP hF hS rfl (wC_6 y a σ)) rfl hl.1 rfl (Nat.le_of_ble_eq_true rfl) dX3_failuresIn_102 ⟨Nat.zero_le _, Nat.zero_le _⟩ hS (AC_le hS.1) (fun H locs hP hS hk1 => ?_)
          refine lv_istore (lv' := [(6, .int r12), (3, .long x11), (0, .ref (a 5)), (2, .int v1), (7, .int v4)]) hx hb dX3_failuresIn_105 hl (by decide) rfl (fun ls hl => ?_)
          obtain ⟨x14, ex14⟩ : ∃ z : Int32, z = v4 + 1 := ⟨_, rfl⟩
          have hm := bnd_x ex14 hm
          refine lv_iinc (v := x14) (lv' := [(7, .int x14), (6, .int r12), (3, .long x11), (0, .ref (a 5)), (2, .int v1)]) hx hb dX3_failuresIn_107 hl (k := 4) rfl (by rw [ex14]; rfl) (by decide) rfl (fun ls hl => ?_)
          refine lv_goto (tgt := 67) hx hb dX3_failuresIn_110 (by decide) ?_
          exact ih67 v1 x11 r12 x14 _ _ _ hP hS (lv_sub hl [3, 4, 2, 1, 0] rfl) hm
  have L_57 : ∀ (v15 : Int32) (v16 : Int32) (v17 : Int64) (H : Heap) (locs : List Loc) (ls : Array Slot), va_P D vwCl (wC y a σ) H → va_S (AC a 37 s.heap.size) s.heap H locs → lv_has ls 8 [(0, .ref (a 5)), (1, .int v15), (2, .int v16), (3, .long v17)] → mX3_failuresIn_57 σ v15 v16 v17 = some r → W p l e (headSpec zX3_failuresIn ({ frames := 2, cells := 0, slots := 0, locals := 42 })).room s m ([.ref (a 5), .int p1, .int p2] : List Value).toArray below meth c H locs 0 0 (MQ below (va_Ql (fun r' u => r' = r ∧ u = σ) (posW (wC y a) D) (AC a 37 s.heap.size)) ([.ref (a 5), .int p1, .int p2] : List Value).toArray s 0 0 (AC a 37 s.heap.size)) (F0 m 57 ls []) := by
    intro v15 v16 v17 H locs ls hP hS hl hm
    unfold mX3_failuresIn_57 at hm
    refine lv_aload_n hx hb dX3_failuresIn_57 rfl (lv_at hl 0 rfl) ?_
    refine lv_iload_n hx hb dX3_failuresIn_58 rfl (lv_at hl 1 rfl) ?_
    obtain ⟨r18, h19, hm⟩ := ok_bind hm
    refine calV_i (As := [.int v15]) (rest := []) ⟨hx, hb, hml, hown, hts⟩ (kX3_boxOf l D y a t hI _ σ v15 r18 h19) (cwV 1 hts (gAV aM_X3_167 aI_X3_boxOf aS_X3_boxOf aN_X3 aC_X3_boxOf) rfl rfl rfl eX3_boxOf ⟨Nat.le_of_ble_eq_true rfl, Nat.le_of_ble_eq_true rfl⟩) (preV_W (ci := 3) (q := (RX3, TX3, 12)) hK hP hF hS rfl (wC_5 y a σ)) rfl hl.1 rfl (Nat.le_of_ble_eq_true rfl) dX3_failuresIn_59 ⟨Nat.zero_le _, Nat.zero_le _⟩ hS (AC_le hS.1) (fun H locs hP hS hk1 => ?_)
    refine lv_istore (lv' := [(6, .int r18), (0, .ref (a 5)), (1, .int v15), (2, .int v16), (3, .long v17)]) hx hb dX3_failuresIn_62 hl (by decide) rfl (fun ls hl => ?_)
    refine lv_iconst (v := 0) hx hb dX3_failuresIn_64 (by decide) ?_
    refine lv_istore (lv' := [(7, .int 0), (6, .int r18), (0, .ref (a 5)), (1, .int v15), (2, .int v16), (3, .long v17)]) hx hb dX3_failuresIn_65 hl (by decide) rfl (fun ls hl => ?_)
    exact L_67 NF v16 v17 r18 0 _ _ _ hP hS (lv_sub hl [2, 4, 5, 1, 0] rfl) hm
  have L_27 : ∀ (n : Nat) (v20 : Int32) (v21 : Int32) (v22 : Int64) (v23 : Int32) (v24 : Int32) (H : Heap) (locs : List Loc) (ls : Array Slot), va_P D vwCl (wC y a σ) H → va_S (AC a 37 s.heap.size) s.heap H locs → lv_has ls 8 [(0, .ref (a 5)), (1, .int v20), (2, .int v21), (3, .long v22), (5, .int v23), (6, .int v24)] → mX3_failuresIn_27 n σ v20 v21 v22 v23 v24 = some r → W p l e (headSpec zX3_failuresIn ({ frames := 2, cells := 0, slots := 0, locals := 42 })).room s m ([.ref (a 5), .int p1, .int p2] : List Value).toArray below meth c H locs 0 0 (MQ below (va_Ql (fun r' u => r' = r ∧ u = σ) (posW (wC y a) D) (AC a 37 s.heap.size)) ([.ref (a 5), .int p1, .int p2] : List Value).toArray s 0 0 (AC a 37 s.heap.size)) (F0 m 27 ls []) := by
    intro n
    induction n with
    | zero =>
      intro v20 v21 v22 v23 v24 H locs ls hP hS hl hm
      exact absurd (show (none : Option Int64) = some r from hm) (by intro h; cases h)
    | succ n ih27 =>
      obtain ⟨kh27, ekh27⟩ : ∃ z, z = mX3_failuresIn_27 n := ⟨_, rfl⟩
      have ih27 : ∀ (v20 : Int32) (v21 : Int32) (v22 : Int64) (v23 : Int32) (v24 : Int32) (H : Heap) (locs : List Loc) (ls : Array Slot), va_P D vwCl (wC y a σ) H → va_S (AC a 37 s.heap.size) s.heap H locs → lv_has ls 8 [(0, .ref (a 5)), (1, .int v20), (2, .int v21), (3, .long v22), (5, .int v23), (6, .int v24)] → kh27 σ v20 v21 v22 v23 v24 = some r → W p l e (headSpec zX3_failuresIn ({ frames := 2, cells := 0, slots := 0, locals := 42 })).room s m ([.ref (a 5), .int p1, .int p2] : List Value).toArray below meth c H locs 0 0 (MQ below (va_Ql (fun r' u => r' = r ∧ u = σ) (posW (wC y a) D) (AC a 37 s.heap.size)) ([.ref (a 5), .int p1, .int p2] : List Value).toArray s 0 0 (AC a 37 s.heap.size)) (F0 m 27 ls []) := by rw [ekh27]; exact ih27
      intro v20 v21 v22 v23 v24 H locs ls hP hS hl hm
      have hm : bX3_failuresIn_27 (mX3_failuresIn_27 n) σ v20 v21 v22 v23 v24 = some r := hm
      rw [← ekh27] at hm
      unfold bX3_failuresIn_27 at hm
      refine lv_iload hx hb dX3_failuresIn_27 (lv_at hl 5 rfl) ?_
      refine lv_iload hx hb dX3_failuresIn_29 (lv_at hl 4 rfl) ?_
      refine lv_icmp_ge (tgt := 57) hx hb dX3_failuresIn_31 (by decide) (fun c25 => ?_) (fun c25 => ?_)
      · have hm := (if_pos c25).symm.trans hm
        exact L_57 v20 v21 v22 _ _ _ hP hS (lv_sub hl [0, 1, 2, 3] rfl) hm
      · have hm := (if_neg c25).symm.trans hm
        refine lv_lload_n hx hb dX3_failuresIn_34 rfl (lv_at hl 3 rfl) ?_
        refine lv_aload_n hx hb dX3_failuresIn_35 rfl (lv_at hl 0 rfl) ?_
        refine gfX3_formulas hx hb h_X3 hown hK hP l_f41 dX3_failuresIn_36 ?_
        refine lv_aload_n hx hb dX3_failuresIn_39 rfl (lv_at hl 0 rfl) ?_
        refine lv_iload hx hb dX3_failuresIn_40 (lv_at hl 5 rfl) ?_
        obtain ⟨r26, h27, hm⟩ := ok_bind hm
        refine calV_i (As := [.int v24]) (rest := [.ref (a 1), .long v22]) ⟨hx, hb, hml, hown, hts⟩ (kX3_formulaOf l D y a t hI _ σ v24 r26 h27) (cwV 1 hts (gAV aM_X3_72 aI_X3_formulaOf aS_X3_formulaOf aN_X3 aC_X3_formulaOf) rfl rfl rfl eX3_formulaOf ⟨Nat.le_of_ble_eq_true rfl, Nat.le_of_ble_eq_true rfl⟩) (preV_W (ci := 3) (q := (RX3, TX3, 12)) hK hP hF hS rfl (wC_5 y a σ)) rfl hl.1 rfl (Nat.le_of_ble_eq_true rfl) dX3_failuresIn_42 ⟨Nat.zero_le _, Nat.zero_le _⟩ hS (AC_le hS.1) (fun H locs hP hS hk1 => ?_)
        refine lv_iload_n hx hb dX3_failuresIn_45 rfl (lv_at hl 2 rfl) ?_
        obtain ⟨r28, h29, hm⟩ := ok_bind hm
        refine calV_l (As := [.int r26, .int v21]) (rest := [.long v22]) ⟨hx, hb, hml, hown, hts⟩ (kX1_truth l D y a t hI _ σ r26 v21 r28 h29) (cwV 2 hts (gAV aM_X3_159 aI_X1_truth aS_X1_truth aN_X1 aC_X1_truth) rfl rfl rfl eX1_truth ⟨Nat.le_of_ble_eq_true rfl, Nat.le_of_ble_eq_true rfl⟩) (preV_W (ci := 1) (q := (RX1, TX1, 8)) hK hP hF hS rfl (wC_1 y a σ)) rfl hl.1 rfl (Nat.le_of_ble_eq_true rfl) dX3_failuresIn_46 ⟨Nat.zero_le _, Nat.zero_le _⟩ hS (AC_le hS.1) (fun H locs hP hS hk1 => ?_)
        refine lv_land hx hb dX3_failuresIn_49 ?_
        refine lv_topl (fun x30 ex30 => ?_)
        have hm := bnd_x ex30 hm
        refine lv_lstore_n (lv' := [(3, .long x30), (0, .ref (a 5)), (1, .int v20), (2, .int v21), (5, .int v23), (6, .int v24)]) hx hb dX3_failuresIn_50 rfl hl (by decide) rfl (fun ls hl => ?_)
        obtain ⟨x31, ex31⟩ : ∃ z : Int32, z = v24 + 1 := ⟨_, rfl⟩
        have hm := bnd_x ex31 hm
        refine lv_iinc (v := x31) (lv' := [(6, .int x31), (3, .long x30), (0, .ref (a 5)), (1, .int v20), (2, .int v21), (5, .int v23)]) hx hb dX3_failuresIn_51 hl (k := 5) rfl (by rw [ex31]; rfl) (by decide) rfl (fun ls hl => ?_)
        refine lv_goto (tgt := 27) hx hb dX3_failuresIn_54 (by decide) ?_
        exact ih27 v20 v21 x30 v23 x31 _ _ _ hP hS (lv_sub hl [2, 3, 4, 1, 5, 0] rfl) hm
  unfold mX3_failuresIn at hm
  refine lv_aload_n hx hb dX3_failuresIn_0 rfl (lv_at hl 0 rfl) ?_
  refine gfX3_formulas hx hb h_X3 hown hK hP l_f41 dX3_failuresIn_1 ?_
  refine lv_aload_n hx hb dX3_failuresIn_4 rfl (lv_at hl 0 rfl) ?_
  refine lv_iload_n hx hb dX3_failuresIn_5 rfl (lv_at hl 1 rfl) ?_
  obtain ⟨r32, h33, hm⟩ := ok_bind hm
  refine calV_i (As := [.int p1]) (rest := [.ref (a 1)]) ⟨hx, hb, hml, hown, hts⟩ (kX3_formulaOf l D y a t hI _ σ p1 r32 h33) (cwV 1 hts (gAV aM_X3_72 aI_X3_formulaOf aS_X3_formulaOf aN_X3 aC_X3_formulaOf) rfl rfl rfl eX3_formulaOf ⟨Nat.le_of_ble_eq_true rfl, Nat.le_of_ble_eq_true rfl⟩) (preV_W (ci := 3) (q := (RX3, TX3, 12)) hK hP hF hS rfl (wC_5 y a σ)) rfl hl.1 rfl (Nat.le_of_ble_eq_true rfl) dX3_failuresIn_6 ⟨Nat.zero_le _, Nat.zero_le _⟩ hS (AC_le hS.1) (fun H locs hP hS hk1 => ?_)
  refine lv_iload_n hx hb dX3_failuresIn_9 rfl (lv_at hl 2 rfl) ?_
  obtain ⟨r34, h35, hm⟩ := ok_bind hm
  refine calV_l (As := [.int r32, .int p2]) (rest := []) ⟨hx, hb, hml, hown, hts⟩ (kX1_truth l D y a t hI _ σ r32 p2 r34 h35) (cwV 2 hts (gAV aM_X3_159 aI_X1_truth aS_X1_truth aN_X1 aC_X1_truth) rfl rfl rfl eX1_truth ⟨Nat.le_of_ble_eq_true rfl, Nat.le_of_ble_eq_true rfl⟩) (preV_W (ci := 1) (q := (RX1, TX1, 8)) hK hP hF hS rfl (wC_1 y a σ)) rfl hl.1 rfl (Nat.le_of_ble_eq_true rfl) dX3_failuresIn_10 ⟨Nat.zero_le _, Nat.zero_le _⟩ hS (AC_le hS.1) (fun H locs hP hS hk1 => ?_)
  refine lv_ldc2 (v := (-1)) hx hb hown l_c162 dX3_failuresIn_13 ?_
  refine lv_lxor hx hb dX3_failuresIn_16 ?_
  refine lv_topl (fun x36 ex36 => ?_)
  have hm := bnd_x ex36 hm
  refine lv_lstore_n (lv' := [(3, .long x36), (0, .ref (a 5)), (1, .int p1), (2, .int p2)]) hx hb dX3_failuresIn_17 rfl hl (by decide) rfl (fun ls hl => ?_)
  refine lv_aload_n hx hb dX3_failuresIn_18 rfl (lv_at hl 1 rfl) ?_
  obtain ⟨r37, h38, hm⟩ := ok_bind hm
  refine calV_i (As := []) (rest := []) ⟨hx, hb, hml, hown, hts⟩ (kX3_premiseCount l D y a t hI _ σ r37 h38) (cwV 0 hts (gAV aM_X3_164 aI_X3_premiseCount aS_X3_premiseCount aN_X3 aC_X3_premiseCount) rfl rfl rfl eX3_premiseCount ⟨Nat.le_of_ble_eq_true rfl, Nat.le_of_ble_eq_true rfl⟩) (preV_W (ci := 3) (q := (RX3, TX3, 12)) hK hP hF hS rfl (wC_5 y a σ)) rfl hl.1 rfl (Nat.le_of_ble_eq_true rfl) dX3_failuresIn_19 ⟨Nat.zero_le _, Nat.zero_le _⟩ hS (AC_le hS.1) (fun H locs hP hS hk1 => ?_)
  refine lv_istore (lv' := [(5, .int r37), (3, .long x36), (0, .ref (a 5)), (1, .int p1), (2, .int p2)]) hx hb dX3_failuresIn_22 hl (by decide) rfl (fun ls hl => ?_)
  refine lv_iconst (v := 0) hx hb dX3_failuresIn_24 (by decide) ?_
  refine lv_istore (lv' := [(6, .int 0), (5, .int r37), (3, .long x36), (0, .ref (a 5)), (1, .int p1), (2, .int p2)]) hx hb dX3_failuresIn_25 hl (by decide) rfl (fun ls hl => ?_)
  exact L_27 NF p1 p2 x36 r37 0 _ _ _ hP hS (lv_sub hl [3, 4, 5, 2, 1, 0] rfl) hm
theorem eX3_failures : yX3_failures.cls = RX3 ∧ yX3_failures.cls ≠ "java/lang/invoke/MethodHandle" ∧ yX3_failures.cls ≠ "java/lang/invoke/VarHandle" ∧ (parseMethodDescriptor yX3_failures.desc).map (fun d => d.parameters.length) = some 1 := by decide +kernel
def bX3_failures_4 (kh4 : St → Int32 → Int32 → Int32 → Option Int32) (σ : St) (v1 : Int32) (v2 : Int32) (v3 : Int32) : Option Int32 :=
if 4 ≤ v3 then (
some v2)
else (
(mX3_failuresIn σ v1 v3).bind fun r5 =>
(mJ13_bitCount_95d88 σ r5).bind fun r7 =>
bnd (v2 + r7) fun x9 =>
bnd (v3 + 1) fun x10 =>
kh4 σ v1 x9 x10)
abbrev mX3_failures_4 (n : Nat) : St → Int32 → Int32 → Int32 → Option Int32 := fx (fun _ _ _ _ => none) (bX3_failures_4) n
def mX3_failures (σ : St) (p1 : Int32) : Option Int32 :=
mX3_failures_4 NF σ p1 0 0
set_option maxHeartbeats 4000000 in
set_option maxRecDepth 100000 in
theorem kX3_failures (l : Launch) (D : va_G) (y : Nat → ClassId) (a t : Nat → Nat) (hI : AI a 37) (sz : Nat) (σ : St) (p1 : Int32) (r : Int32) (hm : mX3_failures σ p1 = some r) : Met l yX3_failures zX3_failures { frames := 3, cells := 0, slots := 0, locals := 69 } (va_Pc [.ref (a 5), .int p1] (preW (wC y a) a 37 D y t σ sz)) (va_Qi (fun r' u => r' = r ∧ u = σ) (posW (wC y a) D) (AC a 37 sz)) 0 0 (AC a 37 sz) := by
  refine Met.ofW (cc := cX3_failures) (maxL := 4) (ret := (some .int)) (by decide) rfl ?_
  intro p e s m args below meth c s₁ B hml hv
  obtain ⟨rfl, hsz, hP, hK, hF⟩ := hv
  have hx := B.exec
  have hb := B.bytes
  have hr := B.returns
  have hts := atoms_spec (ws := zX3_failures) B.pre
  have hown : s.vm.findClass RX3 = some m.cls := findClass_of_methodNamed B.named
  have hlocks := B.notSynchronized
  subst hsz
  have hS : va_S (AC a 37 s.heap.size) s.heap s.heap [] := va_S.rf
  have hl := lv_entry ([.ref (a 5), .int p1]) (n := 4) (Nat.le_of_ble_eq_true rfl)
  rw [lg_entry_eq]
  generalize (lg_sl ([.ref (a 5), .int p1]) ++ List.replicate (4 - (lg_sl ([.ref (a 5), .int p1])).length) Slot.unset).toArray = ls at hl ⊢
  have hl : lv_has ls 4 [(0, .ref (a 5)), (1, .int p1)] := hl
  have L_4 : ∀ (n : Nat) (v1 : Int32) (v2 : Int32) (v3 : Int32) (H : Heap) (locs : List Loc) (ls : Array Slot), va_P D vwCl (wC y a σ) H → va_S (AC a 37 s.heap.size) s.heap H locs → lv_has ls 4 [(0, .ref (a 5)), (1, .int v1), (2, .int v2), (3, .int v3)] → mX3_failures_4 n σ v1 v2 v3 = some r → W p l e (headSpec zX3_failures ({ frames := 3, cells := 0, slots := 0, locals := 69 })).room s m ([.ref (a 5), .int p1] : List Value).toArray below meth c H locs 0 0 (MQ below (va_Qi (fun r' u => r' = r ∧ u = σ) (posW (wC y a) D) (AC a 37 s.heap.size)) ([.ref (a 5), .int p1] : List Value).toArray s 0 0 (AC a 37 s.heap.size)) (F0 m 4 ls []) := by
    intro n
    induction n with
    | zero =>
      intro v1 v2 v3 H locs ls hP hS hl hm
      exact absurd (show (none : Option Int32) = some r from hm) (by intro h; cases h)
    | succ n ih4 =>
      obtain ⟨kh4, ekh4⟩ : ∃ z, z = mX3_failures_4 n := ⟨_, rfl⟩
      have ih4 : ∀ (v1 : Int32) (v2 : Int32) (v3 : Int32) (H : Heap) (locs : List Loc) (ls : Array Slot), va_P D vwCl (wC y a σ) H → va_S (AC a 37 s.heap.size) s.heap H locs → lv_has ls 4 [(0, .ref (a 5)), (1, .int v1), (2, .int v2), (3, .int v3)] → kh4 σ v1 v2 v3 = some r → W p l e (headSpec zX3_failures ({ frames := 3, cells := 0, slots := 0, locals := 69 })).room s m ([.ref (a 5), .int p1] : List Value).toArray below meth c H locs 0 0 (MQ below (va_Qi (fun r' u => r' = r ∧ u = σ) (posW (wC y a) D) (AC a 37 s.heap.size)) ([.ref (a 5), .int p1] : List Value).toArray s 0 0 (AC a 37 s.heap.size)) (F0 m 4 ls []) := by rw [ekh4]; exact ih4
      intro v1 v2 v3 H locs ls hP hS hl hm
      have hm : bX3_failures_4 (mX3_failures_4 n) σ v1 v2 v3 = some r := hm
      rw [← ekh4] at hm
      unfold bX3_failures_4 at hm
      refine lv_iload_n hx hb dX3_failures_4 rfl (lv_at hl 3 rfl) ?_
      refine lv_iconst (v := 4) hx hb dX3_failures_5 (by decide) ?_
      refine lv_icmp_ge (tgt := 27) hx hb dX3_failures_6 (by decide) (fun c4 => ?_) (fun c4 => ?_)
      · have hm := (if_pos c4).symm.trans hm
        refine lv_iload_n hx hb dX3_failures_27 rfl (lv_at hl 2 rfl) ?_
        exact W.iret (v := v2) hx hb hr (fun T hT hW => ⟨⟨v2, σ, rfl, ⟨Option.some.inj hm, rfl⟩, by rw [posW, hT]; exact hP⟩, hS.F hT⟩) hS.2.2 dX3_failures_28
      · have hm := (if_neg c4).symm.trans hm
        refine lv_iload_n hx hb dX3_failures_9 rfl (lv_at hl 2 rfl) ?_
        refine lv_aload_n hx hb dX3_failures_10 rfl (lv_at hl 0 rfl) ?_
        refine lv_iload_n hx hb dX3_failures_11 rfl (lv_at hl 1 rfl) ?_
        refine lv_iload_n hx hb dX3_failures_12 rfl (lv_at hl 3 rfl) ?_
        obtain ⟨r5, h6, hm⟩ := ok_bind hm
        refine calV_l (As := [.int v1, .int v3]) (rest := [.int v2]) ⟨hx, hb, hml, hown, hts⟩ (kX3_failuresIn l D y a t hI _ σ v1 v3 r5 h6) (cwV 2 hts (gAV aM_X3_149 aI_X3_failuresIn aS_X3_failuresIn aN_X3 aC_X3_failuresIn) rfl rfl rfl eX3_failuresIn ⟨Nat.le_of_ble_eq_true rfl, Nat.le_of_ble_eq_true rfl⟩) (preV_W (ci := 3) (q := (RX3, TX3, 12)) hK hP hF hS rfl (wC_5 y a σ)) rfl hl.1 rfl (Nat.le_of_ble_eq_true rfl) dX3_failures_13 ⟨Nat.zero_le _, Nat.zero_le _⟩ hS (AC_le hS.1) (fun H locs hP hS hk1 => ?_)
        obtain ⟨r7, h8, hm⟩ := ok_bind hm
        refine calS_i (As := [.long r5]) (rest := [.int v2]) ⟨hx, hb, hml, hown, hts⟩ (kJ13_bitCount_95d88 l D y a t hI _ σ r5 r7 h8) (va_cwS 1 hts (gAS aM_X3_153 aT_J13_bitCount_95d88 aN_J13 aC_J13_bitCount_95d88) rfl rfl rfl eJ13_bitCount_95d88 ⟨Nat.le_of_ble_eq_true rfl, Nat.le_of_ble_eq_true rfl⟩) (preS_W hK hP hF hS) rfl hl.1 rfl (Nat.le_of_ble_eq_true rfl) dX3_failures_16 ⟨Nat.zero_le _, Nat.zero_le _⟩ hS (AC_le hS.1) (fun H locs hP hS hk1 => ?_)
        refine lv_iadd hx hb dX3_failures_19 ?_
        refine lv_topi (fun x9 ex9 => ?_)
        have hm := bnd_x ex9 hm
        refine lv_istore_n (lv' := [(2, .int x9), (0, .ref (a 5)), (1, .int v1), (3, .int v3)]) hx hb dX3_failures_20 rfl hl (by decide) rfl (fun ls hl => ?_)
        obtain ⟨x10, ex10⟩ : ∃ z : Int32, z = v3 + 1 := ⟨_, rfl⟩
        have hm := bnd_x ex10 hm
        refine lv_iinc (v := x10) (lv' := [(3, .int x10), (2, .int x9), (0, .ref (a 5)), (1, .int v1)]) hx hb dX3_failures_21 hl (k := 3) rfl (by rw [ex10]; rfl) (by decide) rfl (fun ls hl => ?_)
        refine lv_goto (tgt := 4) hx hb dX3_failures_24 (by decide) ?_
        exact ih4 v1 x9 x10 _ _ _ hP hS (lv_sub hl [2, 3, 1, 0] rfl) hm
  unfold mX3_failures at hm
  refine lv_iconst (v := 0) hx hb dX3_failures_0 (by decide) ?_
  refine lv_istore_n (lv' := [(2, .int 0), (0, .ref (a 5)), (1, .int p1)]) hx hb dX3_failures_1 rfl hl (by decide) rfl (fun ls hl => ?_)
  refine lv_iconst (v := 0) hx hb dX3_failures_2 (by decide) ?_
  refine lv_istore_n (lv' := [(3, .int 0), (2, .int 0), (0, .ref (a 5)), (1, .int p1)]) hx hb dX3_failures_3 rfl hl (by decide) rfl (fun ls hl => ?_)
  exact L_4 NF p1 0 0 _ _ _ hP hS (lv_sub hl [2, 3, 1, 0] rfl) hm
theorem eX4_reaches : yX4_reaches.cls = RX4 ∧ yX4_reaches.cls ≠ "java/lang/invoke/MethodHandle" ∧ yX4_reaches.cls ≠ "java/lang/invoke/VarHandle" ∧ (parseMethodDescriptor yX4_reaches.desc).map (fun d => d.parameters.length) = some 2 := by decide +kernel
def mX4_reaches (σ : St) (p1 : Int32) (p2 : Int32) : Option Int32 :=
if p1 = 1 then (
(mX3_seesLine σ p2).bind fun r2 =>
chkZ r2 (some r2))
else (
if p1 = 2 then (
(mX3_seesBox σ p2).bind fun r5 =>
chkZ r5 (some r5))
else (
if p1 = 3 then (
(mX6_isKnown σ p2).bind fun r8 =>
chkZ r8 (some r8))
else (
some 1)))
set_option maxHeartbeats 4000000 in
set_option maxRecDepth 100000 in
theorem kX4_reaches (l : Launch) (D : va_G) (y : Nat → ClassId) (a t : Nat → Nat) (hI : AI a 37) (sz : Nat) (σ : St) (p1 : Int32) (p2 : Int32) (r : Int32) (hm : mX4_reaches σ p1 p2 = some r) : Met l yX4_reaches zX4_reaches { frames := 3, cells := 0, slots := 0, locals := 63 } (va_Pc [.ref (a 7), .int p1, .int p2] (preW (wC y a) a 37 D y t σ sz)) (va_Qi (fun r' u => r' = r ∧ u = σ) (posW (wC y a) D) (AC a 37 sz)) 0 0 (AC a 37 sz) := by
  refine Met.ofW (cc := cX4_reaches) (maxL := 3) (ret := (some .boolean)) (by decide) rfl ?_
  intro p e s m args below meth c s₁ B hml hv
  obtain ⟨rfl, hsz, hP, hK, hF⟩ := hv
  have hx := B.exec
  have hb := B.bytes
  have hr := B.returns
  have hts := atoms_spec (ws := zX4_reaches) B.pre
  have hown : s.vm.findClass RX4 = some m.cls := findClass_of_methodNamed B.named
  have hlocks := B.notSynchronized
  subst hsz
  have l_f23 := hts _ (List.mem_cons_of_mem _ aF_X4_23)
  have l_f19 := hts _ (List.mem_cons_of_mem _ aF_X4_19)
  have h_X4 : ∀ w ∈ wsX40, w.before _ s = true := fun w hw => hts w (List.mem_cons_of_mem _ (hwX4 w hw))
  have hS : va_S (AC a 37 s.heap.size) s.heap s.heap [] := va_S.rf
  have hl := lv_entry ([.ref (a 7), .int p1, .int p2]) (n := 3) (Nat.le_of_ble_eq_true rfl)
  rw [lg_entry_eq]
  generalize (lg_sl ([.ref (a 7), .int p1, .int p2]) ++ List.replicate (3 - (lg_sl ([.ref (a 7), .int p1, .int p2])).length) Slot.unset).toArray = ls at hl ⊢
  have hl : lv_has ls 3 [(0, .ref (a 7)), (1, .int p1), (2, .int p2)] := hl
  unfold mX4_reaches at hm
  refine lv_iload_n hx hb dX4_reaches_0 rfl (lv_at hl 1 rfl) ?_
  by_cases c1 : p1 = 1
  · have hm := (if_pos c1).symm.trans hm
    refine lv_tableIn (tgt := 28) hx hb dX4_reaches_1 (by rw [c1]; decide) (by rw [c1]; decide) (by rw [c1]; rfl) (by decide) ?_
    refine lv_aload_n hx hb dX4_reaches_28 rfl (lv_at hl 0 rfl) ?_
    refine gfX4_proof hx hb h_X4 hown hK hP l_f23 dX4_reaches_29 ?_
    refine lv_iload_n hx hb dX4_reaches_32 rfl (lv_at hl 2 rfl) ?_
    obtain ⟨r2, h3, hm⟩ := ok_bind hm
    refine calV_i (As := [.int p2]) (rest := []) ⟨hx, hb, hml, hown, hts⟩ (kX3_seesLine l D y a t hI _ σ p2 r2 h3) (cwV 1 hts (gAV aM_X4_54 aI_X3_seesLine aS_X3_seesLine aN_X3 aC_X3_seesLine) rfl rfl rfl eX3_seesLine ⟨Nat.le_of_ble_eq_true rfl, Nat.le_of_ble_eq_true rfl⟩) (preV_W (ci := 3) (q := (RX3, TX3, 12)) hK hP hF hS rfl (wC_5 y a σ)) rfl hl.1 rfl (Nat.le_of_ble_eq_true rfl) dX4_reaches_33 ⟨Nat.zero_le _, Nat.zero_le _⟩ hS (AC_le hS.1) (fun H locs hP hS hk1 => ?_)
    obtain ⟨hz, hm⟩ := ok_Z hm
    exact W.zret (v := r2) hx hb hr hz (fun T hT hW => ⟨⟨r2, σ, rfl, ⟨Option.some.inj hm, rfl⟩, by rw [posW, hT]; exact hP⟩, hS.F hT⟩) hS.2.2 dX4_reaches_36
  · have hm := (if_neg c1).symm.trans hm
    have sc1 := sw_ne (k := 1) c1 rfl
    by_cases c4 : p1 = 2
    · have hm := (if_pos c4).symm.trans hm
      refine lv_tableIn (tgt := 37) hx hb dX4_reaches_1 (by rw [c4]; decide) (by rw [c4]; decide) (by rw [c4]; rfl) (by decide) ?_
      refine lv_aload_n hx hb dX4_reaches_37 rfl (lv_at hl 0 rfl) ?_
      refine gfX4_proof hx hb h_X4 hown hK hP l_f23 dX4_reaches_38 ?_
      refine lv_iload_n hx hb dX4_reaches_41 rfl (lv_at hl 2 rfl) ?_
      obtain ⟨r5, h6, hm⟩ := ok_bind hm
      refine calV_i (As := [.int p2]) (rest := []) ⟨hx, hb, hml, hown, hts⟩ (kX3_seesBox l D y a t hI _ σ p2 r5 h6) (cwV 1 hts (gAV aM_X4_58 aI_X3_seesBox aS_X3_seesBox aN_X3 aC_X3_seesBox) rfl rfl rfl eX3_seesBox ⟨Nat.le_of_ble_eq_true rfl, Nat.le_of_ble_eq_true rfl⟩) (preV_W (ci := 3) (q := (RX3, TX3, 12)) hK hP hF hS rfl (wC_5 y a σ)) rfl hl.1 rfl (Nat.le_of_ble_eq_true rfl) dX4_reaches_42 ⟨Nat.zero_le _, Nat.zero_le _⟩ hS (AC_le hS.1) (fun H locs hP hS hk1 => ?_)
      obtain ⟨hz, hm⟩ := ok_Z hm
      exact W.zret (v := r5) hx hb hr hz (fun T hT hW => ⟨⟨r5, σ, rfl, ⟨Option.some.inj hm, rfl⟩, by rw [posW, hT]; exact hP⟩, hS.F hT⟩) hS.2.2 dX4_reaches_45
    · have hm := (if_neg c4).symm.trans hm
      have sc4 := sw_ne (k := 2) c4 rfl
      by_cases c7 : p1 = 3
      · have hm := (if_pos c7).symm.trans hm
        refine lv_tableIn (tgt := 46) hx hb dX4_reaches_1 (by rw [c7]; decide) (by rw [c7]; decide) (by rw [c7]; rfl) (by decide) ?_
        refine lv_aload_n hx hb dX4_reaches_46 rfl (lv_at hl 0 rfl) ?_
        refine gfX4_theorems hx hb h_X4 hown hK hP l_f19 dX4_reaches_47 ?_
        refine lv_iload_n hx hb dX4_reaches_50 rfl (lv_at hl 2 rfl) ?_
        obtain ⟨r8, h9, hm⟩ := ok_bind hm
        refine calV_i (As := [.int p2]) (rest := []) ⟨hx, hb, hml, hown, hts⟩ (kX6_isKnown l D y a t hI _ σ p2 r8 h9) (cwV 1 hts (gAV aM_X4_61 aI_X6_isKnown aS_X6_isKnown aN_X6 aC_X6_isKnown) rfl rfl rfl eX6_isKnown ⟨Nat.le_of_ble_eq_true rfl, Nat.le_of_ble_eq_true rfl⟩) (preV_W (ci := 6) (q := (RX6, TX6, 9)) hK hP hF hS rfl (wC_4 y a σ)) rfl hl.1 rfl (Nat.le_of_ble_eq_true rfl) dX4_reaches_51 ⟨Nat.zero_le _, Nat.zero_le _⟩ hS (AC_le hS.1) (fun H locs hP hS hk1 => ?_)
        obtain ⟨hz, hm⟩ := ok_Z hm
        exact W.zret (v := r8) hx hb hr hz (fun T hT hW => ⟨⟨r8, σ, rfl, ⟨Option.some.inj hm, rfl⟩, by rw [posW, hT]; exact hP⟩, hS.F hT⟩) hS.2.2 dX4_reaches_54
      · have hm := (if_neg c7).symm.trans hm
        have sc7 := sw_ne (k := 3) c7 rfl
        refine lv_tableOut (tgt := 55) hx hb dX4_reaches_1 (by omega) (by decide) ?_
        refine lv_iconst (v := 1) hx hb dX4_reaches_55 (by decide) ?_
        exact W.zret (v := 1) hx hb hr rfl (fun T hT hW => ⟨⟨1, σ, rfl, ⟨Option.some.inj hm, rfl⟩, by rw [posW, hT]; exact hP⟩, hS.F hT⟩) hS.2.2 dX4_reaches_56
theorem eX4_hasForm : yX4_hasForm.cls = RX4 ∧ yX4_hasForm.cls ≠ "java/lang/invoke/MethodHandle" ∧ yX4_hasForm.cls ≠ "java/lang/invoke/VarHandle" ∧ (parseMethodDescriptor yX4_hasForm.desc).map (fun d => d.parameters.length) = some 3 := by decide +kernel
def mX4_hasForm (σ : St) (p1 : Int32) (p2 : Int32) (p3 : Int32) : Option Int32 :=
(mX3_formulaOf σ p2).bind fun r1 =>
if p1 = 2 then (
(mX1_sort σ r1).bind fun r4 =>
if r4 = 3 then (
some 1)
else (
some 0))
else (
if p1 = 3 then (
(mX1_sort σ r1).bind fun r8 =>
if r8 = 3 then (
some 1)
else (
some 0))
else (
if p1 = 4 then (
some 1)
else (
if p1 = 5 then (
some 1)
else (
if p1 = 6 then (
(mX1_sort σ r1).bind fun r14 =>
if r14 = 4 then (
some 1)
else (
some 0))
else (
if p1 = 7 then (
some 1)
else (
if p1 = 8 then (
(mX1_sort σ r1).bind fun r19 =>
if r19 = 5 then (
some 1)
else (
some 0))
else (
if p1 = 9 then (
(mX3_endOf σ p2).bind fun r23 =>
(mX1_sort σ r23).bind fun r25 =>
if r25 = 1 then (
some 1)
else (
some 0))
else (
if p1 = 10 then (
(mX3_formulaOf σ p3).bind fun r29 =>
(mX1_sort σ r29).bind fun r31 =>
if r31 = 2 then (
some 1)
else (
some 0))
else (
if p1 = 11 then (
(mX1_sort σ r1).bind fun r35 =>
if r35 = 1 then (
some 1)
else (
some 0))
else (
if p1 = 12 then (
(mX1_sort σ r1).bind fun r39 =>
if r39 = 2 then (
(mX1_left σ r1).bind fun r42 =>
(mX1_sort σ r42).bind fun r44 =>
if r44 = 2 then (
some 1)
else (
some 0))
else (
some 0))
else (
some 1)))))))))))
set_option maxHeartbeats 4000000 in
set_option maxRecDepth 100000 in
theorem kX4_hasForm (l : Launch) (D : va_G) (y : Nat → ClassId) (a t : Nat → Nat) (hI : AI a 37) (sz : Nat) (σ : St) (p1 : Int32) (p2 : Int32) (p3 : Int32) (r : Int32) (hm : mX4_hasForm σ p1 p2 p3 = some r) : Met l yX4_hasForm zX4_hasForm { frames := 2, cells := 0, slots := 0, locals := 42 } (va_Pc [.ref (a 7), .int p1, .int p2, .int p3] (preW (wC y a) a 37 D y t σ sz)) (va_Qi (fun r' u => r' = r ∧ u = σ) (posW (wC y a) D) (AC a 37 sz)) 0 0 (AC a 37 sz) := by
  refine Met.ofW (cc := cX4_hasForm) (maxL := 5) (ret := (some .boolean)) (by decide) rfl ?_
  intro p e s m args below meth c s₁ B hml hv
  obtain ⟨rfl, hsz, hP, hK, hF⟩ := hv
  have hx := B.exec
  have hb := B.bytes
  have hr := B.returns
  have hts := atoms_spec (ws := zX4_hasForm) B.pre
  have hown : s.vm.findClass RX4 = some m.cls := findClass_of_methodNamed B.named
  have hlocks := B.notSynchronized
  subst hsz
  have l_f23 := hts _ (List.mem_cons_of_mem _ aF_X4_23)
  have l_f15 := hts _ (List.mem_cons_of_mem _ aF_X4_15)
  have h_X4 : ∀ w ∈ wsX40, w.before _ s = true := fun w hw => hts w (List.mem_cons_of_mem _ (hwX4 w hw))
  have hS : va_S (AC a 37 s.heap.size) s.heap s.heap [] := va_S.rf
  have hl := lv_entry ([.ref (a 7), .int p1, .int p2, .int p3]) (n := 5) (Nat.le_of_ble_eq_true rfl)
  rw [lg_entry_eq]
  generalize (lg_sl ([.ref (a 7), .int p1, .int p2, .int p3]) ++ List.replicate (5 - (lg_sl ([.ref (a 7), .int p1, .int p2, .int p3])).length) Slot.unset).toArray = ls at hl ⊢
  have hl : lv_has ls 5 [(0, .ref (a 7)), (1, .int p1), (2, .int p2), (3, .int p3)] := hl
  unfold mX4_hasForm at hm
  refine lv_aload_n hx hb dX4_hasForm_0 rfl (lv_at hl 0 rfl) ?_
  refine gfX4_proof hx hb h_X4 hown hK hP l_f23 dX4_hasForm_1 ?_
  refine lv_iload_n hx hb dX4_hasForm_4 rfl (lv_at hl 2 rfl) ?_
  obtain ⟨r1, h2, hm⟩ := ok_bind hm
  refine calV_i (As := [.int p2]) (rest := []) ⟨hx, hb, hml, hown, hts⟩ (kX3_formulaOf l D y a t hI _ σ p2 r1 h2) (cwV 1 hts (gAV aM_X4_66 aI_X3_formulaOf aS_X3_formulaOf aN_X3 aC_X3_formulaOf) rfl rfl rfl eX3_formulaOf ⟨Nat.le_of_ble_eq_true rfl, Nat.le_of_ble_eq_true rfl⟩) (preV_W (ci := 3) (q := (RX3, TX3, 12)) hK hP hF hS rfl (wC_5 y a σ)) rfl hl.1 rfl (Nat.le_of_ble_eq_true rfl) dX4_hasForm_5 ⟨Nat.zero_le _, Nat.zero_le _⟩ hS (AC_le hS.1) (fun H locs hP hS hk1 => ?_)
  refine lv_istore (lv' := [(4, .int r1), (0, .ref (a 7)), (1, .int p1), (2, .int p2), (3, .int p3)]) hx hb dX4_hasForm_8 hl (by decide) rfl (fun ls hl => ?_)
  refine lv_iload_n hx hb dX4_hasForm_10 rfl (lv_at hl 2 rfl) ?_
  by_cases c3 : p1 = 2
  · have hm := (if_pos c3).symm.trans hm
    refine lv_tableIn (tgt := 68) hx hb dX4_hasForm_11 (by rw [c3]; decide) (by rw [c3]; decide) (by rw [c3]; rfl) (by decide) ?_
    refine lv_aload_n hx hb dX4_hasForm_68 rfl (lv_at hl 1 rfl) ?_
    refine gfX4_formulas hx hb h_X4 hown hK hP l_f15 dX4_hasForm_69 ?_
    refine lv_iload hx hb dX4_hasForm_72 (lv_at hl 0 rfl) ?_
    obtain ⟨r4, h5, hm⟩ := ok_bind hm
    refine calV_i (As := [.int r1]) (rest := []) ⟨hx, hb, hml, hown, hts⟩ (kX1_sort l D y a t hI _ σ r1 r4 h5) (cwV 1 hts (gAV aM_X4_70 aI_X1_sort aS_X1_sort aN_X1 aC_X1_sort) rfl rfl rfl eX1_sort ⟨Nat.le_of_ble_eq_true rfl, Nat.le_of_ble_eq_true rfl⟩) (preV_W (ci := 1) (q := (RX1, TX1, 8)) hK hP hF hS rfl (wC_1 y a σ)) rfl hl.1 rfl (Nat.le_of_ble_eq_true rfl) dX4_hasForm_74 ⟨Nat.zero_le _, Nat.zero_le _⟩ hS (AC_le hS.1) (fun H locs hP hS hk1 => ?_)
    refine lv_iconst (v := 3) hx hb dX4_hasForm_77 (by decide) ?_
    refine lv_icmp_ne (tgt := 85) hx hb dX4_hasForm_78 (by decide) (fun c6 => ?_) (fun c6 => ?_)
    · have hm := (if_neg c6).symm.trans hm
      refine lv_iconst (v := 0) hx hb dX4_hasForm_85 (by decide) ?_
      exact W.zret (v := 0) hx hb hr rfl (fun T hT hW => ⟨⟨0, σ, rfl, ⟨Option.some.inj hm, rfl⟩, by rw [posW, hT]; exact hP⟩, hS.F hT⟩) hS.2.2 dX4_hasForm_86
    · have hm := (if_pos c6).symm.trans hm
      refine lv_iconst (v := 1) hx hb dX4_hasForm_81 (by decide) ?_
      refine lv_goto (tgt := 86) hx hb dX4_hasForm_82 (by decide) ?_
      exact W.zret (v := 1) hx hb hr rfl (fun T hT hW => ⟨⟨1, σ, rfl, ⟨Option.some.inj hm, rfl⟩, by rw [posW, hT]; exact hP⟩, hS.F hT⟩) hS.2.2 dX4_hasForm_86
  · have hm := (if_neg c3).symm.trans hm
    have sc3 := sw_ne (k := 2) c3 rfl
    by_cases c7 : p1 = 3
    · have hm := (if_pos c7).symm.trans hm
      refine lv_tableIn (tgt := 68) hx hb dX4_hasForm_11 (by rw [c7]; decide) (by rw [c7]; decide) (by rw [c7]; rfl) (by decide) ?_
      refine lv_aload_n hx hb dX4_hasForm_68 rfl (lv_at hl 1 rfl) ?_
      refine gfX4_formulas hx hb h_X4 hown hK hP l_f15 dX4_hasForm_69 ?_
      refine lv_iload hx hb dX4_hasForm_72 (lv_at hl 0 rfl) ?_
      obtain ⟨r8, h9, hm⟩ := ok_bind hm
      refine calV_i (As := [.int r1]) (rest := []) ⟨hx, hb, hml, hown, hts⟩ (kX1_sort l D y a t hI _ σ r1 r8 h9) (cwV 1 hts (gAV aM_X4_70 aI_X1_sort aS_X1_sort aN_X1 aC_X1_sort) rfl rfl rfl eX1_sort ⟨Nat.le_of_ble_eq_true rfl, Nat.le_of_ble_eq_true rfl⟩) (preV_W (ci := 1) (q := (RX1, TX1, 8)) hK hP hF hS rfl (wC_1 y a σ)) rfl hl.1 rfl (Nat.le_of_ble_eq_true rfl) dX4_hasForm_74 ⟨Nat.zero_le _, Nat.zero_le _⟩ hS (AC_le hS.1) (fun H locs hP hS hk1 => ?_)
      refine lv_iconst (v := 3) hx hb dX4_hasForm_77 (by decide) ?_
      refine lv_icmp_ne (tgt := 85) hx hb dX4_hasForm_78 (by decide) (fun c10 => ?_) (fun c10 => ?_)
      · have hm := (if_neg c10).symm.trans hm
        refine lv_iconst (v := 0) hx hb dX4_hasForm_85 (by decide) ?_
        exact W.zret (v := 0) hx hb hr rfl (fun T hT hW => ⟨⟨0, σ, rfl, ⟨Option.some.inj hm, rfl⟩, by rw [posW, hT]; exact hP⟩, hS.F hT⟩) hS.2.2 dX4_hasForm_86
      · have hm := (if_pos c10).symm.trans hm
        refine lv_iconst (v := 1) hx hb dX4_hasForm_81 (by decide) ?_
        refine lv_goto (tgt := 86) hx hb dX4_hasForm_82 (by decide) ?_
        exact W.zret (v := 1) hx hb hr rfl (fun T hT hW => ⟨⟨1, σ, rfl, ⟨Option.some.inj hm, rfl⟩, by rw [posW, hT]; exact hP⟩, hS.F hT⟩) hS.2.2 dX4_hasForm_86
    · have hm := (if_neg c7).symm.trans hm
      have sc7 := sw_ne (k := 3) c7 rfl
      by_cases c11 : p1 = 4
      · have hm := (if_pos c11).symm.trans hm
        refine lv_tableIn (tgt := 233) hx hb dX4_hasForm_11 (by rw [c11]; decide) (by rw [c11]; decide) (by rw [c11]; rfl) (by decide) ?_
        refine lv_iconst (v := 1) hx hb dX4_hasForm_233 (by decide) ?_
        exact W.zret (v := 1) hx hb hr rfl (fun T hT hW => ⟨⟨1, σ, rfl, ⟨Option.some.inj hm, rfl⟩, by rw [posW, hT]; exact hP⟩, hS.F hT⟩) hS.2.2 dX4_hasForm_234
      · have hm := (if_neg c11).symm.trans hm
        have sc11 := sw_ne (k := 4) c11 rfl
        by_cases c12 : p1 = 5
        · have hm := (if_pos c12).symm.trans hm
          refine lv_tableIn (tgt := 233) hx hb dX4_hasForm_11 (by rw [c12]; decide) (by rw [c12]; decide) (by rw [c12]; rfl) (by decide) ?_
          refine lv_iconst (v := 1) hx hb dX4_hasForm_233 (by decide) ?_
          exact W.zret (v := 1) hx hb hr rfl (fun T hT hW => ⟨⟨1, σ, rfl, ⟨Option.some.inj hm, rfl⟩, by rw [posW, hT]; exact hP⟩, hS.F hT⟩) hS.2.2 dX4_hasForm_234
        · have hm := (if_neg c12).symm.trans hm
          have sc12 := sw_ne (k := 5) c12 rfl
          by_cases c13 : p1 = 6
          · have hm := (if_pos c13).symm.trans hm
            refine lv_tableIn (tgt := 87) hx hb dX4_hasForm_11 (by rw [c13]; decide) (by rw [c13]; decide) (by rw [c13]; rfl) (by decide) ?_
            refine lv_aload_n hx hb dX4_hasForm_87 rfl (lv_at hl 1 rfl) ?_
            refine gfX4_formulas hx hb h_X4 hown hK hP l_f15 dX4_hasForm_88 ?_
            refine lv_iload hx hb dX4_hasForm_91 (lv_at hl 0 rfl) ?_
            obtain ⟨r14, h15, hm⟩ := ok_bind hm
            refine calV_i (As := [.int r1]) (rest := []) ⟨hx, hb, hml, hown, hts⟩ (kX1_sort l D y a t hI _ σ r1 r14 h15) (cwV 1 hts (gAV aM_X4_70 aI_X1_sort aS_X1_sort aN_X1 aC_X1_sort) rfl rfl rfl eX1_sort ⟨Nat.le_of_ble_eq_true rfl, Nat.le_of_ble_eq_true rfl⟩) (preV_W (ci := 1) (q := (RX1, TX1, 8)) hK hP hF hS rfl (wC_1 y a σ)) rfl hl.1 rfl (Nat.le_of_ble_eq_true rfl) dX4_hasForm_93 ⟨Nat.zero_le _, Nat.zero_le _⟩ hS (AC_le hS.1) (fun H locs hP hS hk1 => ?_)
            refine lv_iconst (v := 4) hx hb dX4_hasForm_96 (by decide) ?_
            refine lv_icmp_ne (tgt := 104) hx hb dX4_hasForm_97 (by decide) (fun c16 => ?_) (fun c16 => ?_)
            · have hm := (if_neg c16).symm.trans hm
              refine lv_iconst (v := 0) hx hb dX4_hasForm_104 (by decide) ?_
              exact W.zret (v := 0) hx hb hr rfl (fun T hT hW => ⟨⟨0, σ, rfl, ⟨Option.some.inj hm, rfl⟩, by rw [posW, hT]; exact hP⟩, hS.F hT⟩) hS.2.2 dX4_hasForm_105
            · have hm := (if_pos c16).symm.trans hm
              refine lv_iconst (v := 1) hx hb dX4_hasForm_100 (by decide) ?_
              refine lv_goto (tgt := 105) hx hb dX4_hasForm_101 (by decide) ?_
              exact W.zret (v := 1) hx hb hr rfl (fun T hT hW => ⟨⟨1, σ, rfl, ⟨Option.some.inj hm, rfl⟩, by rw [posW, hT]; exact hP⟩, hS.F hT⟩) hS.2.2 dX4_hasForm_105
          · have hm := (if_neg c13).symm.trans hm
            have sc13 := sw_ne (k := 6) c13 rfl
            by_cases c17 : p1 = 7
            · have hm := (if_pos c17).symm.trans hm
              refine lv_tableIn (tgt := 233) hx hb dX4_hasForm_11 (by rw [c17]; decide) (by rw [c17]; decide) (by rw [c17]; rfl) (by decide) ?_
              refine lv_iconst (v := 1) hx hb dX4_hasForm_233 (by decide) ?_
              exact W.zret (v := 1) hx hb hr rfl (fun T hT hW => ⟨⟨1, σ, rfl, ⟨Option.some.inj hm, rfl⟩, by rw [posW, hT]; exact hP⟩, hS.F hT⟩) hS.2.2 dX4_hasForm_234
            · have hm := (if_neg c17).symm.trans hm
              have sc17 := sw_ne (k := 7) c17 rfl
              by_cases c18 : p1 = 8
              · have hm := (if_pos c18).symm.trans hm
                refine lv_tableIn (tgt := 106) hx hb dX4_hasForm_11 (by rw [c18]; decide) (by rw [c18]; decide) (by rw [c18]; rfl) (by decide) ?_
                refine lv_aload_n hx hb dX4_hasForm_106 rfl (lv_at hl 1 rfl) ?_
                refine gfX4_formulas hx hb h_X4 hown hK hP l_f15 dX4_hasForm_107 ?_
                refine lv_iload hx hb dX4_hasForm_110 (lv_at hl 0 rfl) ?_
                obtain ⟨r19, h20, hm⟩ := ok_bind hm
                refine calV_i (As := [.int r1]) (rest := []) ⟨hx, hb, hml, hown, hts⟩ (kX1_sort l D y a t hI _ σ r1 r19 h20) (cwV 1 hts (gAV aM_X4_70 aI_X1_sort aS_X1_sort aN_X1 aC_X1_sort) rfl rfl rfl eX1_sort ⟨Nat.le_of_ble_eq_true rfl, Nat.le_of_ble_eq_true rfl⟩) (preV_W (ci := 1) (q := (RX1, TX1, 8)) hK hP hF hS rfl (wC_1 y a σ)) rfl hl.1 rfl (Nat.le_of_ble_eq_true rfl) dX4_hasForm_112 ⟨Nat.zero_le _, Nat.zero_le _⟩ hS (AC_le hS.1) (fun H locs hP hS hk1 => ?_)
                refine lv_iconst (v := 5) hx hb dX4_hasForm_115 (by decide) ?_
                refine lv_icmp_ne (tgt := 123) hx hb dX4_hasForm_116 (by decide) (fun c21 => ?_) (fun c21 => ?_)
                · have hm := (if_neg c21).symm.trans hm
                  refine lv_iconst (v := 0) hx hb dX4_hasForm_123 (by decide) ?_
                  exact W.zret (v := 0) hx hb hr rfl (fun T hT hW => ⟨⟨0, σ, rfl, ⟨Option.some.inj hm, rfl⟩, by rw [posW, hT]; exact hP⟩, hS.F hT⟩) hS.2.2 dX4_hasForm_124
                · have hm := (if_pos c21).symm.trans hm
                  refine lv_iconst (v := 1) hx hb dX4_hasForm_119 (by decide) ?_
                  refine lv_goto (tgt := 124) hx hb dX4_hasForm_120 (by decide) ?_
                  exact W.zret (v := 1) hx hb hr rfl (fun T hT hW => ⟨⟨1, σ, rfl, ⟨Option.some.inj hm, rfl⟩, by rw [posW, hT]; exact hP⟩, hS.F hT⟩) hS.2.2 dX4_hasForm_124
              · have hm := (if_neg c18).symm.trans hm
                have sc18 := sw_ne (k := 8) c18 rfl
                by_cases c22 : p1 = 9
                · have hm := (if_pos c22).symm.trans hm
                  refine lv_tableIn (tgt := 125) hx hb dX4_hasForm_11 (by rw [c22]; decide) (by rw [c22]; decide) (by rw [c22]; rfl) (by decide) ?_
                  refine lv_aload_n hx hb dX4_hasForm_125 rfl (lv_at hl 1 rfl) ?_
                  refine gfX4_formulas hx hb h_X4 hown hK hP l_f15 dX4_hasForm_126 ?_
                  refine lv_aload_n hx hb dX4_hasForm_129 rfl (lv_at hl 1 rfl) ?_
                  refine gfX4_proof hx hb h_X4 hown hK hP l_f23 dX4_hasForm_130 ?_
                  refine lv_iload_n hx hb dX4_hasForm_133 rfl (lv_at hl 3 rfl) ?_
                  obtain ⟨r23, h24, hm⟩ := ok_bind hm
                  refine calV_i (As := [.int p2]) (rest := [.ref (a 1)]) ⟨hx, hb, hml, hown, hts⟩ (kX3_endOf l D y a t hI _ σ p2 r23 h24) (cwV 1 hts (gAV aM_X4_75 aI_X3_endOf aS_X3_endOf aN_X3 aC_X3_endOf) rfl rfl rfl eX3_endOf ⟨Nat.le_of_ble_eq_true rfl, Nat.le_of_ble_eq_true rfl⟩) (preV_W (ci := 3) (q := (RX3, TX3, 12)) hK hP hF hS rfl (wC_5 y a σ)) rfl hl.1 rfl (Nat.le_of_ble_eq_true rfl) dX4_hasForm_134 ⟨Nat.zero_le _, Nat.zero_le _⟩ hS (AC_le hS.1) (fun H locs hP hS hk1 => ?_)
                  obtain ⟨r25, h26, hm⟩ := ok_bind hm
                  refine calV_i (As := [.int r23]) (rest := []) ⟨hx, hb, hml, hown, hts⟩ (kX1_sort l D y a t hI _ σ r23 r25 h26) (cwV 1 hts (gAV aM_X4_70 aI_X1_sort aS_X1_sort aN_X1 aC_X1_sort) rfl rfl rfl eX1_sort ⟨Nat.le_of_ble_eq_true rfl, Nat.le_of_ble_eq_true rfl⟩) (preV_W (ci := 1) (q := (RX1, TX1, 8)) hK hP hF hS rfl (wC_1 y a σ)) rfl hl.1 rfl (Nat.le_of_ble_eq_true rfl) dX4_hasForm_137 ⟨Nat.zero_le _, Nat.zero_le _⟩ hS (AC_le hS.1) (fun H locs hP hS hk1 => ?_)
                  refine lv_iconst (v := 1) hx hb dX4_hasForm_140 (by decide) ?_
                  refine lv_icmp_ne (tgt := 148) hx hb dX4_hasForm_141 (by decide) (fun c27 => ?_) (fun c27 => ?_)
                  · have hm := (if_neg c27).symm.trans hm
                    refine lv_iconst (v := 0) hx hb dX4_hasForm_148 (by decide) ?_
                    exact W.zret (v := 0) hx hb hr rfl (fun T hT hW => ⟨⟨0, σ, rfl, ⟨Option.some.inj hm, rfl⟩, by rw [posW, hT]; exact hP⟩, hS.F hT⟩) hS.2.2 dX4_hasForm_149
                  · have hm := (if_pos c27).symm.trans hm
                    refine lv_iconst (v := 1) hx hb dX4_hasForm_144 (by decide) ?_
                    refine lv_goto (tgt := 149) hx hb dX4_hasForm_145 (by decide) ?_
                    exact W.zret (v := 1) hx hb hr rfl (fun T hT hW => ⟨⟨1, σ, rfl, ⟨Option.some.inj hm, rfl⟩, by rw [posW, hT]; exact hP⟩, hS.F hT⟩) hS.2.2 dX4_hasForm_149
                · have hm := (if_neg c22).symm.trans hm
                  have sc22 := sw_ne (k := 9) c22 rfl
                  by_cases c28 : p1 = 10
                  · have hm := (if_pos c28).symm.trans hm
                    refine lv_tableIn (tgt := 150) hx hb dX4_hasForm_11 (by rw [c28]; decide) (by rw [c28]; decide) (by rw [c28]; rfl) (by decide) ?_
                    refine lv_aload_n hx hb dX4_hasForm_150 rfl (lv_at hl 1 rfl) ?_
                    refine gfX4_formulas hx hb h_X4 hown hK hP l_f15 dX4_hasForm_151 ?_
                    refine lv_aload_n hx hb dX4_hasForm_154 rfl (lv_at hl 1 rfl) ?_
                    refine gfX4_proof hx hb h_X4 hown hK hP l_f23 dX4_hasForm_155 ?_
                    refine lv_iload_n hx hb dX4_hasForm_158 rfl (lv_at hl 4 rfl) ?_
                    obtain ⟨r29, h30, hm⟩ := ok_bind hm
                    refine calV_i (As := [.int p3]) (rest := [.ref (a 1)]) ⟨hx, hb, hml, hown, hts⟩ (kX3_formulaOf l D y a t hI _ σ p3 r29 h30) (cwV 1 hts (gAV aM_X4_66 aI_X3_formulaOf aS_X3_formulaOf aN_X3 aC_X3_formulaOf) rfl rfl rfl eX3_formulaOf ⟨Nat.le_of_ble_eq_true rfl, Nat.le_of_ble_eq_true rfl⟩) (preV_W (ci := 3) (q := (RX3, TX3, 12)) hK hP hF hS rfl (wC_5 y a σ)) rfl hl.1 rfl (Nat.le_of_ble_eq_true rfl) dX4_hasForm_159 ⟨Nat.zero_le _, Nat.zero_le _⟩ hS (AC_le hS.1) (fun H locs hP hS hk1 => ?_)
                    obtain ⟨r31, h32, hm⟩ := ok_bind hm
                    refine calV_i (As := [.int r29]) (rest := []) ⟨hx, hb, hml, hown, hts⟩ (kX1_sort l D y a t hI _ σ r29 r31 h32) (cwV 1 hts (gAV aM_X4_70 aI_X1_sort aS_X1_sort aN_X1 aC_X1_sort) rfl rfl rfl eX1_sort ⟨Nat.le_of_ble_eq_true rfl, Nat.le_of_ble_eq_true rfl⟩) (preV_W (ci := 1) (q := (RX1, TX1, 8)) hK hP hF hS rfl (wC_1 y a σ)) rfl hl.1 rfl (Nat.le_of_ble_eq_true rfl) dX4_hasForm_162 ⟨Nat.zero_le _, Nat.zero_le _⟩ hS (AC_le hS.1) (fun H locs hP hS hk1 => ?_)
                    refine lv_iconst (v := 2) hx hb dX4_hasForm_165 (by decide) ?_
                    refine lv_icmp_ne (tgt := 173) hx hb dX4_hasForm_166 (by decide) (fun c33 => ?_) (fun c33 => ?_)
                    · have hm := (if_neg c33).symm.trans hm
                      refine lv_iconst (v := 0) hx hb dX4_hasForm_173 (by decide) ?_
                      exact W.zret (v := 0) hx hb hr rfl (fun T hT hW => ⟨⟨0, σ, rfl, ⟨Option.some.inj hm, rfl⟩, by rw [posW, hT]; exact hP⟩, hS.F hT⟩) hS.2.2 dX4_hasForm_174
                    · have hm := (if_pos c33).symm.trans hm
                      refine lv_iconst (v := 1) hx hb dX4_hasForm_169 (by decide) ?_
                      refine lv_goto (tgt := 174) hx hb dX4_hasForm_170 (by decide) ?_
                      exact W.zret (v := 1) hx hb hr rfl (fun T hT hW => ⟨⟨1, σ, rfl, ⟨Option.some.inj hm, rfl⟩, by rw [posW, hT]; exact hP⟩, hS.F hT⟩) hS.2.2 dX4_hasForm_174
                  · have hm := (if_neg c28).symm.trans hm
                    have sc28 := sw_ne (k := 10) c28 rfl
                    by_cases c34 : p1 = 11
                    · have hm := (if_pos c34).symm.trans hm
                      refine lv_tableIn (tgt := 175) hx hb dX4_hasForm_11 (by rw [c34]; decide) (by rw [c34]; decide) (by rw [c34]; rfl) (by decide) ?_
                      refine lv_aload_n hx hb dX4_hasForm_175 rfl (lv_at hl 1 rfl) ?_
                      refine gfX4_formulas hx hb h_X4 hown hK hP l_f15 dX4_hasForm_176 ?_
                      refine lv_iload hx hb dX4_hasForm_179 (lv_at hl 0 rfl) ?_
                      obtain ⟨r35, h36, hm⟩ := ok_bind hm
                      refine calV_i (As := [.int r1]) (rest := []) ⟨hx, hb, hml, hown, hts⟩ (kX1_sort l D y a t hI _ σ r1 r35 h36) (cwV 1 hts (gAV aM_X4_70 aI_X1_sort aS_X1_sort aN_X1 aC_X1_sort) rfl rfl rfl eX1_sort ⟨Nat.le_of_ble_eq_true rfl, Nat.le_of_ble_eq_true rfl⟩) (preV_W (ci := 1) (q := (RX1, TX1, 8)) hK hP hF hS rfl (wC_1 y a σ)) rfl hl.1 rfl (Nat.le_of_ble_eq_true rfl) dX4_hasForm_181 ⟨Nat.zero_le _, Nat.zero_le _⟩ hS (AC_le hS.1) (fun H locs hP hS hk1 => ?_)
                      refine lv_iconst (v := 1) hx hb dX4_hasForm_184 (by decide) ?_
                      refine lv_icmp_ne (tgt := 192) hx hb dX4_hasForm_185 (by decide) (fun c37 => ?_) (fun c37 => ?_)
                      · have hm := (if_neg c37).symm.trans hm
                        refine lv_iconst (v := 0) hx hb dX4_hasForm_192 (by decide) ?_
                        exact W.zret (v := 0) hx hb hr rfl (fun T hT hW => ⟨⟨0, σ, rfl, ⟨Option.some.inj hm, rfl⟩, by rw [posW, hT]; exact hP⟩, hS.F hT⟩) hS.2.2 dX4_hasForm_193
                      · have hm := (if_pos c37).symm.trans hm
                        refine lv_iconst (v := 1) hx hb dX4_hasForm_188 (by decide) ?_
                        refine lv_goto (tgt := 193) hx hb dX4_hasForm_189 (by decide) ?_
                        exact W.zret (v := 1) hx hb hr rfl (fun T hT hW => ⟨⟨1, σ, rfl, ⟨Option.some.inj hm, rfl⟩, by rw [posW, hT]; exact hP⟩, hS.F hT⟩) hS.2.2 dX4_hasForm_193
                    · have hm := (if_neg c34).symm.trans hm
                      have sc34 := sw_ne (k := 11) c34 rfl
                      by_cases c38 : p1 = 12
                      · have hm := (if_pos c38).symm.trans hm
                        refine lv_tableIn (tgt := 194) hx hb dX4_hasForm_11 (by rw [c38]; decide) (by rw [c38]; decide) (by rw [c38]; rfl) (by decide) ?_
                        refine lv_aload_n hx hb dX4_hasForm_194 rfl (lv_at hl 1 rfl) ?_
                        refine gfX4_formulas hx hb h_X4 hown hK hP l_f15 dX4_hasForm_195 ?_
                        refine lv_iload hx hb dX4_hasForm_198 (lv_at hl 0 rfl) ?_
                        obtain ⟨r39, h40, hm⟩ := ok_bind hm
                        refine calV_i (As := [.int r1]) (rest := []) ⟨hx, hb, hml, hown, hts⟩ (kX1_sort l D y a t hI _ σ r1 r39 h40) (cwV 1 hts (gAV aM_X4_70 aI_X1_sort aS_X1_sort aN_X1 aC_X1_sort) rfl rfl rfl eX1_sort ⟨Nat.le_of_ble_eq_true rfl, Nat.le_of_ble_eq_true rfl⟩) (preV_W (ci := 1) (q := (RX1, TX1, 8)) hK hP hF hS rfl (wC_1 y a σ)) rfl hl.1 rfl (Nat.le_of_ble_eq_true rfl) dX4_hasForm_200 ⟨Nat.zero_le _, Nat.zero_le _⟩ hS (AC_le hS.1) (fun H locs hP hS hk1 => ?_)
                        refine lv_iconst (v := 2) hx hb dX4_hasForm_203 (by decide) ?_
                        refine lv_icmp_ne (tgt := 231) hx hb dX4_hasForm_204 (by decide) (fun c41 => ?_) (fun c41 => ?_)
                        · have hm := (if_neg c41).symm.trans hm
                          refine lv_iconst (v := 0) hx hb dX4_hasForm_231 (by decide) ?_
                          exact W.zret (v := 0) hx hb hr rfl (fun T hT hW => ⟨⟨0, σ, rfl, ⟨Option.some.inj hm, rfl⟩, by rw [posW, hT]; exact hP⟩, hS.F hT⟩) hS.2.2 dX4_hasForm_232
                        · have hm := (if_pos c41).symm.trans hm
                          refine lv_aload_n hx hb dX4_hasForm_207 rfl (lv_at hl 1 rfl) ?_
                          refine gfX4_formulas hx hb h_X4 hown hK hP l_f15 dX4_hasForm_208 ?_
                          refine lv_aload_n hx hb dX4_hasForm_211 rfl (lv_at hl 1 rfl) ?_
                          refine gfX4_formulas hx hb h_X4 hown hK hP l_f15 dX4_hasForm_212 ?_
                          refine lv_iload hx hb dX4_hasForm_215 (lv_at hl 0 rfl) ?_
                          obtain ⟨r42, h43, hm⟩ := ok_bind hm
                          refine calV_i (As := [.int r1]) (rest := [.ref (a 1)]) ⟨hx, hb, hml, hown, hts⟩ (kX1_left l D y a t hI _ σ r1 r42 h43) (cwV 1 hts (gAV aM_X4_78 aI_X1_left aS_X1_left aN_X1 aC_X1_left) rfl rfl rfl eX1_left ⟨Nat.le_of_ble_eq_true rfl, Nat.le_of_ble_eq_true rfl⟩) (preV_W (ci := 1) (q := (RX1, TX1, 8)) hK hP hF hS rfl (wC_1 y a σ)) rfl hl.1 rfl (Nat.le_of_ble_eq_true rfl) dX4_hasForm_217 ⟨Nat.zero_le _, Nat.zero_le _⟩ hS (AC_le hS.1) (fun H locs hP hS hk1 => ?_)
                          obtain ⟨r44, h45, hm⟩ := ok_bind hm
                          refine calV_i (As := [.int r42]) (rest := []) ⟨hx, hb, hml, hown, hts⟩ (kX1_sort l D y a t hI _ σ r42 r44 h45) (cwV 1 hts (gAV aM_X4_70 aI_X1_sort aS_X1_sort aN_X1 aC_X1_sort) rfl rfl rfl eX1_sort ⟨Nat.le_of_ble_eq_true rfl, Nat.le_of_ble_eq_true rfl⟩) (preV_W (ci := 1) (q := (RX1, TX1, 8)) hK hP hF hS rfl (wC_1 y a σ)) rfl hl.1 rfl (Nat.le_of_ble_eq_true rfl) dX4_hasForm_220 ⟨Nat.zero_le _, Nat.zero_le _⟩ hS (AC_le hS.1) (fun H locs hP hS hk1 => ?_)
                          refine lv_iconst (v := 2) hx hb dX4_hasForm_223 (by decide) ?_
                          refine lv_icmp_ne (tgt := 231) hx hb dX4_hasForm_224 (by decide) (fun c46 => ?_) (fun c46 => ?_)
                          · have hm := (if_neg c46).symm.trans hm
                            refine lv_iconst (v := 0) hx hb dX4_hasForm_231 (by decide) ?_
                            exact W.zret (v := 0) hx hb hr rfl (fun T hT hW => ⟨⟨0, σ, rfl, ⟨Option.some.inj hm, rfl⟩, by rw [posW, hT]; exact hP⟩, hS.F hT⟩) hS.2.2 dX4_hasForm_232
                          · have hm := (if_pos c46).symm.trans hm
                            refine lv_iconst (v := 1) hx hb dX4_hasForm_227 (by decide) ?_
                            refine lv_goto (tgt := 232) hx hb dX4_hasForm_228 (by decide) ?_
                            exact W.zret (v := 1) hx hb hr rfl (fun T hT hW => ⟨⟨1, σ, rfl, ⟨Option.some.inj hm, rfl⟩, by rw [posW, hT]; exact hP⟩, hS.F hT⟩) hS.2.2 dX4_hasForm_232
                      · have hm := (if_neg c38).symm.trans hm
                        have sc38 := sw_ne (k := 12) c38 rfl
                        refine lv_tableOut (tgt := 233) hx hb dX4_hasForm_11 (by omega) (by decide) ?_
                        refine lv_iconst (v := 1) hx hb dX4_hasForm_233 (by decide) ?_
                        exact W.zret (v := 1) hx hb hr rfl (fun T hT hW => ⟨⟨1, σ, rfl, ⟨Option.some.inj hm, rfl⟩, by rw [posW, hT]; exact hP⟩, hS.F hT⟩) hS.2.2 dX4_hasForm_234
theorem eX4_theoremFits : yX4_theoremFits.cls = RX4 ∧ yX4_theoremFits.cls ≠ "java/lang/invoke/MethodHandle" ∧ yX4_theoremFits.cls ≠ "java/lang/invoke/VarHandle" ∧ (parseMethodDescriptor yX4_theoremFits.desc).map (fun d => d.parameters.length) = some 4 := by decide +kernel
def mX4_theoremFits_48 (s5 : St) (v1 : Int32) (v2 : Int32) (v3 : Int32) (v4 : Int32) : Option (Int32 × St) :=
(mX6_saysWithPremises s5 v2 v1 v3 v4).bind fun ⟨r6, s8⟩ =>
chkZ r6 (some (r6, s8))
def mX4_theoremFits_27 (s14 : St) (v9 : Int32) (v10 : Int32) (v11 : Int32) (v12 : Int32) (v13 : Int32) : Option (Int32 × St) :=
if v12 ≤ 1 then (
mX4_theoremFits_48 s14 v9 v10 v13 (-1))
else (
(mX3_formulaOf s14 v11).bind fun r16 =>
mX4_theoremFits_48 s14 v9 v10 v13 r16)
def mX4_theoremFits (σ : St) (p1 : Int32) (p2 : Int32) (p3 : Int32) (p4 : Int32) : Option (Int32 × St) :=
(mX6_premises σ p2).bind fun r18 =>
if r18 ≤ 0 then (
mX4_theoremFits_27 σ p1 p2 p4 r18 (-1))
else (
(mX3_formulaOf σ p3).bind fun r21 =>
mX4_theoremFits_27 σ p1 p2 p4 r18 r21)
set_option maxHeartbeats 4000000 in
set_option maxRecDepth 100000 in
theorem kX4_theoremFits (l : Launch) (D : va_G) (y : Nat → ClassId) (a t : Nat → Nat) (hI : AI a 37) (sz : Nat) (σ τ : St) (p1 : Int32) (p2 : Int32) (p3 : Int32) (p4 : Int32) (r : Int32) (hm : mX4_theoremFits σ p1 p2 p3 p4 = some (r, τ)) : Met l yX4_theoremFits zX4_theoremFits { frames := 3, cells := 0, slots := 0, locals := 71 } (va_Pc [.ref (a 7), .int p1, .int p2, .int p3, .int p4] (preW (wC y a) a 37 D y t σ sz)) (va_Qi (fun r' u => r' = r ∧ u = τ) (posW (wC y a) D) (AC a 37 sz)) 0 0 (AC a 37 sz) := by
  refine Met.ofW (cc := cX4_theoremFits) (maxL := 8) (ret := (some .boolean)) (by decide) rfl ?_
  intro p e s m args below meth c s₁ B hml hv
  obtain ⟨rfl, hsz, hP, hK, hF⟩ := hv
  have hx := B.exec
  have hb := B.bytes
  have hr := B.returns
  have hts := atoms_spec (ws := zX4_theoremFits) B.pre
  have hown : s.vm.findClass RX4 = some m.cls := findClass_of_methodNamed B.named
  have hlocks := B.notSynchronized
  subst hsz
  have l_f19 := hts _ (List.mem_cons_of_mem _ aF_X4_19)
  have l_f23 := hts _ (List.mem_cons_of_mem _ aF_X4_23)
  have h_X4 : ∀ w ∈ wsX40, w.before _ s = true := fun w hw => hts w (List.mem_cons_of_mem _ (hwX4 w hw))
  have hS : va_S (AC a 37 s.heap.size) s.heap s.heap [] := va_S.rf
  have hl := lv_entry ([.ref (a 7), .int p1, .int p2, .int p3, .int p4]) (n := 8) (Nat.le_of_ble_eq_true rfl)
  rw [lg_entry_eq]
  generalize (lg_sl ([.ref (a 7), .int p1, .int p2, .int p3, .int p4]) ++ List.replicate (8 - (lg_sl ([.ref (a 7), .int p1, .int p2, .int p3, .int p4])).length) Slot.unset).toArray = ls at hl ⊢
  have hl : lv_has ls 8 [(0, .ref (a 7)), (1, .int p1), (2, .int p2), (3, .int p3), (4, .int p4)] := hl
  have L_48 : ∀ (s5 : St) (v1 : Int32) (v2 : Int32) (v3 : Int32) (v4 : Int32) (H : Heap) (locs : List Loc) (ls : Array Slot), va_P D vwCl (wC y a s5) H → va_S (AC a 37 s.heap.size) s.heap H locs → lv_has ls 8 [(0, .ref (a 7)), (1, .int v1), (2, .int v2), (6, .int v3)] → mX4_theoremFits_48 s5 v1 v2 v3 v4 = some (r, τ) → W p l e (headSpec zX4_theoremFits ({ frames := 3, cells := 0, slots := 0, locals := 71 })).room s m ([.ref (a 7), .int p1, .int p2, .int p3, .int p4] : List Value).toArray below meth c H locs 0 0 (MQ below (va_Qi (fun r' u => r' = r ∧ u = τ) (posW (wC y a) D) (AC a 37 s.heap.size)) ([.ref (a 7), .int p1, .int p2, .int p3, .int p4] : List Value).toArray s 0 0 (AC a 37 s.heap.size)) (F0 m 48 ls [.int v4]) := by
    intro s5 v1 v2 v3 v4 H locs ls hP hS hl hm
    unfold mX4_theoremFits_48 at hm
    refine lv_istore (lv' := [(7, .int v4), (0, .ref (a 7)), (1, .int v1), (2, .int v2), (6, .int v3)]) hx hb dX4_theoremFits_48 hl (by decide) rfl (fun ls hl => ?_)
    refine lv_aload_n hx hb dX4_theoremFits_50 rfl (lv_at hl 1 rfl) ?_
    refine gfX4_theorems hx hb h_X4 hown hK hP l_f19 dX4_theoremFits_51 ?_
    refine lv_iload_n hx hb dX4_theoremFits_54 rfl (lv_at hl 3 rfl) ?_
    refine lv_iload_n hx hb dX4_theoremFits_55 rfl (lv_at hl 2 rfl) ?_
    refine lv_iload hx hb dX4_theoremFits_56 (lv_at hl 4 rfl) ?_
    refine lv_iload hx hb dX4_theoremFits_58 (lv_at hl 0 rfl) ?_
    obtain ⟨⟨r6, s8⟩, h7, hm⟩ := ok_bind hm
    refine calV_i (As := [.int v2, .int v1, .int v3, .int v4]) (rest := []) ⟨hx, hb, hml, hown, hts⟩ (kX6_saysWithPremises l D y a t hI _ s5 s8 v2 v1 v3 v4 r6 h7) (cwV 4 hts (gAV aM_X4_90 aI_X6_saysWithPremises aS_X6_saysWithPremises aN_X6 aC_X6_saysWithPremises) rfl rfl rfl eX6_saysWithPremises ⟨Nat.le_of_ble_eq_true rfl, Nat.le_of_ble_eq_true rfl⟩) (preV_W (ci := 6) (q := (RX6, TX6, 9)) hK hP hF hS rfl (wC_4 y a s5)) rfl hl.1 rfl (Nat.le_of_ble_eq_true rfl) dX4_theoremFits_60 ⟨Nat.zero_le _, Nat.zero_le _⟩ hS (AC_le hS.1) (fun H locs hP hS hk1 => ?_)
    obtain ⟨hz, hm⟩ := ok_Z hm
    exact W.zret (v := r6) hx hb hr hz (fun T hT hW => ⟨⟨r6, s8, rfl, ⟨congrArg Prod.fst (Option.some.inj hm), congrArg Prod.snd (Option.some.inj hm)⟩, by rw [posW, hT]; exact hP⟩, hS.F hT⟩) hS.2.2 dX4_theoremFits_63
  have L_27 : ∀ (s14 : St) (v9 : Int32) (v10 : Int32) (v11 : Int32) (v12 : Int32) (v13 : Int32) (H : Heap) (locs : List Loc) (ls : Array Slot), va_P D vwCl (wC y a s14) H → va_S (AC a 37 s.heap.size) s.heap H locs → lv_has ls 8 [(0, .ref (a 7)), (1, .int v9), (2, .int v10), (4, .int v11), (5, .int v12)] → mX4_theoremFits_27 s14 v9 v10 v11 v12 v13 = some (r, τ) → W p l e (headSpec zX4_theoremFits ({ frames := 3, cells := 0, slots := 0, locals := 71 })).room s m ([.ref (a 7), .int p1, .int p2, .int p3, .int p4] : List Value).toArray below meth c H locs 0 0 (MQ below (va_Qi (fun r' u => r' = r ∧ u = τ) (posW (wC y a) D) (AC a 37 s.heap.size)) ([.ref (a 7), .int p1, .int p2, .int p3, .int p4] : List Value).toArray s 0 0 (AC a 37 s.heap.size)) (F0 m 27 ls [.int v13]) := by
    intro s14 v9 v10 v11 v12 v13 H locs ls hP hS hl hm
    unfold mX4_theoremFits_27 at hm
    refine lv_istore (lv' := [(6, .int v13), (0, .ref (a 7)), (1, .int v9), (2, .int v10), (4, .int v11), (5, .int v12)]) hx hb dX4_theoremFits_27 hl (by decide) rfl (fun ls hl => ?_)
    refine lv_iload hx hb dX4_theoremFits_29 (lv_at hl 5 rfl) ?_
    refine lv_iconst (v := 1) hx hb dX4_theoremFits_31 (by decide) ?_
    refine lv_icmp_le (tgt := 47) hx hb dX4_theoremFits_32 (by decide) (fun c15 => ?_) (fun c15 => ?_)
    · have hm := (if_pos c15).symm.trans hm
      refine lv_iconst (v := (-1)) hx hb dX4_theoremFits_47 (by decide) ?_
      exact L_48 s14 v9 v10 v13 (-1) _ _ _ hP hS (lv_sub hl [1, 2, 3, 0] rfl) hm
    · have hm := (if_neg c15).symm.trans hm
      refine lv_aload_n hx hb dX4_theoremFits_35 rfl (lv_at hl 1 rfl) ?_
      refine gfX4_proof hx hb h_X4 hown hK hP l_f23 dX4_theoremFits_36 ?_
      refine lv_iload hx hb dX4_theoremFits_39 (lv_at hl 4 rfl) ?_
      obtain ⟨r16, h17, hm⟩ := ok_bind hm
      refine calV_i (As := [.int v11]) (rest := []) ⟨hx, hb, hml, hown, hts⟩ (kX3_formulaOf l D y a t hI _ s14 v11 r16 h17) (cwV 1 hts (gAV aM_X4_66 aI_X3_formulaOf aS_X3_formulaOf aN_X3 aC_X3_formulaOf) rfl rfl rfl eX3_formulaOf ⟨Nat.le_of_ble_eq_true rfl, Nat.le_of_ble_eq_true rfl⟩) (preV_W (ci := 3) (q := (RX3, TX3, 12)) hK hP hF hS rfl (wC_5 y a s14)) rfl hl.1 rfl (Nat.le_of_ble_eq_true rfl) dX4_theoremFits_41 ⟨Nat.zero_le _, Nat.zero_le _⟩ hS (AC_le hS.1) (fun H locs hP hS hk1 => ?_)
      refine lv_goto (tgt := 48) hx hb dX4_theoremFits_44 (by decide) ?_
      exact L_48 s14 v9 v10 v13 r16 _ _ _ hP hS (lv_sub hl [1, 2, 3, 0] rfl) hm
  unfold mX4_theoremFits at hm
  refine lv_aload_n hx hb dX4_theoremFits_0 rfl (lv_at hl 0 rfl) ?_
  refine gfX4_theorems hx hb h_X4 hown hK hP l_f19 dX4_theoremFits_1 ?_
  refine lv_iload_n hx hb dX4_theoremFits_4 rfl (lv_at hl 2 rfl) ?_
  obtain ⟨r18, h19, hm⟩ := ok_bind hm
  refine calV_i (As := [.int p2]) (rest := []) ⟨hx, hb, hml, hown, hts⟩ (kX6_premises l D y a t hI _ σ p2 r18 h19) (cwV 1 hts (gAV aM_X4_87 aI_X6_premises aS_X6_premises aN_X6 aC_X6_premises) rfl rfl rfl eX6_premises ⟨Nat.le_of_ble_eq_true rfl, Nat.le_of_ble_eq_true rfl⟩) (preV_W (ci := 6) (q := (RX6, TX6, 9)) hK hP hF hS rfl (wC_4 y a σ)) rfl hl.1 rfl (Nat.le_of_ble_eq_true rfl) dX4_theoremFits_5 ⟨Nat.zero_le _, Nat.zero_le _⟩ hS (AC_le hS.1) (fun H locs hP hS hk1 => ?_)
  refine lv_istore (lv' := [(5, .int r18), (0, .ref (a 7)), (1, .int p1), (2, .int p2), (3, .int p3), (4, .int p4)]) hx hb dX4_theoremFits_8 hl (by decide) rfl (fun ls hl => ?_)
  refine lv_iload hx hb dX4_theoremFits_10 (lv_at hl 0 rfl) ?_
  refine lv_if_le (tgt := 26) hx hb dX4_theoremFits_12 (by decide) (fun c20 => ?_) (fun c20 => ?_)
  · have hm := (if_pos c20).symm.trans hm
    refine lv_iconst (v := (-1)) hx hb dX4_theoremFits_26 (by decide) ?_
    exact L_27 σ p1 p2 p4 r18 (-1) _ _ _ hP hS (lv_sub hl [1, 2, 3, 5, 0] rfl) hm
  · have hm := (if_neg c20).symm.trans hm
    refine lv_aload_n hx hb dX4_theoremFits_15 rfl (lv_at hl 1 rfl) ?_
    refine gfX4_proof hx hb h_X4 hown hK hP l_f23 dX4_theoremFits_16 ?_
    refine lv_iload_n hx hb dX4_theoremFits_19 rfl (lv_at hl 4 rfl) ?_
    obtain ⟨r21, h22, hm⟩ := ok_bind hm
    refine calV_i (As := [.int p3]) (rest := []) ⟨hx, hb, hml, hown, hts⟩ (kX3_formulaOf l D y a t hI _ σ p3 r21 h22) (cwV 1 hts (gAV aM_X4_66 aI_X3_formulaOf aS_X3_formulaOf aN_X3 aC_X3_formulaOf) rfl rfl rfl eX3_formulaOf ⟨Nat.le_of_ble_eq_true rfl, Nat.le_of_ble_eq_true rfl⟩) (preV_W (ci := 3) (q := (RX3, TX3, 12)) hK hP hF hS rfl (wC_5 y a σ)) rfl hl.1 rfl (Nat.le_of_ble_eq_true rfl) dX4_theoremFits_20 ⟨Nat.zero_le _, Nat.zero_le _⟩ hS (AC_le hS.1) (fun H locs hP hS hk1 => ?_)
    refine lv_goto (tgt := 27) hx hb dX4_theoremFits_23 (by decide) ?_
    exact L_27 σ p1 p2 p4 r18 r21 _ _ _ hP hS (lv_sub hl [1, 2, 3, 5, 0] rfl) hm
theorem eX4_firstFits : yX4_firstFits.cls = RX4 ∧ yX4_firstFits.cls ≠ "java/lang/invoke/MethodHandle" ∧ yX4_firstFits.cls ≠ "java/lang/invoke/VarHandle" ∧ (parseMethodDescriptor yX4_firstFits.desc).map (fun d => d.parameters.length) = some 3 := by decide +kernel
def mX4_firstFits (σ : St) (p1 : Int32) (p2 : Int32) (p3 : Int32) : Option Int32 :=
(mX1_sort σ p2).bind fun r1 =>
(mX3_formulaOf σ p3).bind fun r3 =>
if p1 = 0 then (
if r3 = p2 then (
some 1)
else (
some 0))
else (
if p1 = 1 then (
if r1 = 3 then (
(mX1_left σ p2).bind fun r9 =>
if r9 = r3 then (
some 1)
else (
some 0))
else (
some 0))
else (
if p1 = 2 then (
(mX1_left σ r3).bind fun r13 =>
if r13 = p2 then (
some 1)
else (
some 0))
else (
if p1 = 3 then (
(mX1_second σ r3).bind fun r17 =>
if r17 = p2 then (
some 1)
else (
some 0))
else (
if p1 = 4 then (
if r1 = 4 then (
(mX1_left σ p2).bind fun r22 =>
if r22 = r3 then (
some 1)
else (
some 0))
else (
some 0))
else (
if p1 = 5 then (
if r1 = 4 then (
(mX1_second σ p2).bind fun r27 =>
if r27 = r3 then (
some 1)
else (
some 0))
else (
some 0))
else (
if p1 = 6 then (
some 1)
else (
if p1 = 7 then (
if r1 = 5 then (
(mX1_left σ p2).bind fun r33 =>
(mX3_beginOf σ p3).bind fun r35 =>
if r33 = r35 then (
(mX1_second σ p2).bind fun r38 =>
(mX3_endOf σ p3).bind fun r40 =>
if r38 = r40 then (
some 1)
else (
some 0))
else (
some 0))
else (
some 0))
else (
if p1 = 8 then (
(mX1_second σ r3).bind fun r44 =>
if r44 = p2 then (
some 1)
else (
some 0))
else (
if p1 = 9 then (
if r1 = 2 then (
(mX1_left σ p2).bind fun r49 =>
(mX3_beginOf σ p3).bind fun r51 =>
if r49 = r51 then (
some 1)
else (
some 0))
else (
some 0))
else (
if p1 = 10 then (
if r1 = 1 then (
some 1)
else (
some 0))
else (
if p1 = 11 then (
some 1)
else (
if p1 = 12 then (
(mX1_left σ r3).bind fun r58 =>
(mX1_left σ r58).bind fun r60 =>
if r60 = p2 then (
some 1)
else (
some 0))
else (
some 1)))))))))))))
set_option maxHeartbeats 4000000 in
set_option maxRecDepth 100000 in
theorem kX4_firstFits (l : Launch) (D : va_G) (y : Nat → ClassId) (a t : Nat → Nat) (hI : AI a 37) (sz : Nat) (σ : St) (p1 : Int32) (p2 : Int32) (p3 : Int32) (r : Int32) (hm : mX4_firstFits σ p1 p2 p3 = some r) : Met l yX4_firstFits zX4_firstFits { frames := 2, cells := 0, slots := 0, locals := 42 } (va_Pc [.ref (a 7), .int p1, .int p2, .int p3] (preW (wC y a) a 37 D y t σ sz)) (va_Qi (fun r' u => r' = r ∧ u = σ) (posW (wC y a) D) (AC a 37 sz)) 0 0 (AC a 37 sz) := by
  refine Met.ofW (cc := cX4_firstFits) (maxL := 6) (ret := (some .boolean)) (by decide) rfl ?_
  intro p e s m args below meth c s₁ B hml hv
  obtain ⟨rfl, hsz, hP, hK, hF⟩ := hv
  have hx := B.exec
  have hb := B.bytes
  have hr := B.returns
  have hts := atoms_spec (ws := zX4_firstFits) B.pre
  have hown : s.vm.findClass RX4 = some m.cls := findClass_of_methodNamed B.named
  have hlocks := B.notSynchronized
  subst hsz
  have l_f15 := hts _ (List.mem_cons_of_mem _ aF_X4_15)
  have l_f23 := hts _ (List.mem_cons_of_mem _ aF_X4_23)
  have h_X4 : ∀ w ∈ wsX40, w.before _ s = true := fun w hw => hts w (List.mem_cons_of_mem _ (hwX4 w hw))
  have hS : va_S (AC a 37 s.heap.size) s.heap s.heap [] := va_S.rf
  have hl := lv_entry ([.ref (a 7), .int p1, .int p2, .int p3]) (n := 6) (Nat.le_of_ble_eq_true rfl)
  rw [lg_entry_eq]
  generalize (lg_sl ([.ref (a 7), .int p1, .int p2, .int p3]) ++ List.replicate (6 - (lg_sl ([.ref (a 7), .int p1, .int p2, .int p3])).length) Slot.unset).toArray = ls at hl ⊢
  have hl : lv_has ls 6 [(0, .ref (a 7)), (1, .int p1), (2, .int p2), (3, .int p3)] := hl
  unfold mX4_firstFits at hm
  refine lv_aload_n hx hb dX4_firstFits_0 rfl (lv_at hl 0 rfl) ?_
  refine gfX4_formulas hx hb h_X4 hown hK hP l_f15 dX4_firstFits_1 ?_
  refine lv_iload_n hx hb dX4_firstFits_4 rfl (lv_at hl 2 rfl) ?_
  obtain ⟨r1, h2, hm⟩ := ok_bind hm
  refine calV_i (As := [.int p2]) (rest := []) ⟨hx, hb, hml, hown, hts⟩ (kX1_sort l D y a t hI _ σ p2 r1 h2) (cwV 1 hts (gAV aM_X4_70 aI_X1_sort aS_X1_sort aN_X1 aC_X1_sort) rfl rfl rfl eX1_sort ⟨Nat.le_of_ble_eq_true rfl, Nat.le_of_ble_eq_true rfl⟩) (preV_W (ci := 1) (q := (RX1, TX1, 8)) hK hP hF hS rfl (wC_1 y a σ)) rfl hl.1 rfl (Nat.le_of_ble_eq_true rfl) dX4_firstFits_5 ⟨Nat.zero_le _, Nat.zero_le _⟩ hS (AC_le hS.1) (fun H locs hP hS hk1 => ?_)
  refine lv_istore (lv' := [(4, .int r1), (0, .ref (a 7)), (1, .int p1), (2, .int p2), (3, .int p3)]) hx hb dX4_firstFits_8 hl (by decide) rfl (fun ls hl => ?_)
  refine lv_aload_n hx hb dX4_firstFits_10 rfl (lv_at hl 1 rfl) ?_
  refine gfX4_proof hx hb h_X4 hown hK hP l_f23 dX4_firstFits_11 ?_
  refine lv_iload_n hx hb dX4_firstFits_14 rfl (lv_at hl 4 rfl) ?_
  obtain ⟨r3, h4, hm⟩ := ok_bind hm
  refine calV_i (As := [.int p3]) (rest := []) ⟨hx, hb, hml, hown, hts⟩ (kX3_formulaOf l D y a t hI _ σ p3 r3 h4) (cwV 1 hts (gAV aM_X4_66 aI_X3_formulaOf aS_X3_formulaOf aN_X3 aC_X3_formulaOf) rfl rfl rfl eX3_formulaOf ⟨Nat.le_of_ble_eq_true rfl, Nat.le_of_ble_eq_true rfl⟩) (preV_W (ci := 3) (q := (RX3, TX3, 12)) hK hP hF hS rfl (wC_5 y a σ)) rfl hl.1 rfl (Nat.le_of_ble_eq_true rfl) dX4_firstFits_15 ⟨Nat.zero_le _, Nat.zero_le _⟩ hS (AC_le hS.1) (fun H locs hP hS hk1 => ?_)
  refine lv_istore (lv' := [(5, .int r3), (4, .int r1), (0, .ref (a 7)), (1, .int p1), (2, .int p2), (3, .int p3)]) hx hb dX4_firstFits_18 hl (by decide) rfl (fun ls hl => ?_)
  refine lv_iload_n hx hb dX4_firstFits_20 rfl (lv_at hl 3 rfl) ?_
  by_cases c5 : p1 = 0
  · have hm := (if_pos c5).symm.trans hm
    refine lv_tableIn (tgt := 88) hx hb dX4_firstFits_21 (by rw [c5]; decide) (by rw [c5]; decide) (by rw [c5]; rfl) (by decide) ?_
    refine lv_iload hx hb dX4_firstFits_88 (lv_at hl 0 rfl) ?_
    refine lv_iload_n hx hb dX4_firstFits_90 rfl (lv_at hl 4 rfl) ?_
    refine lv_icmp_ne (tgt := 98) hx hb dX4_firstFits_91 (by decide) (fun c6 => ?_) (fun c6 => ?_)
    · have hm := (if_neg c6).symm.trans hm
      refine lv_iconst (v := 0) hx hb dX4_firstFits_98 (by decide) ?_
      exact W.zret (v := 0) hx hb hr rfl (fun T hT hW => ⟨⟨0, σ, rfl, ⟨Option.some.inj hm, rfl⟩, by rw [posW, hT]; exact hP⟩, hS.F hT⟩) hS.2.2 dX4_firstFits_99
    · have hm := (if_pos c6).symm.trans hm
      refine lv_iconst (v := 1) hx hb dX4_firstFits_94 (by decide) ?_
      refine lv_goto (tgt := 99) hx hb dX4_firstFits_95 (by decide) ?_
      exact W.zret (v := 1) hx hb hr rfl (fun T hT hW => ⟨⟨1, σ, rfl, ⟨Option.some.inj hm, rfl⟩, by rw [posW, hT]; exact hP⟩, hS.F hT⟩) hS.2.2 dX4_firstFits_99
  · have hm := (if_neg c5).symm.trans hm
    have sc5 := sw_ne (k := 0) c5 rfl
    by_cases c7 : p1 = 1
    · have hm := (if_pos c7).symm.trans hm
      refine lv_tableIn (tgt := 100) hx hb dX4_firstFits_21 (by rw [c7]; decide) (by rw [c7]; decide) (by rw [c7]; rfl) (by decide) ?_
      refine lv_iload hx hb dX4_firstFits_100 (lv_at hl 1 rfl) ?_
      refine lv_iconst (v := 3) hx hb dX4_firstFits_102 (by decide) ?_
      refine lv_icmp_ne (tgt := 123) hx hb dX4_firstFits_103 (by decide) (fun c8 => ?_) (fun c8 => ?_)
      · have hm := (if_neg c8).symm.trans hm
        refine lv_iconst (v := 0) hx hb dX4_firstFits_123 (by decide) ?_
        exact W.zret (v := 0) hx hb hr rfl (fun T hT hW => ⟨⟨0, σ, rfl, ⟨Option.some.inj hm, rfl⟩, by rw [posW, hT]; exact hP⟩, hS.F hT⟩) hS.2.2 dX4_firstFits_124
      · have hm := (if_pos c8).symm.trans hm
        refine lv_aload_n hx hb dX4_firstFits_106 rfl (lv_at hl 2 rfl) ?_
        refine gfX4_formulas hx hb h_X4 hown hK hP l_f15 dX4_firstFits_107 ?_
        refine lv_iload_n hx hb dX4_firstFits_110 rfl (lv_at hl 4 rfl) ?_
        obtain ⟨r9, h10, hm⟩ := ok_bind hm
        refine calV_i (As := [.int p2]) (rest := []) ⟨hx, hb, hml, hown, hts⟩ (kX1_left l D y a t hI _ σ p2 r9 h10) (cwV 1 hts (gAV aM_X4_78 aI_X1_left aS_X1_left aN_X1 aC_X1_left) rfl rfl rfl eX1_left ⟨Nat.le_of_ble_eq_true rfl, Nat.le_of_ble_eq_true rfl⟩) (preV_W (ci := 1) (q := (RX1, TX1, 8)) hK hP hF hS rfl (wC_1 y a σ)) rfl hl.1 rfl (Nat.le_of_ble_eq_true rfl) dX4_firstFits_111 ⟨Nat.zero_le _, Nat.zero_le _⟩ hS (AC_le hS.1) (fun H locs hP hS hk1 => ?_)
        refine lv_iload hx hb dX4_firstFits_114 (lv_at hl 0 rfl) ?_
        refine lv_icmp_ne (tgt := 123) hx hb dX4_firstFits_116 (by decide) (fun c11 => ?_) (fun c11 => ?_)
        · have hm := (if_neg c11).symm.trans hm
          refine lv_iconst (v := 0) hx hb dX4_firstFits_123 (by decide) ?_
          exact W.zret (v := 0) hx hb hr rfl (fun T hT hW => ⟨⟨0, σ, rfl, ⟨Option.some.inj hm, rfl⟩, by rw [posW, hT]; exact hP⟩, hS.F hT⟩) hS.2.2 dX4_firstFits_124
        · have hm := (if_pos c11).symm.trans hm
          refine lv_iconst (v := 1) hx hb dX4_firstFits_119 (by decide) ?_
          refine lv_goto (tgt := 124) hx hb dX4_firstFits_120 (by decide) ?_
          exact W.zret (v := 1) hx hb hr rfl (fun T hT hW => ⟨⟨1, σ, rfl, ⟨Option.some.inj hm, rfl⟩, by rw [posW, hT]; exact hP⟩, hS.F hT⟩) hS.2.2 dX4_firstFits_124
    · have hm := (if_neg c7).symm.trans hm
      have sc7 := sw_ne (k := 1) c7 rfl
      by_cases c12 : p1 = 2
      · have hm := (if_pos c12).symm.trans hm
        refine lv_tableIn (tgt := 125) hx hb dX4_firstFits_21 (by rw [c12]; decide) (by rw [c12]; decide) (by rw [c12]; rfl) (by decide) ?_
        refine lv_aload_n hx hb dX4_firstFits_125 rfl (lv_at hl 2 rfl) ?_
        refine gfX4_formulas hx hb h_X4 hown hK hP l_f15 dX4_firstFits_126 ?_
        refine lv_iload hx hb dX4_firstFits_129 (lv_at hl 0 rfl) ?_
        obtain ⟨r13, h14, hm⟩ := ok_bind hm
        refine calV_i (As := [.int r3]) (rest := []) ⟨hx, hb, hml, hown, hts⟩ (kX1_left l D y a t hI _ σ r3 r13 h14) (cwV 1 hts (gAV aM_X4_78 aI_X1_left aS_X1_left aN_X1 aC_X1_left) rfl rfl rfl eX1_left ⟨Nat.le_of_ble_eq_true rfl, Nat.le_of_ble_eq_true rfl⟩) (preV_W (ci := 1) (q := (RX1, TX1, 8)) hK hP hF hS rfl (wC_1 y a σ)) rfl hl.1 rfl (Nat.le_of_ble_eq_true rfl) dX4_firstFits_131 ⟨Nat.zero_le _, Nat.zero_le _⟩ hS (AC_le hS.1) (fun H locs hP hS hk1 => ?_)
        refine lv_iload_n hx hb dX4_firstFits_134 rfl (lv_at hl 4 rfl) ?_
        refine lv_icmp_ne (tgt := 142) hx hb dX4_firstFits_135 (by decide) (fun c15 => ?_) (fun c15 => ?_)
        · have hm := (if_neg c15).symm.trans hm
          refine lv_iconst (v := 0) hx hb dX4_firstFits_142 (by decide) ?_
          exact W.zret (v := 0) hx hb hr rfl (fun T hT hW => ⟨⟨0, σ, rfl, ⟨Option.some.inj hm, rfl⟩, by rw [posW, hT]; exact hP⟩, hS.F hT⟩) hS.2.2 dX4_firstFits_143
        · have hm := (if_pos c15).symm.trans hm
          refine lv_iconst (v := 1) hx hb dX4_firstFits_138 (by decide) ?_
          refine lv_goto (tgt := 143) hx hb dX4_firstFits_139 (by decide) ?_
          exact W.zret (v := 1) hx hb hr rfl (fun T hT hW => ⟨⟨1, σ, rfl, ⟨Option.some.inj hm, rfl⟩, by rw [posW, hT]; exact hP⟩, hS.F hT⟩) hS.2.2 dX4_firstFits_143
      · have hm := (if_neg c12).symm.trans hm
        have sc12 := sw_ne (k := 2) c12 rfl
        by_cases c16 : p1 = 3
        · have hm := (if_pos c16).symm.trans hm
          refine lv_tableIn (tgt := 144) hx hb dX4_firstFits_21 (by rw [c16]; decide) (by rw [c16]; decide) (by rw [c16]; rfl) (by decide) ?_
          refine lv_aload_n hx hb dX4_firstFits_144 rfl (lv_at hl 2 rfl) ?_
          refine gfX4_formulas hx hb h_X4 hown hK hP l_f15 dX4_firstFits_145 ?_
          refine lv_iload hx hb dX4_firstFits_148 (lv_at hl 0 rfl) ?_
          obtain ⟨r17, h18, hm⟩ := ok_bind hm
          refine calV_i (As := [.int r3]) (rest := []) ⟨hx, hb, hml, hown, hts⟩ (kX1_second l D y a t hI _ σ r3 r17 h18) (cwV 1 hts (gAV aM_X4_81 aI_X1_second aS_X1_second aN_X1 aC_X1_second) rfl rfl rfl eX1_second ⟨Nat.le_of_ble_eq_true rfl, Nat.le_of_ble_eq_true rfl⟩) (preV_W (ci := 1) (q := (RX1, TX1, 8)) hK hP hF hS rfl (wC_1 y a σ)) rfl hl.1 rfl (Nat.le_of_ble_eq_true rfl) dX4_firstFits_150 ⟨Nat.zero_le _, Nat.zero_le _⟩ hS (AC_le hS.1) (fun H locs hP hS hk1 => ?_)
          refine lv_iload_n hx hb dX4_firstFits_153 rfl (lv_at hl 4 rfl) ?_
          refine lv_icmp_ne (tgt := 161) hx hb dX4_firstFits_154 (by decide) (fun c19 => ?_) (fun c19 => ?_)
          · have hm := (if_neg c19).symm.trans hm
            refine lv_iconst (v := 0) hx hb dX4_firstFits_161 (by decide) ?_
            exact W.zret (v := 0) hx hb hr rfl (fun T hT hW => ⟨⟨0, σ, rfl, ⟨Option.some.inj hm, rfl⟩, by rw [posW, hT]; exact hP⟩, hS.F hT⟩) hS.2.2 dX4_firstFits_162
          · have hm := (if_pos c19).symm.trans hm
            refine lv_iconst (v := 1) hx hb dX4_firstFits_157 (by decide) ?_
            refine lv_goto (tgt := 162) hx hb dX4_firstFits_158 (by decide) ?_
            exact W.zret (v := 1) hx hb hr rfl (fun T hT hW => ⟨⟨1, σ, rfl, ⟨Option.some.inj hm, rfl⟩, by rw [posW, hT]; exact hP⟩, hS.F hT⟩) hS.2.2 dX4_firstFits_162
        · have hm := (if_neg c16).symm.trans hm
          have sc16 := sw_ne (k := 3) c16 rfl
          by_cases c20 : p1 = 4
          · have hm := (if_pos c20).symm.trans hm
            refine lv_tableIn (tgt := 163) hx hb dX4_firstFits_21 (by rw [c20]; decide) (by rw [c20]; decide) (by rw [c20]; rfl) (by decide) ?_
            refine lv_iload hx hb dX4_firstFits_163 (lv_at hl 1 rfl) ?_
            refine lv_iconst (v := 4) hx hb dX4_firstFits_165 (by decide) ?_
            refine lv_icmp_ne (tgt := 186) hx hb dX4_firstFits_166 (by decide) (fun c21 => ?_) (fun c21 => ?_)
            · have hm := (if_neg c21).symm.trans hm
              refine lv_iconst (v := 0) hx hb dX4_firstFits_186 (by decide) ?_
              exact W.zret (v := 0) hx hb hr rfl (fun T hT hW => ⟨⟨0, σ, rfl, ⟨Option.some.inj hm, rfl⟩, by rw [posW, hT]; exact hP⟩, hS.F hT⟩) hS.2.2 dX4_firstFits_187
            · have hm := (if_pos c21).symm.trans hm
              refine lv_aload_n hx hb dX4_firstFits_169 rfl (lv_at hl 2 rfl) ?_
              refine gfX4_formulas hx hb h_X4 hown hK hP l_f15 dX4_firstFits_170 ?_
              refine lv_iload_n hx hb dX4_firstFits_173 rfl (lv_at hl 4 rfl) ?_
              obtain ⟨r22, h23, hm⟩ := ok_bind hm
              refine calV_i (As := [.int p2]) (rest := []) ⟨hx, hb, hml, hown, hts⟩ (kX1_left l D y a t hI _ σ p2 r22 h23) (cwV 1 hts (gAV aM_X4_78 aI_X1_left aS_X1_left aN_X1 aC_X1_left) rfl rfl rfl eX1_left ⟨Nat.le_of_ble_eq_true rfl, Nat.le_of_ble_eq_true rfl⟩) (preV_W (ci := 1) (q := (RX1, TX1, 8)) hK hP hF hS rfl (wC_1 y a σ)) rfl hl.1 rfl (Nat.le_of_ble_eq_true rfl) dX4_firstFits_174 ⟨Nat.zero_le _, Nat.zero_le _⟩ hS (AC_le hS.1) (fun H locs hP hS hk1 => ?_)
              refine lv_iload hx hb dX4_firstFits_177 (lv_at hl 0 rfl) ?_
              refine lv_icmp_ne (tgt := 186) hx hb dX4_firstFits_179 (by decide) (fun c24 => ?_) (fun c24 => ?_)
              · have hm := (if_neg c24).symm.trans hm
                refine lv_iconst (v := 0) hx hb dX4_firstFits_186 (by decide) ?_
                exact W.zret (v := 0) hx hb hr rfl (fun T hT hW => ⟨⟨0, σ, rfl, ⟨Option.some.inj hm, rfl⟩, by rw [posW, hT]; exact hP⟩, hS.F hT⟩) hS.2.2 dX4_firstFits_187
              · have hm := (if_pos c24).symm.trans hm
                refine lv_iconst (v := 1) hx hb dX4_firstFits_182 (by decide) ?_
                refine lv_goto (tgt := 187) hx hb dX4_firstFits_183 (by decide) ?_
                exact W.zret (v := 1) hx hb hr rfl (fun T hT hW => ⟨⟨1, σ, rfl, ⟨Option.some.inj hm, rfl⟩, by rw [posW, hT]; exact hP⟩, hS.F hT⟩) hS.2.2 dX4_firstFits_187
          · have hm := (if_neg c20).symm.trans hm
            have sc20 := sw_ne (k := 4) c20 rfl
            by_cases c25 : p1 = 5
            · have hm := (if_pos c25).symm.trans hm
              refine lv_tableIn (tgt := 188) hx hb dX4_firstFits_21 (by rw [c25]; decide) (by rw [c25]; decide) (by rw [c25]; rfl) (by decide) ?_
              refine lv_iload hx hb dX4_firstFits_188 (lv_at hl 1 rfl) ?_
              refine lv_iconst (v := 4) hx hb dX4_firstFits_190 (by decide) ?_
              refine lv_icmp_ne (tgt := 211) hx hb dX4_firstFits_191 (by decide) (fun c26 => ?_) (fun c26 => ?_)
              · have hm := (if_neg c26).symm.trans hm
                refine lv_iconst (v := 0) hx hb dX4_firstFits_211 (by decide) ?_
                exact W.zret (v := 0) hx hb hr rfl (fun T hT hW => ⟨⟨0, σ, rfl, ⟨Option.some.inj hm, rfl⟩, by rw [posW, hT]; exact hP⟩, hS.F hT⟩) hS.2.2 dX4_firstFits_212
              · have hm := (if_pos c26).symm.trans hm
                refine lv_aload_n hx hb dX4_firstFits_194 rfl (lv_at hl 2 rfl) ?_
                refine gfX4_formulas hx hb h_X4 hown hK hP l_f15 dX4_firstFits_195 ?_
                refine lv_iload_n hx hb dX4_firstFits_198 rfl (lv_at hl 4 rfl) ?_
                obtain ⟨r27, h28, hm⟩ := ok_bind hm
                refine calV_i (As := [.int p2]) (rest := []) ⟨hx, hb, hml, hown, hts⟩ (kX1_second l D y a t hI _ σ p2 r27 h28) (cwV 1 hts (gAV aM_X4_81 aI_X1_second aS_X1_second aN_X1 aC_X1_second) rfl rfl rfl eX1_second ⟨Nat.le_of_ble_eq_true rfl, Nat.le_of_ble_eq_true rfl⟩) (preV_W (ci := 1) (q := (RX1, TX1, 8)) hK hP hF hS rfl (wC_1 y a σ)) rfl hl.1 rfl (Nat.le_of_ble_eq_true rfl) dX4_firstFits_199 ⟨Nat.zero_le _, Nat.zero_le _⟩ hS (AC_le hS.1) (fun H locs hP hS hk1 => ?_)
                refine lv_iload hx hb dX4_firstFits_202 (lv_at hl 0 rfl) ?_
                refine lv_icmp_ne (tgt := 211) hx hb dX4_firstFits_204 (by decide) (fun c29 => ?_) (fun c29 => ?_)
                · have hm := (if_neg c29).symm.trans hm
                  refine lv_iconst (v := 0) hx hb dX4_firstFits_211 (by decide) ?_
                  exact W.zret (v := 0) hx hb hr rfl (fun T hT hW => ⟨⟨0, σ, rfl, ⟨Option.some.inj hm, rfl⟩, by rw [posW, hT]; exact hP⟩, hS.F hT⟩) hS.2.2 dX4_firstFits_212
                · have hm := (if_pos c29).symm.trans hm
                  refine lv_iconst (v := 1) hx hb dX4_firstFits_207 (by decide) ?_
                  refine lv_goto (tgt := 212) hx hb dX4_firstFits_208 (by decide) ?_
                  exact W.zret (v := 1) hx hb hr rfl (fun T hT hW => ⟨⟨1, σ, rfl, ⟨Option.some.inj hm, rfl⟩, by rw [posW, hT]; exact hP⟩, hS.F hT⟩) hS.2.2 dX4_firstFits_212
            · have hm := (if_neg c25).symm.trans hm
              have sc25 := sw_ne (k := 5) c25 rfl
              by_cases c30 : p1 = 6
              · have hm := (if_pos c30).symm.trans hm
                refine lv_tableIn (tgt := 332) hx hb dX4_firstFits_21 (by rw [c30]; decide) (by rw [c30]; decide) (by rw [c30]; rfl) (by decide) ?_
                refine lv_iconst (v := 1) hx hb dX4_firstFits_332 (by decide) ?_
                exact W.zret (v := 1) hx hb hr rfl (fun T hT hW => ⟨⟨1, σ, rfl, ⟨Option.some.inj hm, rfl⟩, by rw [posW, hT]; exact hP⟩, hS.F hT⟩) hS.2.2 dX4_firstFits_333
              · have hm := (if_neg c30).symm.trans hm
                have sc30 := sw_ne (k := 6) c30 rfl
                by_cases c31 : p1 = 7
                · have hm := (if_pos c31).symm.trans hm
                  refine lv_tableIn (tgt := 213) hx hb dX4_firstFits_21 (by rw [c31]; decide) (by rw [c31]; decide) (by rw [c31]; rfl) (by decide) ?_
                  refine lv_iload hx hb dX4_firstFits_213 (lv_at hl 1 rfl) ?_
                  refine lv_iconst (v := 5) hx hb dX4_firstFits_215 (by decide) ?_
                  refine lv_icmp_ne (tgt := 261) hx hb dX4_firstFits_216 (by decide) (fun c32 => ?_) (fun c32 => ?_)
                  · have hm := (if_neg c32).symm.trans hm
                    refine lv_iconst (v := 0) hx hb dX4_firstFits_261 (by decide) ?_
                    exact W.zret (v := 0) hx hb hr rfl (fun T hT hW => ⟨⟨0, σ, rfl, ⟨Option.some.inj hm, rfl⟩, by rw [posW, hT]; exact hP⟩, hS.F hT⟩) hS.2.2 dX4_firstFits_262
                  · have hm := (if_pos c32).symm.trans hm
                    refine lv_aload_n hx hb dX4_firstFits_219 rfl (lv_at hl 2 rfl) ?_
                    refine gfX4_formulas hx hb h_X4 hown hK hP l_f15 dX4_firstFits_220 ?_
                    refine lv_iload_n hx hb dX4_firstFits_223 rfl (lv_at hl 4 rfl) ?_
                    obtain ⟨r33, h34, hm⟩ := ok_bind hm
                    refine calV_i (As := [.int p2]) (rest := []) ⟨hx, hb, hml, hown, hts⟩ (kX1_left l D y a t hI _ σ p2 r33 h34) (cwV 1 hts (gAV aM_X4_78 aI_X1_left aS_X1_left aN_X1 aC_X1_left) rfl rfl rfl eX1_left ⟨Nat.le_of_ble_eq_true rfl, Nat.le_of_ble_eq_true rfl⟩) (preV_W (ci := 1) (q := (RX1, TX1, 8)) hK hP hF hS rfl (wC_1 y a σ)) rfl hl.1 rfl (Nat.le_of_ble_eq_true rfl) dX4_firstFits_224 ⟨Nat.zero_le _, Nat.zero_le _⟩ hS (AC_le hS.1) (fun H locs hP hS hk1 => ?_)
                    refine lv_aload_n hx hb dX4_firstFits_227 rfl (lv_at hl 2 rfl) ?_
                    refine gfX4_proof hx hb h_X4 hown hK hP l_f23 dX4_firstFits_228 ?_
                    refine lv_iload_n hx hb dX4_firstFits_231 rfl (lv_at hl 5 rfl) ?_
                    obtain ⟨r35, h36, hm⟩ := ok_bind hm
                    refine calV_i (As := [.int p3]) (rest := [.int r33]) ⟨hx, hb, hml, hown, hts⟩ (kX3_beginOf l D y a t hI _ σ p3 r35 h36) (cwV 1 hts (gAV aM_X4_84 aI_X3_beginOf aS_X3_beginOf aN_X3 aC_X3_beginOf) rfl rfl rfl eX3_beginOf ⟨Nat.le_of_ble_eq_true rfl, Nat.le_of_ble_eq_true rfl⟩) (preV_W (ci := 3) (q := (RX3, TX3, 12)) hK hP hF hS rfl (wC_5 y a σ)) rfl hl.1 rfl (Nat.le_of_ble_eq_true rfl) dX4_firstFits_232 ⟨Nat.zero_le _, Nat.zero_le _⟩ hS (AC_le hS.1) (fun H locs hP hS hk1 => ?_)
                    refine lv_icmp_ne (tgt := 261) hx hb dX4_firstFits_235 (by decide) (fun c37 => ?_) (fun c37 => ?_)
                    · have hm := (if_neg c37).symm.trans hm
                      refine lv_iconst (v := 0) hx hb dX4_firstFits_261 (by decide) ?_
                      exact W.zret (v := 0) hx hb hr rfl (fun T hT hW => ⟨⟨0, σ, rfl, ⟨Option.some.inj hm, rfl⟩, by rw [posW, hT]; exact hP⟩, hS.F hT⟩) hS.2.2 dX4_firstFits_262
                    · have hm := (if_pos c37).symm.trans hm
                      refine lv_aload_n hx hb dX4_firstFits_238 rfl (lv_at hl 2 rfl) ?_
                      refine gfX4_formulas hx hb h_X4 hown hK hP l_f15 dX4_firstFits_239 ?_
                      refine lv_iload_n hx hb dX4_firstFits_242 rfl (lv_at hl 4 rfl) ?_
                      obtain ⟨r38, h39, hm⟩ := ok_bind hm
                      refine calV_i (As := [.int p2]) (rest := []) ⟨hx, hb, hml, hown, hts⟩ (kX1_second l D y a t hI _ σ p2 r38 h39) (cwV 1 hts (gAV aM_X4_81 aI_X1_second aS_X1_second aN_X1 aC_X1_second) rfl rfl rfl eX1_second ⟨Nat.le_of_ble_eq_true rfl, Nat.le_of_ble_eq_true rfl⟩) (preV_W (ci := 1) (q := (RX1, TX1, 8)) hK hP hF hS rfl (wC_1 y a σ)) rfl hl.1 rfl (Nat.le_of_ble_eq_true rfl) dX4_firstFits_243 ⟨Nat.zero_le _, Nat.zero_le _⟩ hS (AC_le hS.1) (fun H locs hP hS hk1 => ?_)
                      refine lv_aload_n hx hb dX4_firstFits_246 rfl (lv_at hl 2 rfl) ?_
                      refine gfX4_proof hx hb h_X4 hown hK hP l_f23 dX4_firstFits_247 ?_
                      refine lv_iload_n hx hb dX4_firstFits_250 rfl (lv_at hl 5 rfl) ?_
                      obtain ⟨r40, h41, hm⟩ := ok_bind hm
                      refine calV_i (As := [.int p3]) (rest := [.int r38]) ⟨hx, hb, hml, hown, hts⟩ (kX3_endOf l D y a t hI _ σ p3 r40 h41) (cwV 1 hts (gAV aM_X4_75 aI_X3_endOf aS_X3_endOf aN_X3 aC_X3_endOf) rfl rfl rfl eX3_endOf ⟨Nat.le_of_ble_eq_true rfl, Nat.le_of_ble_eq_true rfl⟩) (preV_W (ci := 3) (q := (RX3, TX3, 12)) hK hP hF hS rfl (wC_5 y a σ)) rfl hl.1 rfl (Nat.le_of_ble_eq_true rfl) dX4_firstFits_251 ⟨Nat.zero_le _, Nat.zero_le _⟩ hS (AC_le hS.1) (fun H locs hP hS hk1 => ?_)
                      refine lv_icmp_ne (tgt := 261) hx hb dX4_firstFits_254 (by decide) (fun c42 => ?_) (fun c42 => ?_)
                      · have hm := (if_neg c42).symm.trans hm
                        refine lv_iconst (v := 0) hx hb dX4_firstFits_261 (by decide) ?_
                        exact W.zret (v := 0) hx hb hr rfl (fun T hT hW => ⟨⟨0, σ, rfl, ⟨Option.some.inj hm, rfl⟩, by rw [posW, hT]; exact hP⟩, hS.F hT⟩) hS.2.2 dX4_firstFits_262
                      · have hm := (if_pos c42).symm.trans hm
                        refine lv_iconst (v := 1) hx hb dX4_firstFits_257 (by decide) ?_
                        refine lv_goto (tgt := 262) hx hb dX4_firstFits_258 (by decide) ?_
                        exact W.zret (v := 1) hx hb hr rfl (fun T hT hW => ⟨⟨1, σ, rfl, ⟨Option.some.inj hm, rfl⟩, by rw [posW, hT]; exact hP⟩, hS.F hT⟩) hS.2.2 dX4_firstFits_262
                · have hm := (if_neg c31).symm.trans hm
                  have sc31 := sw_ne (k := 7) c31 rfl
                  by_cases c43 : p1 = 8
                  · have hm := (if_pos c43).symm.trans hm
                    refine lv_tableIn (tgt := 144) hx hb dX4_firstFits_21 (by rw [c43]; decide) (by rw [c43]; decide) (by rw [c43]; rfl) (by decide) ?_
                    refine lv_aload_n hx hb dX4_firstFits_144 rfl (lv_at hl 2 rfl) ?_
                    refine gfX4_formulas hx hb h_X4 hown hK hP l_f15 dX4_firstFits_145 ?_
                    refine lv_iload hx hb dX4_firstFits_148 (lv_at hl 0 rfl) ?_
                    obtain ⟨r44, h45, hm⟩ := ok_bind hm
                    refine calV_i (As := [.int r3]) (rest := []) ⟨hx, hb, hml, hown, hts⟩ (kX1_second l D y a t hI _ σ r3 r44 h45) (cwV 1 hts (gAV aM_X4_81 aI_X1_second aS_X1_second aN_X1 aC_X1_second) rfl rfl rfl eX1_second ⟨Nat.le_of_ble_eq_true rfl, Nat.le_of_ble_eq_true rfl⟩) (preV_W (ci := 1) (q := (RX1, TX1, 8)) hK hP hF hS rfl (wC_1 y a σ)) rfl hl.1 rfl (Nat.le_of_ble_eq_true rfl) dX4_firstFits_150 ⟨Nat.zero_le _, Nat.zero_le _⟩ hS (AC_le hS.1) (fun H locs hP hS hk1 => ?_)
                    refine lv_iload_n hx hb dX4_firstFits_153 rfl (lv_at hl 4 rfl) ?_
                    refine lv_icmp_ne (tgt := 161) hx hb dX4_firstFits_154 (by decide) (fun c46 => ?_) (fun c46 => ?_)
                    · have hm := (if_neg c46).symm.trans hm
                      refine lv_iconst (v := 0) hx hb dX4_firstFits_161 (by decide) ?_
                      exact W.zret (v := 0) hx hb hr rfl (fun T hT hW => ⟨⟨0, σ, rfl, ⟨Option.some.inj hm, rfl⟩, by rw [posW, hT]; exact hP⟩, hS.F hT⟩) hS.2.2 dX4_firstFits_162
                    · have hm := (if_pos c46).symm.trans hm
                      refine lv_iconst (v := 1) hx hb dX4_firstFits_157 (by decide) ?_
                      refine lv_goto (tgt := 162) hx hb dX4_firstFits_158 (by decide) ?_
                      exact W.zret (v := 1) hx hb hr rfl (fun T hT hW => ⟨⟨1, σ, rfl, ⟨Option.some.inj hm, rfl⟩, by rw [posW, hT]; exact hP⟩, hS.F hT⟩) hS.2.2 dX4_firstFits_162
                  · have hm := (if_neg c43).symm.trans hm
                    have sc43 := sw_ne (k := 8) c43 rfl
                    by_cases c47 : p1 = 9
                    · have hm := (if_pos c47).symm.trans hm
                      refine lv_tableIn (tgt := 263) hx hb dX4_firstFits_21 (by rw [c47]; decide) (by rw [c47]; decide) (by rw [c47]; rfl) (by decide) ?_
                      refine lv_iload hx hb dX4_firstFits_263 (lv_at hl 1 rfl) ?_
                      refine lv_iconst (v := 2) hx hb dX4_firstFits_265 (by decide) ?_
                      refine lv_icmp_ne (tgt := 292) hx hb dX4_firstFits_266 (by decide) (fun c48 => ?_) (fun c48 => ?_)
                      · have hm := (if_neg c48).symm.trans hm
                        refine lv_iconst (v := 0) hx hb dX4_firstFits_292 (by decide) ?_
                        exact W.zret (v := 0) hx hb hr rfl (fun T hT hW => ⟨⟨0, σ, rfl, ⟨Option.some.inj hm, rfl⟩, by rw [posW, hT]; exact hP⟩, hS.F hT⟩) hS.2.2 dX4_firstFits_293
                      · have hm := (if_pos c48).symm.trans hm
                        refine lv_aload_n hx hb dX4_firstFits_269 rfl (lv_at hl 2 rfl) ?_
                        refine gfX4_formulas hx hb h_X4 hown hK hP l_f15 dX4_firstFits_270 ?_
                        refine lv_iload_n hx hb dX4_firstFits_273 rfl (lv_at hl 4 rfl) ?_
                        obtain ⟨r49, h50, hm⟩ := ok_bind hm
                        refine calV_i (As := [.int p2]) (rest := []) ⟨hx, hb, hml, hown, hts⟩ (kX1_left l D y a t hI _ σ p2 r49 h50) (cwV 1 hts (gAV aM_X4_78 aI_X1_left aS_X1_left aN_X1 aC_X1_left) rfl rfl rfl eX1_left ⟨Nat.le_of_ble_eq_true rfl, Nat.le_of_ble_eq_true rfl⟩) (preV_W (ci := 1) (q := (RX1, TX1, 8)) hK hP hF hS rfl (wC_1 y a σ)) rfl hl.1 rfl (Nat.le_of_ble_eq_true rfl) dX4_firstFits_274 ⟨Nat.zero_le _, Nat.zero_le _⟩ hS (AC_le hS.1) (fun H locs hP hS hk1 => ?_)
                        refine lv_aload_n hx hb dX4_firstFits_277 rfl (lv_at hl 2 rfl) ?_
                        refine gfX4_proof hx hb h_X4 hown hK hP l_f23 dX4_firstFits_278 ?_
                        refine lv_iload_n hx hb dX4_firstFits_281 rfl (lv_at hl 5 rfl) ?_
                        obtain ⟨r51, h52, hm⟩ := ok_bind hm
                        refine calV_i (As := [.int p3]) (rest := [.int r49]) ⟨hx, hb, hml, hown, hts⟩ (kX3_beginOf l D y a t hI _ σ p3 r51 h52) (cwV 1 hts (gAV aM_X4_84 aI_X3_beginOf aS_X3_beginOf aN_X3 aC_X3_beginOf) rfl rfl rfl eX3_beginOf ⟨Nat.le_of_ble_eq_true rfl, Nat.le_of_ble_eq_true rfl⟩) (preV_W (ci := 3) (q := (RX3, TX3, 12)) hK hP hF hS rfl (wC_5 y a σ)) rfl hl.1 rfl (Nat.le_of_ble_eq_true rfl) dX4_firstFits_282 ⟨Nat.zero_le _, Nat.zero_le _⟩ hS (AC_le hS.1) (fun H locs hP hS hk1 => ?_)
                        refine lv_icmp_ne (tgt := 292) hx hb dX4_firstFits_285 (by decide) (fun c53 => ?_) (fun c53 => ?_)
                        · have hm := (if_neg c53).symm.trans hm
                          refine lv_iconst (v := 0) hx hb dX4_firstFits_292 (by decide) ?_
                          exact W.zret (v := 0) hx hb hr rfl (fun T hT hW => ⟨⟨0, σ, rfl, ⟨Option.some.inj hm, rfl⟩, by rw [posW, hT]; exact hP⟩, hS.F hT⟩) hS.2.2 dX4_firstFits_293
                        · have hm := (if_pos c53).symm.trans hm
                          refine lv_iconst (v := 1) hx hb dX4_firstFits_288 (by decide) ?_
                          refine lv_goto (tgt := 293) hx hb dX4_firstFits_289 (by decide) ?_
                          exact W.zret (v := 1) hx hb hr rfl (fun T hT hW => ⟨⟨1, σ, rfl, ⟨Option.some.inj hm, rfl⟩, by rw [posW, hT]; exact hP⟩, hS.F hT⟩) hS.2.2 dX4_firstFits_293
                    · have hm := (if_neg c47).symm.trans hm
                      have sc47 := sw_ne (k := 9) c47 rfl
                      by_cases c54 : p1 = 10
                      · have hm := (if_pos c54).symm.trans hm
                        refine lv_tableIn (tgt := 294) hx hb dX4_firstFits_21 (by rw [c54]; decide) (by rw [c54]; decide) (by rw [c54]; rfl) (by decide) ?_
                        refine lv_iload hx hb dX4_firstFits_294 (lv_at hl 1 rfl) ?_
                        refine lv_iconst (v := 1) hx hb dX4_firstFits_296 (by decide) ?_
                        refine lv_icmp_ne (tgt := 304) hx hb dX4_firstFits_297 (by decide) (fun c55 => ?_) (fun c55 => ?_)
                        · have hm := (if_neg c55).symm.trans hm
                          refine lv_iconst (v := 0) hx hb dX4_firstFits_304 (by decide) ?_
                          exact W.zret (v := 0) hx hb hr rfl (fun T hT hW => ⟨⟨0, σ, rfl, ⟨Option.some.inj hm, rfl⟩, by rw [posW, hT]; exact hP⟩, hS.F hT⟩) hS.2.2 dX4_firstFits_305
                        · have hm := (if_pos c55).symm.trans hm
                          refine lv_iconst (v := 1) hx hb dX4_firstFits_300 (by decide) ?_
                          refine lv_goto (tgt := 305) hx hb dX4_firstFits_301 (by decide) ?_
                          exact W.zret (v := 1) hx hb hr rfl (fun T hT hW => ⟨⟨1, σ, rfl, ⟨Option.some.inj hm, rfl⟩, by rw [posW, hT]; exact hP⟩, hS.F hT⟩) hS.2.2 dX4_firstFits_305
                      · have hm := (if_neg c54).symm.trans hm
                        have sc54 := sw_ne (k := 10) c54 rfl
                        by_cases c56 : p1 = 11
                        · have hm := (if_pos c56).symm.trans hm
                          refine lv_tableIn (tgt := 332) hx hb dX4_firstFits_21 (by rw [c56]; decide) (by rw [c56]; decide) (by rw [c56]; rfl) (by decide) ?_
                          refine lv_iconst (v := 1) hx hb dX4_firstFits_332 (by decide) ?_
                          exact W.zret (v := 1) hx hb hr rfl (fun T hT hW => ⟨⟨1, σ, rfl, ⟨Option.some.inj hm, rfl⟩, by rw [posW, hT]; exact hP⟩, hS.F hT⟩) hS.2.2 dX4_firstFits_333
                        · have hm := (if_neg c56).symm.trans hm
                          have sc56 := sw_ne (k := 11) c56 rfl
                          by_cases c57 : p1 = 12
                          · have hm := (if_pos c57).symm.trans hm
                            refine lv_tableIn (tgt := 306) hx hb dX4_firstFits_21 (by rw [c57]; decide) (by rw [c57]; decide) (by rw [c57]; rfl) (by decide) ?_
                            refine lv_aload_n hx hb dX4_firstFits_306 rfl (lv_at hl 2 rfl) ?_
                            refine gfX4_formulas hx hb h_X4 hown hK hP l_f15 dX4_firstFits_307 ?_
                            refine lv_aload_n hx hb dX4_firstFits_310 rfl (lv_at hl 2 rfl) ?_
                            refine gfX4_formulas hx hb h_X4 hown hK hP l_f15 dX4_firstFits_311 ?_
                            refine lv_iload hx hb dX4_firstFits_314 (lv_at hl 0 rfl) ?_
                            obtain ⟨r58, h59, hm⟩ := ok_bind hm
                            refine calV_i (As := [.int r3]) (rest := [.ref (a 1)]) ⟨hx, hb, hml, hown, hts⟩ (kX1_left l D y a t hI _ σ r3 r58 h59) (cwV 1 hts (gAV aM_X4_78 aI_X1_left aS_X1_left aN_X1 aC_X1_left) rfl rfl rfl eX1_left ⟨Nat.le_of_ble_eq_true rfl, Nat.le_of_ble_eq_true rfl⟩) (preV_W (ci := 1) (q := (RX1, TX1, 8)) hK hP hF hS rfl (wC_1 y a σ)) rfl hl.1 rfl (Nat.le_of_ble_eq_true rfl) dX4_firstFits_316 ⟨Nat.zero_le _, Nat.zero_le _⟩ hS (AC_le hS.1) (fun H locs hP hS hk1 => ?_)
                            obtain ⟨r60, h61, hm⟩ := ok_bind hm
                            refine calV_i (As := [.int r58]) (rest := []) ⟨hx, hb, hml, hown, hts⟩ (kX1_left l D y a t hI _ σ r58 r60 h61) (cwV 1 hts (gAV aM_X4_78 aI_X1_left aS_X1_left aN_X1 aC_X1_left) rfl rfl rfl eX1_left ⟨Nat.le_of_ble_eq_true rfl, Nat.le_of_ble_eq_true rfl⟩) (preV_W (ci := 1) (q := (RX1, TX1, 8)) hK hP hF hS rfl (wC_1 y a σ)) rfl hl.1 rfl (Nat.le_of_ble_eq_true rfl) dX4_firstFits_319 ⟨Nat.zero_le _, Nat.zero_le _⟩ hS (AC_le hS.1) (fun H locs hP hS hk1 => ?_)
                            refine lv_iload_n hx hb dX4_firstFits_322 rfl (lv_at hl 4 rfl) ?_
                            refine lv_icmp_ne (tgt := 330) hx hb dX4_firstFits_323 (by decide) (fun c62 => ?_) (fun c62 => ?_)
                            · have hm := (if_neg c62).symm.trans hm
                              refine lv_iconst (v := 0) hx hb dX4_firstFits_330 (by decide) ?_
                              exact W.zret (v := 0) hx hb hr rfl (fun T hT hW => ⟨⟨0, σ, rfl, ⟨Option.some.inj hm, rfl⟩, by rw [posW, hT]; exact hP⟩, hS.F hT⟩) hS.2.2 dX4_firstFits_331
                            · have hm := (if_pos c62).symm.trans hm
                              refine lv_iconst (v := 1) hx hb dX4_firstFits_326 (by decide) ?_
                              refine lv_goto (tgt := 331) hx hb dX4_firstFits_327 (by decide) ?_
                              exact W.zret (v := 1) hx hb hr rfl (fun T hT hW => ⟨⟨1, σ, rfl, ⟨Option.some.inj hm, rfl⟩, by rw [posW, hT]; exact hP⟩, hS.F hT⟩) hS.2.2 dX4_firstFits_331
                          · have hm := (if_neg c57).symm.trans hm
                            have sc57 := sw_ne (k := 12) c57 rfl
                            refine lv_tableOut (tgt := 332) hx hb dX4_firstFits_21 (by omega) (by decide) ?_
                            refine lv_iconst (v := 1) hx hb dX4_firstFits_332 (by decide) ?_
                            exact W.zret (v := 1) hx hb hr rfl (fun T hT hW => ⟨⟨1, σ, rfl, ⟨Option.some.inj hm, rfl⟩, by rw [posW, hT]; exact hP⟩, hS.F hT⟩) hS.2.2 dX4_firstFits_333
theorem eX4_secondFits : yX4_secondFits.cls = RX4 ∧ yX4_secondFits.cls ≠ "java/lang/invoke/MethodHandle" ∧ yX4_secondFits.cls ≠ "java/lang/invoke/VarHandle" ∧ (parseMethodDescriptor yX4_secondFits.desc).map (fun d => d.parameters.length) = some 4 := by decide +kernel
def mX4_secondFits (σ : St) (p1 : Int32) (p2 : Int32) (p3 : Int32) (p4 : Int32) : Option Int32 :=
if p1 = 1 then (
(mX1_second σ p2).bind fun r2 =>
(mX3_formulaOf σ p4).bind fun r4 =>
if r2 = r4 then (
some 1)
else (
some 0))
else (
if p1 = 2 then (
some 1)
else (
if p1 = 3 then (
some 1)
else (
if p1 = 4 then (
some 1)
else (
if p1 = 5 then (
some 1)
else (
if p1 = 6 then (
(mX3_beginOf σ p4).bind fun r12 =>
(mX3_formulaOf σ p3).bind fun r14 =>
(mX1_left σ r14).bind fun r16 =>
if r12 = r16 then (
(mX3_endOf σ p4).bind fun r19 =>
if r19 = p2 then (
some 1)
else (
some 0))
else (
some 0))
else (
if p1 = 7 then (
some 1)
else (
if p1 = 8 then (
(mX3_formulaOf σ p4).bind fun r24 =>
(mX3_formulaOf σ p3).bind fun r26 =>
(mX1_left σ r26).bind fun r28 =>
if r24 = r28 then (
some 1)
else (
some 0))
else (
if p1 = 9 then (
some 1)
else (
if p1 = 10 then (
(mX3_formulaOf σ p4).bind fun r33 =>
(mX1_left σ r33).bind fun r35 =>
(mX3_formulaOf σ p3).bind fun r37 =>
if r35 = r37 then (
some 1)
else (
some 0))
else (
some 1))))))))))
set_option maxHeartbeats 4000000 in
set_option maxRecDepth 100000 in
theorem kX4_secondFits (l : Launch) (D : va_G) (y : Nat → ClassId) (a t : Nat → Nat) (hI : AI a 37) (sz : Nat) (σ : St) (p1 : Int32) (p2 : Int32) (p3 : Int32) (p4 : Int32) (r : Int32) (hm : mX4_secondFits σ p1 p2 p3 p4 = some r) : Met l yX4_secondFits zX4_secondFits { frames := 2, cells := 0, slots := 0, locals := 42 } (va_Pc [.ref (a 7), .int p1, .int p2, .int p3, .int p4] (preW (wC y a) a 37 D y t σ sz)) (va_Qi (fun r' u => r' = r ∧ u = σ) (posW (wC y a) D) (AC a 37 sz)) 0 0 (AC a 37 sz) := by
  refine Met.ofW (cc := cX4_secondFits) (maxL := 5) (ret := (some .boolean)) (by decide) rfl ?_
  intro p e s m args below meth c s₁ B hml hv
  obtain ⟨rfl, hsz, hP, hK, hF⟩ := hv
  have hx := B.exec
  have hb := B.bytes
  have hr := B.returns
  have hts := atoms_spec (ws := zX4_secondFits) B.pre
  have hown : s.vm.findClass RX4 = some m.cls := findClass_of_methodNamed B.named
  have hlocks := B.notSynchronized
  subst hsz
  have l_f15 := hts _ (List.mem_cons_of_mem _ aF_X4_15)
  have l_f23 := hts _ (List.mem_cons_of_mem _ aF_X4_23)
  have h_X4 : ∀ w ∈ wsX40, w.before _ s = true := fun w hw => hts w (List.mem_cons_of_mem _ (hwX4 w hw))
  have hS : va_S (AC a 37 s.heap.size) s.heap s.heap [] := va_S.rf
  have hl := lv_entry ([.ref (a 7), .int p1, .int p2, .int p3, .int p4]) (n := 5) (Nat.le_of_ble_eq_true rfl)
  rw [lg_entry_eq]
  generalize (lg_sl ([.ref (a 7), .int p1, .int p2, .int p3, .int p4]) ++ List.replicate (5 - (lg_sl ([.ref (a 7), .int p1, .int p2, .int p3, .int p4])).length) Slot.unset).toArray = ls at hl ⊢
  have hl : lv_has ls 5 [(0, .ref (a 7)), (1, .int p1), (2, .int p2), (3, .int p3), (4, .int p4)] := hl
  unfold mX4_secondFits at hm
  refine lv_iload_n hx hb dX4_secondFits_0 rfl (lv_at hl 1 rfl) ?_
  by_cases c1 : p1 = 1
  · have hm := (if_pos c1).symm.trans hm
    refine lv_tableIn (tgt := 56) hx hb dX4_secondFits_1 (by rw [c1]; decide) (by rw [c1]; decide) (by rw [c1]; rfl) (by decide) ?_
    refine lv_aload_n hx hb dX4_secondFits_56 rfl (lv_at hl 0 rfl) ?_
    refine gfX4_formulas hx hb h_X4 hown hK hP l_f15 dX4_secondFits_57 ?_
    refine lv_iload_n hx hb dX4_secondFits_60 rfl (lv_at hl 2 rfl) ?_
    obtain ⟨r2, h3, hm⟩ := ok_bind hm
    refine calV_i (As := [.int p2]) (rest := []) ⟨hx, hb, hml, hown, hts⟩ (kX1_second l D y a t hI _ σ p2 r2 h3) (cwV 1 hts (gAV aM_X4_81 aI_X1_second aS_X1_second aN_X1 aC_X1_second) rfl rfl rfl eX1_second ⟨Nat.le_of_ble_eq_true rfl, Nat.le_of_ble_eq_true rfl⟩) (preV_W (ci := 1) (q := (RX1, TX1, 8)) hK hP hF hS rfl (wC_1 y a σ)) rfl hl.1 rfl (Nat.le_of_ble_eq_true rfl) dX4_secondFits_61 ⟨Nat.zero_le _, Nat.zero_le _⟩ hS (AC_le hS.1) (fun H locs hP hS hk1 => ?_)
    refine lv_aload_n hx hb dX4_secondFits_64 rfl (lv_at hl 0 rfl) ?_
    refine gfX4_proof hx hb h_X4 hown hK hP l_f23 dX4_secondFits_65 ?_
    refine lv_iload hx hb dX4_secondFits_68 (lv_at hl 4 rfl) ?_
    obtain ⟨r4, h5, hm⟩ := ok_bind hm
    refine calV_i (As := [.int p4]) (rest := [.int r2]) ⟨hx, hb, hml, hown, hts⟩ (kX3_formulaOf l D y a t hI _ σ p4 r4 h5) (cwV 1 hts (gAV aM_X4_66 aI_X3_formulaOf aS_X3_formulaOf aN_X3 aC_X3_formulaOf) rfl rfl rfl eX3_formulaOf ⟨Nat.le_of_ble_eq_true rfl, Nat.le_of_ble_eq_true rfl⟩) (preV_W (ci := 3) (q := (RX3, TX3, 12)) hK hP hF hS rfl (wC_5 y a σ)) rfl hl.1 rfl (Nat.le_of_ble_eq_true rfl) dX4_secondFits_70 ⟨Nat.zero_le _, Nat.zero_le _⟩ hS (AC_le hS.1) (fun H locs hP hS hk1 => ?_)
    refine lv_icmp_ne (tgt := 80) hx hb dX4_secondFits_73 (by decide) (fun c6 => ?_) (fun c6 => ?_)
    · have hm := (if_neg c6).symm.trans hm
      refine lv_iconst (v := 0) hx hb dX4_secondFits_80 (by decide) ?_
      exact W.zret (v := 0) hx hb hr rfl (fun T hT hW => ⟨⟨0, σ, rfl, ⟨Option.some.inj hm, rfl⟩, by rw [posW, hT]; exact hP⟩, hS.F hT⟩) hS.2.2 dX4_secondFits_81
    · have hm := (if_pos c6).symm.trans hm
      refine lv_iconst (v := 1) hx hb dX4_secondFits_76 (by decide) ?_
      refine lv_goto (tgt := 81) hx hb dX4_secondFits_77 (by decide) ?_
      exact W.zret (v := 1) hx hb hr rfl (fun T hT hW => ⟨⟨1, σ, rfl, ⟨Option.some.inj hm, rfl⟩, by rw [posW, hT]; exact hP⟩, hS.F hT⟩) hS.2.2 dX4_secondFits_81
  · have hm := (if_neg c1).symm.trans hm
    have sc1 := sw_ne (k := 1) c1 rfl
    by_cases c7 : p1 = 2
    · have hm := (if_pos c7).symm.trans hm
      refine lv_tableIn (tgt := 194) hx hb dX4_secondFits_1 (by rw [c7]; decide) (by rw [c7]; decide) (by rw [c7]; rfl) (by decide) ?_
      refine lv_iconst (v := 1) hx hb dX4_secondFits_194 (by decide) ?_
      exact W.zret (v := 1) hx hb hr rfl (fun T hT hW => ⟨⟨1, σ, rfl, ⟨Option.some.inj hm, rfl⟩, by rw [posW, hT]; exact hP⟩, hS.F hT⟩) hS.2.2 dX4_secondFits_195
    · have hm := (if_neg c7).symm.trans hm
      have sc7 := sw_ne (k := 2) c7 rfl
      by_cases c8 : p1 = 3
      · have hm := (if_pos c8).symm.trans hm
        refine lv_tableIn (tgt := 194) hx hb dX4_secondFits_1 (by rw [c8]; decide) (by rw [c8]; decide) (by rw [c8]; rfl) (by decide) ?_
        refine lv_iconst (v := 1) hx hb dX4_secondFits_194 (by decide) ?_
        exact W.zret (v := 1) hx hb hr rfl (fun T hT hW => ⟨⟨1, σ, rfl, ⟨Option.some.inj hm, rfl⟩, by rw [posW, hT]; exact hP⟩, hS.F hT⟩) hS.2.2 dX4_secondFits_195
      · have hm := (if_neg c8).symm.trans hm
        have sc8 := sw_ne (k := 3) c8 rfl
        by_cases c9 : p1 = 4
        · have hm := (if_pos c9).symm.trans hm
          refine lv_tableIn (tgt := 194) hx hb dX4_secondFits_1 (by rw [c9]; decide) (by rw [c9]; decide) (by rw [c9]; rfl) (by decide) ?_
          refine lv_iconst (v := 1) hx hb dX4_secondFits_194 (by decide) ?_
          exact W.zret (v := 1) hx hb hr rfl (fun T hT hW => ⟨⟨1, σ, rfl, ⟨Option.some.inj hm, rfl⟩, by rw [posW, hT]; exact hP⟩, hS.F hT⟩) hS.2.2 dX4_secondFits_195
        · have hm := (if_neg c9).symm.trans hm
          have sc9 := sw_ne (k := 4) c9 rfl
          by_cases c10 : p1 = 5
          · have hm := (if_pos c10).symm.trans hm
            refine lv_tableIn (tgt := 194) hx hb dX4_secondFits_1 (by rw [c10]; decide) (by rw [c10]; decide) (by rw [c10]; rfl) (by decide) ?_
            refine lv_iconst (v := 1) hx hb dX4_secondFits_194 (by decide) ?_
            exact W.zret (v := 1) hx hb hr rfl (fun T hT hW => ⟨⟨1, σ, rfl, ⟨Option.some.inj hm, rfl⟩, by rw [posW, hT]; exact hP⟩, hS.F hT⟩) hS.2.2 dX4_secondFits_195
          · have hm := (if_neg c10).symm.trans hm
            have sc10 := sw_ne (k := 5) c10 rfl
            by_cases c11 : p1 = 6
            · have hm := (if_pos c11).symm.trans hm
              refine lv_tableIn (tgt := 82) hx hb dX4_secondFits_1 (by rw [c11]; decide) (by rw [c11]; decide) (by rw [c11]; rfl) (by decide) ?_
              refine lv_aload_n hx hb dX4_secondFits_82 rfl (lv_at hl 0 rfl) ?_
              refine gfX4_proof hx hb h_X4 hown hK hP l_f23 dX4_secondFits_83 ?_
              refine lv_iload hx hb dX4_secondFits_86 (lv_at hl 4 rfl) ?_
              obtain ⟨r12, h13, hm⟩ := ok_bind hm
              refine calV_i (As := [.int p4]) (rest := []) ⟨hx, hb, hml, hown, hts⟩ (kX3_beginOf l D y a t hI _ σ p4 r12 h13) (cwV 1 hts (gAV aM_X4_84 aI_X3_beginOf aS_X3_beginOf aN_X3 aC_X3_beginOf) rfl rfl rfl eX3_beginOf ⟨Nat.le_of_ble_eq_true rfl, Nat.le_of_ble_eq_true rfl⟩) (preV_W (ci := 3) (q := (RX3, TX3, 12)) hK hP hF hS rfl (wC_5 y a σ)) rfl hl.1 rfl (Nat.le_of_ble_eq_true rfl) dX4_secondFits_88 ⟨Nat.zero_le _, Nat.zero_le _⟩ hS (AC_le hS.1) (fun H locs hP hS hk1 => ?_)
              refine lv_aload_n hx hb dX4_secondFits_91 rfl (lv_at hl 0 rfl) ?_
              refine gfX4_formulas hx hb h_X4 hown hK hP l_f15 dX4_secondFits_92 ?_
              refine lv_aload_n hx hb dX4_secondFits_95 rfl (lv_at hl 0 rfl) ?_
              refine gfX4_proof hx hb h_X4 hown hK hP l_f23 dX4_secondFits_96 ?_
              refine lv_iload_n hx hb dX4_secondFits_99 rfl (lv_at hl 3 rfl) ?_
              obtain ⟨r14, h15, hm⟩ := ok_bind hm
              refine calV_i (As := [.int p3]) (rest := [.ref (a 1), .int r12]) ⟨hx, hb, hml, hown, hts⟩ (kX3_formulaOf l D y a t hI _ σ p3 r14 h15) (cwV 1 hts (gAV aM_X4_66 aI_X3_formulaOf aS_X3_formulaOf aN_X3 aC_X3_formulaOf) rfl rfl rfl eX3_formulaOf ⟨Nat.le_of_ble_eq_true rfl, Nat.le_of_ble_eq_true rfl⟩) (preV_W (ci := 3) (q := (RX3, TX3, 12)) hK hP hF hS rfl (wC_5 y a σ)) rfl hl.1 rfl (Nat.le_of_ble_eq_true rfl) dX4_secondFits_100 ⟨Nat.zero_le _, Nat.zero_le _⟩ hS (AC_le hS.1) (fun H locs hP hS hk1 => ?_)
              obtain ⟨r16, h17, hm⟩ := ok_bind hm
              refine calV_i (As := [.int r14]) (rest := [.int r12]) ⟨hx, hb, hml, hown, hts⟩ (kX1_left l D y a t hI _ σ r14 r16 h17) (cwV 1 hts (gAV aM_X4_78 aI_X1_left aS_X1_left aN_X1 aC_X1_left) rfl rfl rfl eX1_left ⟨Nat.le_of_ble_eq_true rfl, Nat.le_of_ble_eq_true rfl⟩) (preV_W (ci := 1) (q := (RX1, TX1, 8)) hK hP hF hS rfl (wC_1 y a σ)) rfl hl.1 rfl (Nat.le_of_ble_eq_true rfl) dX4_secondFits_103 ⟨Nat.zero_le _, Nat.zero_le _⟩ hS (AC_le hS.1) (fun H locs hP hS hk1 => ?_)
              refine lv_icmp_ne (tgt := 126) hx hb dX4_secondFits_106 (by decide) (fun c18 => ?_) (fun c18 => ?_)
              · have hm := (if_neg c18).symm.trans hm
                refine lv_iconst (v := 0) hx hb dX4_secondFits_126 (by decide) ?_
                exact W.zret (v := 0) hx hb hr rfl (fun T hT hW => ⟨⟨0, σ, rfl, ⟨Option.some.inj hm, rfl⟩, by rw [posW, hT]; exact hP⟩, hS.F hT⟩) hS.2.2 dX4_secondFits_127
              · have hm := (if_pos c18).symm.trans hm
                refine lv_aload_n hx hb dX4_secondFits_109 rfl (lv_at hl 0 rfl) ?_
                refine gfX4_proof hx hb h_X4 hown hK hP l_f23 dX4_secondFits_110 ?_
                refine lv_iload hx hb dX4_secondFits_113 (lv_at hl 4 rfl) ?_
                obtain ⟨r19, h20, hm⟩ := ok_bind hm
                refine calV_i (As := [.int p4]) (rest := []) ⟨hx, hb, hml, hown, hts⟩ (kX3_endOf l D y a t hI _ σ p4 r19 h20) (cwV 1 hts (gAV aM_X4_75 aI_X3_endOf aS_X3_endOf aN_X3 aC_X3_endOf) rfl rfl rfl eX3_endOf ⟨Nat.le_of_ble_eq_true rfl, Nat.le_of_ble_eq_true rfl⟩) (preV_W (ci := 3) (q := (RX3, TX3, 12)) hK hP hF hS rfl (wC_5 y a σ)) rfl hl.1 rfl (Nat.le_of_ble_eq_true rfl) dX4_secondFits_115 ⟨Nat.zero_le _, Nat.zero_le _⟩ hS (AC_le hS.1) (fun H locs hP hS hk1 => ?_)
                refine lv_iload_n hx hb dX4_secondFits_118 rfl (lv_at hl 2 rfl) ?_
                refine lv_icmp_ne (tgt := 126) hx hb dX4_secondFits_119 (by decide) (fun c21 => ?_) (fun c21 => ?_)
                · have hm := (if_neg c21).symm.trans hm
                  refine lv_iconst (v := 0) hx hb dX4_secondFits_126 (by decide) ?_
                  exact W.zret (v := 0) hx hb hr rfl (fun T hT hW => ⟨⟨0, σ, rfl, ⟨Option.some.inj hm, rfl⟩, by rw [posW, hT]; exact hP⟩, hS.F hT⟩) hS.2.2 dX4_secondFits_127
                · have hm := (if_pos c21).symm.trans hm
                  refine lv_iconst (v := 1) hx hb dX4_secondFits_122 (by decide) ?_
                  refine lv_goto (tgt := 127) hx hb dX4_secondFits_123 (by decide) ?_
                  exact W.zret (v := 1) hx hb hr rfl (fun T hT hW => ⟨⟨1, σ, rfl, ⟨Option.some.inj hm, rfl⟩, by rw [posW, hT]; exact hP⟩, hS.F hT⟩) hS.2.2 dX4_secondFits_127
            · have hm := (if_neg c11).symm.trans hm
              have sc11 := sw_ne (k := 6) c11 rfl
              by_cases c22 : p1 = 7
              · have hm := (if_pos c22).symm.trans hm
                refine lv_tableIn (tgt := 194) hx hb dX4_secondFits_1 (by rw [c22]; decide) (by rw [c22]; decide) (by rw [c22]; rfl) (by decide) ?_
                refine lv_iconst (v := 1) hx hb dX4_secondFits_194 (by decide) ?_
                exact W.zret (v := 1) hx hb hr rfl (fun T hT hW => ⟨⟨1, σ, rfl, ⟨Option.some.inj hm, rfl⟩, by rw [posW, hT]; exact hP⟩, hS.F hT⟩) hS.2.2 dX4_secondFits_195
              · have hm := (if_neg c22).symm.trans hm
                have sc22 := sw_ne (k := 7) c22 rfl
                by_cases c23 : p1 = 8
                · have hm := (if_pos c23).symm.trans hm
                  refine lv_tableIn (tgt := 128) hx hb dX4_secondFits_1 (by rw [c23]; decide) (by rw [c23]; decide) (by rw [c23]; rfl) (by decide) ?_
                  refine lv_aload_n hx hb dX4_secondFits_128 rfl (lv_at hl 0 rfl) ?_
                  refine gfX4_proof hx hb h_X4 hown hK hP l_f23 dX4_secondFits_129 ?_
                  refine lv_iload hx hb dX4_secondFits_132 (lv_at hl 4 rfl) ?_
                  obtain ⟨r24, h25, hm⟩ := ok_bind hm
                  refine calV_i (As := [.int p4]) (rest := []) ⟨hx, hb, hml, hown, hts⟩ (kX3_formulaOf l D y a t hI _ σ p4 r24 h25) (cwV 1 hts (gAV aM_X4_66 aI_X3_formulaOf aS_X3_formulaOf aN_X3 aC_X3_formulaOf) rfl rfl rfl eX3_formulaOf ⟨Nat.le_of_ble_eq_true rfl, Nat.le_of_ble_eq_true rfl⟩) (preV_W (ci := 3) (q := (RX3, TX3, 12)) hK hP hF hS rfl (wC_5 y a σ)) rfl hl.1 rfl (Nat.le_of_ble_eq_true rfl) dX4_secondFits_134 ⟨Nat.zero_le _, Nat.zero_le _⟩ hS (AC_le hS.1) (fun H locs hP hS hk1 => ?_)
                  refine lv_aload_n hx hb dX4_secondFits_137 rfl (lv_at hl 0 rfl) ?_
                  refine gfX4_formulas hx hb h_X4 hown hK hP l_f15 dX4_secondFits_138 ?_
                  refine lv_aload_n hx hb dX4_secondFits_141 rfl (lv_at hl 0 rfl) ?_
                  refine gfX4_proof hx hb h_X4 hown hK hP l_f23 dX4_secondFits_142 ?_
                  refine lv_iload_n hx hb dX4_secondFits_145 rfl (lv_at hl 3 rfl) ?_
                  obtain ⟨r26, h27, hm⟩ := ok_bind hm
                  refine calV_i (As := [.int p3]) (rest := [.ref (a 1), .int r24]) ⟨hx, hb, hml, hown, hts⟩ (kX3_formulaOf l D y a t hI _ σ p3 r26 h27) (cwV 1 hts (gAV aM_X4_66 aI_X3_formulaOf aS_X3_formulaOf aN_X3 aC_X3_formulaOf) rfl rfl rfl eX3_formulaOf ⟨Nat.le_of_ble_eq_true rfl, Nat.le_of_ble_eq_true rfl⟩) (preV_W (ci := 3) (q := (RX3, TX3, 12)) hK hP hF hS rfl (wC_5 y a σ)) rfl hl.1 rfl (Nat.le_of_ble_eq_true rfl) dX4_secondFits_146 ⟨Nat.zero_le _, Nat.zero_le _⟩ hS (AC_le hS.1) (fun H locs hP hS hk1 => ?_)
                  obtain ⟨r28, h29, hm⟩ := ok_bind hm
                  refine calV_i (As := [.int r26]) (rest := [.int r24]) ⟨hx, hb, hml, hown, hts⟩ (kX1_left l D y a t hI _ σ r26 r28 h29) (cwV 1 hts (gAV aM_X4_78 aI_X1_left aS_X1_left aN_X1 aC_X1_left) rfl rfl rfl eX1_left ⟨Nat.le_of_ble_eq_true rfl, Nat.le_of_ble_eq_true rfl⟩) (preV_W (ci := 1) (q := (RX1, TX1, 8)) hK hP hF hS rfl (wC_1 y a σ)) rfl hl.1 rfl (Nat.le_of_ble_eq_true rfl) dX4_secondFits_149 ⟨Nat.zero_le _, Nat.zero_le _⟩ hS (AC_le hS.1) (fun H locs hP hS hk1 => ?_)
                  refine lv_icmp_ne (tgt := 159) hx hb dX4_secondFits_152 (by decide) (fun c30 => ?_) (fun c30 => ?_)
                  · have hm := (if_neg c30).symm.trans hm
                    refine lv_iconst (v := 0) hx hb dX4_secondFits_159 (by decide) ?_
                    exact W.zret (v := 0) hx hb hr rfl (fun T hT hW => ⟨⟨0, σ, rfl, ⟨Option.some.inj hm, rfl⟩, by rw [posW, hT]; exact hP⟩, hS.F hT⟩) hS.2.2 dX4_secondFits_160
                  · have hm := (if_pos c30).symm.trans hm
                    refine lv_iconst (v := 1) hx hb dX4_secondFits_155 (by decide) ?_
                    refine lv_goto (tgt := 160) hx hb dX4_secondFits_156 (by decide) ?_
                    exact W.zret (v := 1) hx hb hr rfl (fun T hT hW => ⟨⟨1, σ, rfl, ⟨Option.some.inj hm, rfl⟩, by rw [posW, hT]; exact hP⟩, hS.F hT⟩) hS.2.2 dX4_secondFits_160
                · have hm := (if_neg c23).symm.trans hm
                  have sc23 := sw_ne (k := 8) c23 rfl
                  by_cases c31 : p1 = 9
                  · have hm := (if_pos c31).symm.trans hm
                    refine lv_tableIn (tgt := 194) hx hb dX4_secondFits_1 (by rw [c31]; decide) (by rw [c31]; decide) (by rw [c31]; rfl) (by decide) ?_
                    refine lv_iconst (v := 1) hx hb dX4_secondFits_194 (by decide) ?_
                    exact W.zret (v := 1) hx hb hr rfl (fun T hT hW => ⟨⟨1, σ, rfl, ⟨Option.some.inj hm, rfl⟩, by rw [posW, hT]; exact hP⟩, hS.F hT⟩) hS.2.2 dX4_secondFits_195
                  · have hm := (if_neg c31).symm.trans hm
                    have sc31 := sw_ne (k := 9) c31 rfl
                    by_cases c32 : p1 = 10
                    · have hm := (if_pos c32).symm.trans hm
                      refine lv_tableIn (tgt := 161) hx hb dX4_secondFits_1 (by rw [c32]; decide) (by rw [c32]; decide) (by rw [c32]; rfl) (by decide) ?_
                      refine lv_aload_n hx hb dX4_secondFits_161 rfl (lv_at hl 0 rfl) ?_
                      refine gfX4_formulas hx hb h_X4 hown hK hP l_f15 dX4_secondFits_162 ?_
                      refine lv_aload_n hx hb dX4_secondFits_165 rfl (lv_at hl 0 rfl) ?_
                      refine gfX4_proof hx hb h_X4 hown hK hP l_f23 dX4_secondFits_166 ?_
                      refine lv_iload hx hb dX4_secondFits_169 (lv_at hl 4 rfl) ?_
                      obtain ⟨r33, h34, hm⟩ := ok_bind hm
                      refine calV_i (As := [.int p4]) (rest := [.ref (a 1)]) ⟨hx, hb, hml, hown, hts⟩ (kX3_formulaOf l D y a t hI _ σ p4 r33 h34) (cwV 1 hts (gAV aM_X4_66 aI_X3_formulaOf aS_X3_formulaOf aN_X3 aC_X3_formulaOf) rfl rfl rfl eX3_formulaOf ⟨Nat.le_of_ble_eq_true rfl, Nat.le_of_ble_eq_true rfl⟩) (preV_W (ci := 3) (q := (RX3, TX3, 12)) hK hP hF hS rfl (wC_5 y a σ)) rfl hl.1 rfl (Nat.le_of_ble_eq_true rfl) dX4_secondFits_171 ⟨Nat.zero_le _, Nat.zero_le _⟩ hS (AC_le hS.1) (fun H locs hP hS hk1 => ?_)
                      obtain ⟨r35, h36, hm⟩ := ok_bind hm
                      refine calV_i (As := [.int r33]) (rest := []) ⟨hx, hb, hml, hown, hts⟩ (kX1_left l D y a t hI _ σ r33 r35 h36) (cwV 1 hts (gAV aM_X4_78 aI_X1_left aS_X1_left aN_X1 aC_X1_left) rfl rfl rfl eX1_left ⟨Nat.le_of_ble_eq_true rfl, Nat.le_of_ble_eq_true rfl⟩) (preV_W (ci := 1) (q := (RX1, TX1, 8)) hK hP hF hS rfl (wC_1 y a σ)) rfl hl.1 rfl (Nat.le_of_ble_eq_true rfl) dX4_secondFits_174 ⟨Nat.zero_le _, Nat.zero_le _⟩ hS (AC_le hS.1) (fun H locs hP hS hk1 => ?_)
                      refine lv_aload_n hx hb dX4_secondFits_177 rfl (lv_at hl 0 rfl) ?_
                      refine gfX4_proof hx hb h_X4 hown hK hP l_f23 dX4_secondFits_178 ?_
                      refine lv_iload_n hx hb dX4_secondFits_181 rfl (lv_at hl 3 rfl) ?_
                      obtain ⟨r37, h38, hm⟩ := ok_bind hm
                      refine calV_i (As := [.int p3]) (rest := [.int r35]) ⟨hx, hb, hml, hown, hts⟩ (kX3_formulaOf l D y a t hI _ σ p3 r37 h38) (cwV 1 hts (gAV aM_X4_66 aI_X3_formulaOf aS_X3_formulaOf aN_X3 aC_X3_formulaOf) rfl rfl rfl eX3_formulaOf ⟨Nat.le_of_ble_eq_true rfl, Nat.le_of_ble_eq_true rfl⟩) (preV_W (ci := 3) (q := (RX3, TX3, 12)) hK hP hF hS rfl (wC_5 y a σ)) rfl hl.1 rfl (Nat.le_of_ble_eq_true rfl) dX4_secondFits_182 ⟨Nat.zero_le _, Nat.zero_le _⟩ hS (AC_le hS.1) (fun H locs hP hS hk1 => ?_)
                      refine lv_icmp_ne (tgt := 192) hx hb dX4_secondFits_185 (by decide) (fun c39 => ?_) (fun c39 => ?_)
                      · have hm := (if_neg c39).symm.trans hm
                        refine lv_iconst (v := 0) hx hb dX4_secondFits_192 (by decide) ?_
                        exact W.zret (v := 0) hx hb hr rfl (fun T hT hW => ⟨⟨0, σ, rfl, ⟨Option.some.inj hm, rfl⟩, by rw [posW, hT]; exact hP⟩, hS.F hT⟩) hS.2.2 dX4_secondFits_193
                      · have hm := (if_pos c39).symm.trans hm
                        refine lv_iconst (v := 1) hx hb dX4_secondFits_188 (by decide) ?_
                        refine lv_goto (tgt := 193) hx hb dX4_secondFits_189 (by decide) ?_
                        exact W.zret (v := 1) hx hb hr rfl (fun T hT hW => ⟨⟨1, σ, rfl, ⟨Option.some.inj hm, rfl⟩, by rw [posW, hT]; exact hP⟩, hS.F hT⟩) hS.2.2 dX4_secondFits_193
                    · have hm := (if_neg c32).symm.trans hm
                      have sc32 := sw_ne (k := 10) c32 rfl
                      refine lv_tableOut (tgt := 194) hx hb dX4_secondFits_1 (by omega) (by decide) ?_
                      refine lv_iconst (v := 1) hx hb dX4_secondFits_194 (by decide) ?_
                      exact W.zret (v := 1) hx hb hr rfl (fun T hT hW => ⟨⟨1, σ, rfl, ⟨Option.some.inj hm, rfl⟩, by rw [posW, hT]; exact hP⟩, hS.F hT⟩) hS.2.2 dX4_secondFits_195
theorem eX4_thirdFits : yX4_thirdFits.cls = RX4 ∧ yX4_thirdFits.cls ≠ "java/lang/invoke/MethodHandle" ∧ yX4_thirdFits.cls ≠ "java/lang/invoke/VarHandle" ∧ (parseMethodDescriptor yX4_thirdFits.desc).map (fun d => d.parameters.length) = some 4 := by decide +kernel
def mX4_thirdFits (σ : St) (p1 : Int32) (p2 : Int32) (p3 : Int32) (p4 : Int32) : Option Int32 :=
if p1 = 6 then (
(mX3_beginOf σ p4).bind fun r2 =>
(mX3_formulaOf σ p3).bind fun r4 =>
(mX1_second σ r4).bind fun r6 =>
if r2 = r6 then (
(mX3_endOf σ p4).bind fun r9 =>
if r9 = p2 then (
some 1)
else (
some 0))
else (
some 0))
else (
some 1)
set_option maxHeartbeats 4000000 in
set_option maxRecDepth 100000 in
theorem kX4_thirdFits (l : Launch) (D : va_G) (y : Nat → ClassId) (a t : Nat → Nat) (hI : AI a 37) (sz : Nat) (σ : St) (p1 : Int32) (p2 : Int32) (p3 : Int32) (p4 : Int32) (r : Int32) (hm : mX4_thirdFits σ p1 p2 p3 p4 = some r) : Met l yX4_thirdFits zX4_thirdFits { frames := 2, cells := 0, slots := 0, locals := 42 } (va_Pc [.ref (a 7), .int p1, .int p2, .int p3, .int p4] (preW (wC y a) a 37 D y t σ sz)) (va_Qi (fun r' u => r' = r ∧ u = σ) (posW (wC y a) D) (AC a 37 sz)) 0 0 (AC a 37 sz) := by
  refine Met.ofW (cc := cX4_thirdFits) (maxL := 5) (ret := (some .boolean)) (by decide) rfl ?_
  intro p e s m args below meth c s₁ B hml hv
  obtain ⟨rfl, hsz, hP, hK, hF⟩ := hv
  have hx := B.exec
  have hb := B.bytes
  have hr := B.returns
  have hts := atoms_spec (ws := zX4_thirdFits) B.pre
  have hown : s.vm.findClass RX4 = some m.cls := findClass_of_methodNamed B.named
  have hlocks := B.notSynchronized
  subst hsz
  have l_f23 := hts _ (List.mem_cons_of_mem _ aF_X4_23)
  have l_f15 := hts _ (List.mem_cons_of_mem _ aF_X4_15)
  have h_X4 : ∀ w ∈ wsX40, w.before _ s = true := fun w hw => hts w (List.mem_cons_of_mem _ (hwX4 w hw))
  have hS : va_S (AC a 37 s.heap.size) s.heap s.heap [] := va_S.rf
  have hl := lv_entry ([.ref (a 7), .int p1, .int p2, .int p3, .int p4]) (n := 5) (Nat.le_of_ble_eq_true rfl)
  rw [lg_entry_eq]
  generalize (lg_sl ([.ref (a 7), .int p1, .int p2, .int p3, .int p4]) ++ List.replicate (5 - (lg_sl ([.ref (a 7), .int p1, .int p2, .int p3, .int p4])).length) Slot.unset).toArray = ls at hl ⊢
  have hl : lv_has ls 5 [(0, .ref (a 7)), (1, .int p1), (2, .int p2), (3, .int p3), (4, .int p4)] := hl
  unfold mX4_thirdFits at hm
  refine lv_iload_n hx hb dX4_thirdFits_0 rfl (lv_at hl 1 rfl) ?_
  refine lv_bipush (v := 6) hx hb dX4_thirdFits_1 (by decide) ?_
  refine lv_icmp_ne (tgt := 46) hx hb dX4_thirdFits_3 (by decide) (fun c1 => ?_) (fun c1 => ?_)
  · have hm := (if_neg c1).symm.trans hm
    refine lv_iconst (v := 1) hx hb dX4_thirdFits_46 (by decide) ?_
    refine lv_goto (tgt := 51) hx hb dX4_thirdFits_47 (by decide) ?_
    exact W.zret (v := 1) hx hb hr rfl (fun T hT hW => ⟨⟨1, σ, rfl, ⟨Option.some.inj hm, rfl⟩, by rw [posW, hT]; exact hP⟩, hS.F hT⟩) hS.2.2 dX4_thirdFits_51
  · have hm := (if_pos c1).symm.trans hm
    refine lv_aload_n hx hb dX4_thirdFits_6 rfl (lv_at hl 0 rfl) ?_
    refine gfX4_proof hx hb h_X4 hown hK hP l_f23 dX4_thirdFits_7 ?_
    refine lv_iload hx hb dX4_thirdFits_10 (lv_at hl 4 rfl) ?_
    obtain ⟨r2, h3, hm⟩ := ok_bind hm
    refine calV_i (As := [.int p4]) (rest := []) ⟨hx, hb, hml, hown, hts⟩ (kX3_beginOf l D y a t hI _ σ p4 r2 h3) (cwV 1 hts (gAV aM_X4_84 aI_X3_beginOf aS_X3_beginOf aN_X3 aC_X3_beginOf) rfl rfl rfl eX3_beginOf ⟨Nat.le_of_ble_eq_true rfl, Nat.le_of_ble_eq_true rfl⟩) (preV_W (ci := 3) (q := (RX3, TX3, 12)) hK hP hF hS rfl (wC_5 y a σ)) rfl hl.1 rfl (Nat.le_of_ble_eq_true rfl) dX4_thirdFits_12 ⟨Nat.zero_le _, Nat.zero_le _⟩ hS (AC_le hS.1) (fun H locs hP hS hk1 => ?_)
    refine lv_aload_n hx hb dX4_thirdFits_15 rfl (lv_at hl 0 rfl) ?_
    refine gfX4_formulas hx hb h_X4 hown hK hP l_f15 dX4_thirdFits_16 ?_
    refine lv_aload_n hx hb dX4_thirdFits_19 rfl (lv_at hl 0 rfl) ?_
    refine gfX4_proof hx hb h_X4 hown hK hP l_f23 dX4_thirdFits_20 ?_
    refine lv_iload_n hx hb dX4_thirdFits_23 rfl (lv_at hl 3 rfl) ?_
    obtain ⟨r4, h5, hm⟩ := ok_bind hm
    refine calV_i (As := [.int p3]) (rest := [.ref (a 1), .int r2]) ⟨hx, hb, hml, hown, hts⟩ (kX3_formulaOf l D y a t hI _ σ p3 r4 h5) (cwV 1 hts (gAV aM_X4_66 aI_X3_formulaOf aS_X3_formulaOf aN_X3 aC_X3_formulaOf) rfl rfl rfl eX3_formulaOf ⟨Nat.le_of_ble_eq_true rfl, Nat.le_of_ble_eq_true rfl⟩) (preV_W (ci := 3) (q := (RX3, TX3, 12)) hK hP hF hS rfl (wC_5 y a σ)) rfl hl.1 rfl (Nat.le_of_ble_eq_true rfl) dX4_thirdFits_24 ⟨Nat.zero_le _, Nat.zero_le _⟩ hS (AC_le hS.1) (fun H locs hP hS hk1 => ?_)
    obtain ⟨r6, h7, hm⟩ := ok_bind hm
    refine calV_i (As := [.int r4]) (rest := [.int r2]) ⟨hx, hb, hml, hown, hts⟩ (kX1_second l D y a t hI _ σ r4 r6 h7) (cwV 1 hts (gAV aM_X4_81 aI_X1_second aS_X1_second aN_X1 aC_X1_second) rfl rfl rfl eX1_second ⟨Nat.le_of_ble_eq_true rfl, Nat.le_of_ble_eq_true rfl⟩) (preV_W (ci := 1) (q := (RX1, TX1, 8)) hK hP hF hS rfl (wC_1 y a σ)) rfl hl.1 rfl (Nat.le_of_ble_eq_true rfl) dX4_thirdFits_27 ⟨Nat.zero_le _, Nat.zero_le _⟩ hS (AC_le hS.1) (fun H locs hP hS hk1 => ?_)
    refine lv_icmp_ne (tgt := 50) hx hb dX4_thirdFits_30 (by decide) (fun c8 => ?_) (fun c8 => ?_)
    · have hm := (if_neg c8).symm.trans hm
      refine lv_iconst (v := 0) hx hb dX4_thirdFits_50 (by decide) ?_
      exact W.zret (v := 0) hx hb hr rfl (fun T hT hW => ⟨⟨0, σ, rfl, ⟨Option.some.inj hm, rfl⟩, by rw [posW, hT]; exact hP⟩, hS.F hT⟩) hS.2.2 dX4_thirdFits_51
    · have hm := (if_pos c8).symm.trans hm
      refine lv_aload_n hx hb dX4_thirdFits_33 rfl (lv_at hl 0 rfl) ?_
      refine gfX4_proof hx hb h_X4 hown hK hP l_f23 dX4_thirdFits_34 ?_
      refine lv_iload hx hb dX4_thirdFits_37 (lv_at hl 4 rfl) ?_
      obtain ⟨r9, h10, hm⟩ := ok_bind hm
      refine calV_i (As := [.int p4]) (rest := []) ⟨hx, hb, hml, hown, hts⟩ (kX3_endOf l D y a t hI _ σ p4 r9 h10) (cwV 1 hts (gAV aM_X4_75 aI_X3_endOf aS_X3_endOf aN_X3 aC_X3_endOf) rfl rfl rfl eX3_endOf ⟨Nat.le_of_ble_eq_true rfl, Nat.le_of_ble_eq_true rfl⟩) (preV_W (ci := 3) (q := (RX3, TX3, 12)) hK hP hF hS rfl (wC_5 y a σ)) rfl hl.1 rfl (Nat.le_of_ble_eq_true rfl) dX4_thirdFits_39 ⟨Nat.zero_le _, Nat.zero_le _⟩ hS (AC_le hS.1) (fun H locs hP hS hk1 => ?_)
      refine lv_iload_n hx hb dX4_thirdFits_42 rfl (lv_at hl 2 rfl) ?_
      refine lv_icmp_ne (tgt := 50) hx hb dX4_thirdFits_43 (by decide) (fun c11 => ?_) (fun c11 => ?_)
      · have hm := (if_neg c11).symm.trans hm
        refine lv_iconst (v := 0) hx hb dX4_thirdFits_50 (by decide) ?_
        exact W.zret (v := 0) hx hb hr rfl (fun T hT hW => ⟨⟨0, σ, rfl, ⟨Option.some.inj hm, rfl⟩, by rw [posW, hT]; exact hP⟩, hS.F hT⟩) hS.2.2 dX4_thirdFits_51
      · have hm := (if_pos c11).symm.trans hm
        refine lv_iconst (v := 1) hx hb dX4_thirdFits_46 (by decide) ?_
        refine lv_goto (tgt := 51) hx hb dX4_thirdFits_47 (by decide) ?_
        exact W.zret (v := 1) hx hb hr rfl (fun T hT hW => ⟨⟨1, σ, rfl, ⟨Option.some.inj hm, rfl⟩, by rw [posW, hT]; exact hP⟩, hS.F hT⟩) hS.2.2 dX4_thirdFits_51
theorem eX4_refusal : yX4_refusal.cls = RX4 ∧ yX4_refusal.cls ≠ "java/lang/invoke/MethodHandle" ∧ yX4_refusal.cls ≠ "java/lang/invoke/VarHandle" ∧ (parseMethodDescriptor yX4_refusal.desc).map (fun d => d.parameters.length) = some 5 := by decide +kernel
def mX4_refusal_129 (s2 : St) (v1 : Int32) : Option (Int32 × St) :=
if v1 = 0 then (
some (3, s2))
else (
some (0, s2))
def mX4_refusal_128 (s4 : St) : Option (Int32 × St) :=
mX4_refusal_129 s4 0
def mX4_refusal (σ : St) (p1 : Int32) (p2 : Int32) (p3 : Int32) (p4 : Int32) (p5 : Int32) : Option (Int32 × St) :=
(mX3_kind σ p1 0 p3).bind fun r5 =>
(mX4_reaches σ r5 p3).bind fun r7 =>
if r7 = 0 then (
some (1, σ))
else (
(mX3_kind σ p1 1 p3).bind fun r10 =>
(mX4_reaches σ r10 p4).bind fun r12 =>
if r12 = 0 then (
some (1, σ))
else (
(mX3_kind σ p1 2 p3).bind fun r15 =>
(mX4_reaches σ r15 p5).bind fun r17 =>
if r17 = 0 then (
some (1, σ))
else (
(mX4_hasForm σ p1 p3 p4).bind fun r20 =>
if r20 = 0 then (
some (2, σ))
else (
if p1 = 13 then (
(mX4_theoremFits σ p2 p3 p4 p5).bind fun ⟨r33, s35⟩ =>
mX4_refusal_129 s35 r33)
else (
(mX4_firstFits σ p1 p2 p3).bind fun r24 =>
if r24 = 0 then (
mX4_refusal_128 σ)
else (
(mX4_secondFits σ p1 p2 p3 p4).bind fun r27 =>
if r27 = 0 then (
mX4_refusal_128 σ)
else (
(mX4_thirdFits σ p1 p2 p3 p5).bind fun r30 =>
if r30 = 0 then (
mX4_refusal_128 σ)
else (
mX4_refusal_129 σ 1))))))))
set_option maxHeartbeats 4000000 in
set_option maxRecDepth 100000 in
theorem kX4_refusal (l : Launch) (D : va_G) (y : Nat → ClassId) (a t : Nat → Nat) (hI : AI a 37) (sz : Nat) (σ τ : St) (p1 : Int32) (p2 : Int32) (p3 : Int32) (p4 : Int32) (p5 : Int32) (r : Int32) (hm : mX4_refusal σ p1 p2 p3 p4 p5 = some (r, τ)) : Met l yX4_refusal zX4_refusal { frames := 4, cells := 0, slots := 0, locals := 98 } (va_Pc [.ref (a 7), .int p1, .int p2, .int p3, .int p4, .int p5] (preW (wC y a) a 37 D y t σ sz)) (va_Qi (fun r' u => r' = r ∧ u = τ) (posW (wC y a) D) (AC a 37 sz)) 0 0 (AC a 37 sz) := by
  refine Met.ofW (cc := cX4_refusal) (maxL := 7) (ret := (some .int)) (by decide) rfl ?_
  intro p e s m args below meth c s₁ B hml hv
  obtain ⟨rfl, hsz, hP, hK, hF⟩ := hv
  have hx := B.exec
  have hb := B.bytes
  have hr := B.returns
  have hts := atoms_spec (ws := zX4_refusal) B.pre
  have hown : s.vm.findClass RX4 = some m.cls := findClass_of_methodNamed B.named
  have hlocks := B.notSynchronized
  subst hsz
  have l_f23 := hts _ (List.mem_cons_of_mem _ aF_X4_23)
  have h_X4 : ∀ w ∈ wsX40, w.before _ s = true := fun w hw => hts w (List.mem_cons_of_mem _ (hwX4 w hw))
  have hS : va_S (AC a 37 s.heap.size) s.heap s.heap [] := va_S.rf
  have hl := lv_entry ([.ref (a 7), .int p1, .int p2, .int p3, .int p4, .int p5]) (n := 7) (Nat.le_of_ble_eq_true rfl)
  rw [lg_entry_eq]
  generalize (lg_sl ([.ref (a 7), .int p1, .int p2, .int p3, .int p4, .int p5]) ++ List.replicate (7 - (lg_sl ([.ref (a 7), .int p1, .int p2, .int p3, .int p4, .int p5])).length) Slot.unset).toArray = ls at hl ⊢
  have hl : lv_has ls 7 [(0, .ref (a 7)), (1, .int p1), (2, .int p2), (3, .int p3), (4, .int p4), (5, .int p5)] := hl
  have L_129 : ∀ (s2 : St) (v1 : Int32) (H : Heap) (locs : List Loc) (ls : Array Slot), va_P D vwCl (wC y a s2) H → va_S (AC a 37 s.heap.size) s.heap H locs → lv_has ls 7 [] → mX4_refusal_129 s2 v1 = some (r, τ) → W p l e (headSpec zX4_refusal ({ frames := 4, cells := 0, slots := 0, locals := 98 })).room s m ([.ref (a 7), .int p1, .int p2, .int p3, .int p4, .int p5] : List Value).toArray below meth c H locs 0 0 (MQ below (va_Qi (fun r' u => r' = r ∧ u = τ) (posW (wC y a) D) (AC a 37 s.heap.size)) ([.ref (a 7), .int p1, .int p2, .int p3, .int p4, .int p5] : List Value).toArray s 0 0 (AC a 37 s.heap.size)) (F0 m 129 ls [.int v1]) := by
    intro s2 v1 H locs ls hP hS hl hm
    unfold mX4_refusal_129 at hm
    refine lv_istore (lv' := [(6, .int v1)]) hx hb dX4_refusal_129 hl (by decide) rfl (fun ls hl => ?_)
    refine lv_iload hx hb dX4_refusal_131 (lv_at hl 0 rfl) ?_
    refine lv_if_eq (tgt := 140) hx hb dX4_refusal_133 (by decide) (fun c3 => ?_) (fun c3 => ?_)
    · have hm := (if_pos c3).symm.trans hm
      refine lv_iconst (v := 3) hx hb dX4_refusal_140 (by decide) ?_
      exact W.iret (v := 3) hx hb hr (fun T hT hW => ⟨⟨3, s2, rfl, ⟨congrArg Prod.fst (Option.some.inj hm), congrArg Prod.snd (Option.some.inj hm)⟩, by rw [posW, hT]; exact hP⟩, hS.F hT⟩) hS.2.2 dX4_refusal_141
    · have hm := (if_neg c3).symm.trans hm
      refine lv_iconst (v := 0) hx hb dX4_refusal_136 (by decide) ?_
      refine lv_goto (tgt := 141) hx hb dX4_refusal_137 (by decide) ?_
      exact W.iret (v := 0) hx hb hr (fun T hT hW => ⟨⟨0, s2, rfl, ⟨congrArg Prod.fst (Option.some.inj hm), congrArg Prod.snd (Option.some.inj hm)⟩, by rw [posW, hT]; exact hP⟩, hS.F hT⟩) hS.2.2 dX4_refusal_141
  have L_128 : ∀ (s4 : St) (H : Heap) (locs : List Loc) (ls : Array Slot), va_P D vwCl (wC y a s4) H → va_S (AC a 37 s.heap.size) s.heap H locs → lv_has ls 7 [] → mX4_refusal_128 s4 = some (r, τ) → W p l e (headSpec zX4_refusal ({ frames := 4, cells := 0, slots := 0, locals := 98 })).room s m ([.ref (a 7), .int p1, .int p2, .int p3, .int p4, .int p5] : List Value).toArray below meth c H locs 0 0 (MQ below (va_Qi (fun r' u => r' = r ∧ u = τ) (posW (wC y a) D) (AC a 37 s.heap.size)) ([.ref (a 7), .int p1, .int p2, .int p3, .int p4, .int p5] : List Value).toArray s 0 0 (AC a 37 s.heap.size)) (F0 m 128 ls []) := by
    intro s4 H locs ls hP hS hl hm
    unfold mX4_refusal_128 at hm
    refine lv_iconst (v := 0) hx hb dX4_refusal_128 (by decide) ?_
    exact L_129 s4 0 _ _ _ hP hS (lv_sub hl [] rfl) hm
  unfold mX4_refusal at hm
  refine lv_aload_n hx hb dX4_refusal_0 rfl (lv_at hl 0 rfl) ?_
  refine lv_aload_n hx hb dX4_refusal_1 rfl (lv_at hl 0 rfl) ?_
  refine gfX4_proof hx hb h_X4 hown hK hP l_f23 dX4_refusal_2 ?_
  refine lv_iload_n hx hb dX4_refusal_5 rfl (lv_at hl 1 rfl) ?_
  refine lv_iconst (v := 0) hx hb dX4_refusal_6 (by decide) ?_
  refine lv_iload_n hx hb dX4_refusal_7 rfl (lv_at hl 3 rfl) ?_
  obtain ⟨r5, h6, hm⟩ := ok_bind hm
  refine calV_i (As := [.int p1, .int 0, .int p3]) (rest := [.ref (a 7)]) ⟨hx, hb, hml, hown, hts⟩ (kX3_kind l D y a t hI _ σ p1 0 p3 r5 h6) (cwV 3 hts (gAV aM_X4_27 aI_X3_kind aS_X3_kind aN_X3 aC_X3_kind) rfl rfl rfl eX3_kind ⟨Nat.le_of_ble_eq_true rfl, Nat.le_of_ble_eq_true rfl⟩) (preV_W (ci := 3) (q := (RX3, TX3, 12)) hK hP hF hS rfl (wC_5 y a σ)) rfl hl.1 rfl (Nat.le_of_ble_eq_true rfl) dX4_refusal_8 ⟨Nat.zero_le _, Nat.zero_le _⟩ hS (AC_le hS.1) (fun H locs hP hS hk1 => ?_)
  refine lv_iload_n hx hb dX4_refusal_11 rfl (lv_at hl 3 rfl) ?_
  obtain ⟨r7, h8, hm⟩ := ok_bind hm
  refine calV_i (As := [.int r5, .int p3]) (rest := []) ⟨hx, hb, hml, hown, hts⟩ (kX4_reaches l D y a t hI _ σ r5 p3 r7 h8) (cwV 2 hts (gAV aM_X4_33 aI_X4_reaches aS_X4_reaches aN_X4 aC_X4_reaches) rfl rfl rfl eX4_reaches ⟨Nat.le_of_ble_eq_true rfl, Nat.le_of_ble_eq_true rfl⟩) (preV_W (ci := 4) (q := (RX4, TX4, 4)) hK hP hF hS rfl (wC_7 y a σ)) rfl hl.1 rfl (Nat.le_of_ble_eq_true rfl) dX4_refusal_12 ⟨Nat.zero_le _, Nat.zero_le _⟩ hS (AC_le hS.1) (fun H locs hP hS hk1 => ?_)
  refine lv_if_eq (tgt := 56) hx hb dX4_refusal_15 (by decide) (fun c9 => ?_) (fun c9 => ?_)
  · have hm := (if_pos c9).symm.trans hm
    refine lv_iconst (v := 1) hx hb dX4_refusal_56 (by decide) ?_
    exact W.iret (v := 1) hx hb hr (fun T hT hW => ⟨⟨1, σ, rfl, ⟨congrArg Prod.fst (Option.some.inj hm), congrArg Prod.snd (Option.some.inj hm)⟩, by rw [posW, hT]; exact hP⟩, hS.F hT⟩) hS.2.2 dX4_refusal_57
  · have hm := (if_neg c9).symm.trans hm
    refine lv_aload_n hx hb dX4_refusal_18 rfl (lv_at hl 0 rfl) ?_
    refine lv_aload_n hx hb dX4_refusal_19 rfl (lv_at hl 0 rfl) ?_
    refine gfX4_proof hx hb h_X4 hown hK hP l_f23 dX4_refusal_20 ?_
    refine lv_iload_n hx hb dX4_refusal_23 rfl (lv_at hl 1 rfl) ?_
    refine lv_iconst (v := 1) hx hb dX4_refusal_24 (by decide) ?_
    refine lv_iload_n hx hb dX4_refusal_25 rfl (lv_at hl 3 rfl) ?_
    obtain ⟨r10, h11, hm⟩ := ok_bind hm
    refine calV_i (As := [.int p1, .int 1, .int p3]) (rest := [.ref (a 7)]) ⟨hx, hb, hml, hown, hts⟩ (kX3_kind l D y a t hI _ σ p1 1 p3 r10 h11) (cwV 3 hts (gAV aM_X4_27 aI_X3_kind aS_X3_kind aN_X3 aC_X3_kind) rfl rfl rfl eX3_kind ⟨Nat.le_of_ble_eq_true rfl, Nat.le_of_ble_eq_true rfl⟩) (preV_W (ci := 3) (q := (RX3, TX3, 12)) hK hP hF hS rfl (wC_5 y a σ)) rfl hl.1 rfl (Nat.le_of_ble_eq_true rfl) dX4_refusal_26 ⟨Nat.zero_le _, Nat.zero_le _⟩ hS (AC_le hS.1) (fun H locs hP hS hk1 => ?_)
    refine lv_iload hx hb dX4_refusal_29 (lv_at hl 4 rfl) ?_
    obtain ⟨r12, h13, hm⟩ := ok_bind hm
    refine calV_i (As := [.int r10, .int p4]) (rest := []) ⟨hx, hb, hml, hown, hts⟩ (kX4_reaches l D y a t hI _ σ r10 p4 r12 h13) (cwV 2 hts (gAV aM_X4_33 aI_X4_reaches aS_X4_reaches aN_X4 aC_X4_reaches) rfl rfl rfl eX4_reaches ⟨Nat.le_of_ble_eq_true rfl, Nat.le_of_ble_eq_true rfl⟩) (preV_W (ci := 4) (q := (RX4, TX4, 4)) hK hP hF hS rfl (wC_7 y a σ)) rfl hl.1 rfl (Nat.le_of_ble_eq_true rfl) dX4_refusal_31 ⟨Nat.zero_le _, Nat.zero_le _⟩ hS (AC_le hS.1) (fun H locs hP hS hk1 => ?_)
    refine lv_if_eq (tgt := 56) hx hb dX4_refusal_34 (by decide) (fun c14 => ?_) (fun c14 => ?_)
    · have hm := (if_pos c14).symm.trans hm
      refine lv_iconst (v := 1) hx hb dX4_refusal_56 (by decide) ?_
      exact W.iret (v := 1) hx hb hr (fun T hT hW => ⟨⟨1, σ, rfl, ⟨congrArg Prod.fst (Option.some.inj hm), congrArg Prod.snd (Option.some.inj hm)⟩, by rw [posW, hT]; exact hP⟩, hS.F hT⟩) hS.2.2 dX4_refusal_57
    · have hm := (if_neg c14).symm.trans hm
      refine lv_aload_n hx hb dX4_refusal_37 rfl (lv_at hl 0 rfl) ?_
      refine lv_aload_n hx hb dX4_refusal_38 rfl (lv_at hl 0 rfl) ?_
      refine gfX4_proof hx hb h_X4 hown hK hP l_f23 dX4_refusal_39 ?_
      refine lv_iload_n hx hb dX4_refusal_42 rfl (lv_at hl 1 rfl) ?_
      refine lv_iconst (v := 2) hx hb dX4_refusal_43 (by decide) ?_
      refine lv_iload_n hx hb dX4_refusal_44 rfl (lv_at hl 3 rfl) ?_
      obtain ⟨r15, h16, hm⟩ := ok_bind hm
      refine calV_i (As := [.int p1, .int 2, .int p3]) (rest := [.ref (a 7)]) ⟨hx, hb, hml, hown, hts⟩ (kX3_kind l D y a t hI _ σ p1 2 p3 r15 h16) (cwV 3 hts (gAV aM_X4_27 aI_X3_kind aS_X3_kind aN_X3 aC_X3_kind) rfl rfl rfl eX3_kind ⟨Nat.le_of_ble_eq_true rfl, Nat.le_of_ble_eq_true rfl⟩) (preV_W (ci := 3) (q := (RX3, TX3, 12)) hK hP hF hS rfl (wC_5 y a σ)) rfl hl.1 rfl (Nat.le_of_ble_eq_true rfl) dX4_refusal_45 ⟨Nat.zero_le _, Nat.zero_le _⟩ hS (AC_le hS.1) (fun H locs hP hS hk1 => ?_)
      refine lv_iload hx hb dX4_refusal_48 (lv_at hl 5 rfl) ?_
      obtain ⟨r17, h18, hm⟩ := ok_bind hm
      refine calV_i (As := [.int r15, .int p5]) (rest := []) ⟨hx, hb, hml, hown, hts⟩ (kX4_reaches l D y a t hI _ σ r15 p5 r17 h18) (cwV 2 hts (gAV aM_X4_33 aI_X4_reaches aS_X4_reaches aN_X4 aC_X4_reaches) rfl rfl rfl eX4_reaches ⟨Nat.le_of_ble_eq_true rfl, Nat.le_of_ble_eq_true rfl⟩) (preV_W (ci := 4) (q := (RX4, TX4, 4)) hK hP hF hS rfl (wC_7 y a σ)) rfl hl.1 rfl (Nat.le_of_ble_eq_true rfl) dX4_refusal_50 ⟨Nat.zero_le _, Nat.zero_le _⟩ hS (AC_le hS.1) (fun H locs hP hS hk1 => ?_)
      refine lv_if_ne (tgt := 58) hx hb dX4_refusal_53 (by decide) (fun c19 => ?_) (fun c19 => ?_)
      · have hm := (if_neg c19).symm.trans hm
        refine lv_aload_n hx hb dX4_refusal_58 rfl (lv_at hl 0 rfl) ?_
        refine lv_iload_n hx hb dX4_refusal_59 rfl (lv_at hl 1 rfl) ?_
        refine lv_iload_n hx hb dX4_refusal_60 rfl (lv_at hl 3 rfl) ?_
        refine lv_iload hx hb dX4_refusal_61 (lv_at hl 4 rfl) ?_
        obtain ⟨r20, h21, hm⟩ := ok_bind hm
        refine calV_i (As := [.int p1, .int p3, .int p4]) (rest := []) ⟨hx, hb, hml, hown, hts⟩ (kX4_hasForm l D y a t hI _ σ p1 p3 p4 r20 h21) (cwV 3 hts (gAV aM_X4_37 aI_X4_hasForm aS_X4_hasForm aN_X4 aC_X4_hasForm) rfl rfl rfl eX4_hasForm ⟨Nat.le_of_ble_eq_true rfl, Nat.le_of_ble_eq_true rfl⟩) (preV_W (ci := 4) (q := (RX4, TX4, 4)) hK hP hF hS rfl (wC_7 y a σ)) rfl hl.1 rfl (Nat.le_of_ble_eq_true rfl) dX4_refusal_63 ⟨Nat.zero_le _, Nat.zero_le _⟩ hS (AC_le hS.1) (fun H locs hP hS hk1 => ?_)
        refine lv_if_ne (tgt := 71) hx hb dX4_refusal_66 (by decide) (fun c22 => ?_) (fun c22 => ?_)
        · have hm := (if_neg c22).symm.trans hm
          refine lv_iload_n hx hb dX4_refusal_71 rfl (lv_at hl 1 rfl) ?_
          refine lv_bipush (v := 13) hx hb dX4_refusal_72 (by decide) ?_
          refine lv_icmp_ne (tgt := 90) hx hb dX4_refusal_74 (by decide) (fun c23 => ?_) (fun c23 => ?_)
          · have hm := (if_neg c23).symm.trans hm
            refine lv_aload_n hx hb dX4_refusal_90 rfl (lv_at hl 0 rfl) ?_
            refine lv_iload_n hx hb dX4_refusal_91 rfl (lv_at hl 1 rfl) ?_
            refine lv_iload_n hx hb dX4_refusal_92 rfl (lv_at hl 2 rfl) ?_
            refine lv_iload_n hx hb dX4_refusal_93 rfl (lv_at hl 3 rfl) ?_
            obtain ⟨r24, h25, hm⟩ := ok_bind hm
            refine calV_i (As := [.int p1, .int p2, .int p3]) (rest := []) ⟨hx, hb, hml, hown, hts⟩ (kX4_firstFits l D y a t hI _ σ p1 p2 p3 r24 h25) (cwV 3 hts (gAV aM_X4_45 aI_X4_firstFits aS_X4_firstFits aN_X4 aC_X4_firstFits) rfl rfl rfl eX4_firstFits ⟨Nat.le_of_ble_eq_true rfl, Nat.le_of_ble_eq_true rfl⟩) (preV_W (ci := 4) (q := (RX4, TX4, 4)) hK hP hF hS rfl (wC_7 y a σ)) rfl hl.1 rfl (Nat.le_of_ble_eq_true rfl) dX4_refusal_94 ⟨Nat.zero_le _, Nat.zero_le _⟩ hS (AC_le hS.1) (fun H locs hP hS hk1 => ?_)
            refine lv_if_eq (tgt := 128) hx hb dX4_refusal_97 (by decide) (fun c26 => ?_) (fun c26 => ?_)
            · have hm := (if_pos c26).symm.trans hm
              exact L_128 σ _ _ _ hP hS (lv_sub hl [] rfl) hm
            · have hm := (if_neg c26).symm.trans hm
              refine lv_aload_n hx hb dX4_refusal_100 rfl (lv_at hl 0 rfl) ?_
              refine lv_iload_n hx hb dX4_refusal_101 rfl (lv_at hl 1 rfl) ?_
              refine lv_iload_n hx hb dX4_refusal_102 rfl (lv_at hl 2 rfl) ?_
              refine lv_iload_n hx hb dX4_refusal_103 rfl (lv_at hl 3 rfl) ?_
              refine lv_iload hx hb dX4_refusal_104 (lv_at hl 4 rfl) ?_
              obtain ⟨r27, h28, hm⟩ := ok_bind hm
              refine calV_i (As := [.int p1, .int p2, .int p3, .int p4]) (rest := []) ⟨hx, hb, hml, hown, hts⟩ (kX4_secondFits l D y a t hI _ σ p1 p2 p3 p4 r27 h28) (cwV 4 hts (gAV aM_X4_48 aI_X4_secondFits aS_X4_secondFits aN_X4 aC_X4_secondFits) rfl rfl rfl eX4_secondFits ⟨Nat.le_of_ble_eq_true rfl, Nat.le_of_ble_eq_true rfl⟩) (preV_W (ci := 4) (q := (RX4, TX4, 4)) hK hP hF hS rfl (wC_7 y a σ)) rfl hl.1 rfl (Nat.le_of_ble_eq_true rfl) dX4_refusal_106 ⟨Nat.zero_le _, Nat.zero_le _⟩ hS (AC_le hS.1) (fun H locs hP hS hk1 => ?_)
              refine lv_if_eq (tgt := 128) hx hb dX4_refusal_109 (by decide) (fun c29 => ?_) (fun c29 => ?_)
              · have hm := (if_pos c29).symm.trans hm
                exact L_128 σ _ _ _ hP hS (lv_sub hl [] rfl) hm
              · have hm := (if_neg c29).symm.trans hm
                refine lv_aload_n hx hb dX4_refusal_112 rfl (lv_at hl 0 rfl) ?_
                refine lv_iload_n hx hb dX4_refusal_113 rfl (lv_at hl 1 rfl) ?_
                refine lv_iload_n hx hb dX4_refusal_114 rfl (lv_at hl 2 rfl) ?_
                refine lv_iload_n hx hb dX4_refusal_115 rfl (lv_at hl 3 rfl) ?_
                refine lv_iload hx hb dX4_refusal_116 (lv_at hl 5 rfl) ?_
                obtain ⟨r30, h31, hm⟩ := ok_bind hm
                refine calV_i (As := [.int p1, .int p2, .int p3, .int p5]) (rest := []) ⟨hx, hb, hml, hown, hts⟩ (kX4_thirdFits l D y a t hI _ σ p1 p2 p3 p5 r30 h31) (cwV 4 hts (gAV aM_X4_51 aI_X4_thirdFits aS_X4_thirdFits aN_X4 aC_X4_thirdFits) rfl rfl rfl eX4_thirdFits ⟨Nat.le_of_ble_eq_true rfl, Nat.le_of_ble_eq_true rfl⟩) (preV_W (ci := 4) (q := (RX4, TX4, 4)) hK hP hF hS rfl (wC_7 y a σ)) rfl hl.1 rfl (Nat.le_of_ble_eq_true rfl) dX4_refusal_118 ⟨Nat.zero_le _, Nat.zero_le _⟩ hS (AC_le hS.1) (fun H locs hP hS hk1 => ?_)
                refine lv_if_eq (tgt := 128) hx hb dX4_refusal_121 (by decide) (fun c32 => ?_) (fun c32 => ?_)
                · have hm := (if_pos c32).symm.trans hm
                  exact L_128 σ _ _ _ hP hS (lv_sub hl [] rfl) hm
                · have hm := (if_neg c32).symm.trans hm
                  refine lv_iconst (v := 1) hx hb dX4_refusal_124 (by decide) ?_
                  refine lv_goto (tgt := 129) hx hb dX4_refusal_125 (by decide) ?_
                  exact L_129 σ 1 _ _ _ hP hS (lv_sub hl [] rfl) hm
          · have hm := (if_pos c23).symm.trans hm
            refine lv_aload_n hx hb dX4_refusal_77 rfl (lv_at hl 0 rfl) ?_
            refine lv_iload_n hx hb dX4_refusal_78 rfl (lv_at hl 2 rfl) ?_
            refine lv_iload_n hx hb dX4_refusal_79 rfl (lv_at hl 3 rfl) ?_
            refine lv_iload hx hb dX4_refusal_80 (lv_at hl 4 rfl) ?_
            refine lv_iload hx hb dX4_refusal_82 (lv_at hl 5 rfl) ?_
            obtain ⟨⟨r33, s35⟩, h34, hm⟩ := ok_bind hm
            refine calV_i (As := [.int p2, .int p3, .int p4, .int p5]) (rest := []) ⟨hx, hb, hml, hown, hts⟩ (kX4_theoremFits l D y a t hI _ σ s35 p2 p3 p4 p5 r33 h34) (cwV 4 hts (gAV aM_X4_41 aI_X4_theoremFits aS_X4_theoremFits aN_X4 aC_X4_theoremFits) rfl rfl rfl eX4_theoremFits ⟨Nat.le_of_ble_eq_true rfl, Nat.le_of_ble_eq_true rfl⟩) (preV_W (ci := 4) (q := (RX4, TX4, 4)) hK hP hF hS rfl (wC_7 y a σ)) rfl hl.1 rfl (Nat.le_of_ble_eq_true rfl) dX4_refusal_84 ⟨Nat.zero_le _, Nat.zero_le _⟩ hS (AC_le hS.1) (fun H locs hP hS hk1 => ?_)
            refine lv_goto (tgt := 129) hx hb dX4_refusal_87 (by decide) ?_
            exact L_129 s35 r33 _ _ _ hP hS (lv_sub hl [] rfl) hm
        · have hm := (if_pos c22).symm.trans hm
          refine lv_iconst (v := 2) hx hb dX4_refusal_69 (by decide) ?_
          exact W.iret (v := 2) hx hb hr (fun T hT hW => ⟨⟨2, σ, rfl, ⟨congrArg Prod.fst (Option.some.inj hm), congrArg Prod.snd (Option.some.inj hm)⟩, by rw [posW, hT]; exact hP⟩, hS.F hT⟩) hS.2.2 dX4_refusal_70
      · have hm := (if_pos c19).symm.trans hm
        refine lv_iconst (v := 1) hx hb dX4_refusal_56 (by decide) ?_
        exact W.iret (v := 1) hx hb hr (fun T hT hW => ⟨⟨1, σ, rfl, ⟨congrArg Prod.fst (Option.some.inj hm), congrArg Prod.snd (Option.some.inj hm)⟩, by rw [posW, hT]; exact hP⟩, hS.F hT⟩) hS.2.2 dX4_refusal_57
theorem eX4_choices : yX4_choices.cls = RX4 ∧ yX4_choices.cls ≠ "java/lang/invoke/MethodHandle" ∧ yX4_choices.cls ≠ "java/lang/invoke/VarHandle" ∧ (parseMethodDescriptor yX4_choices.desc).map (fun d => d.parameters.length) = some 2 := by decide +kernel
def mX4_choices (σ : St) (p1 : Int32) (p2 : Int32) : Option Int32 :=
(mX3_kind σ p1 p2 0).bind fun r1 =>
if r1 = 1 then (
(mX3_lineCount σ).bind fun r4 =>
some r4)
else (
if r1 = 2 then (
(mX3_boxCount σ).bind fun r7 =>
some r7)
else (
some 1))
set_option maxHeartbeats 4000000 in
set_option maxRecDepth 100000 in
theorem kX4_choices (l : Launch) (D : va_G) (y : Nat → ClassId) (a t : Nat → Nat) (hI : AI a 37) (sz : Nat) (σ : St) (p1 : Int32) (p2 : Int32) (r : Int32) (hm : mX4_choices σ p1 p2 = some r) : Met l yX4_choices zX4_choices { frames := 2, cells := 0, slots := 0, locals := 45 } (va_Pc [.ref (a 7), .int p1, .int p2] (preW (wC y a) a 37 D y t σ sz)) (va_Qi (fun r' u => r' = r ∧ u = σ) (posW (wC y a) D) (AC a 37 sz)) 0 0 (AC a 37 sz) := by
  refine Met.ofW (cc := cX4_choices) (maxL := 3) (ret := (some .int)) (by decide) rfl ?_
  intro p e s m args below meth c s₁ B hml hv
  obtain ⟨rfl, hsz, hP, hK, hF⟩ := hv
  have hx := B.exec
  have hb := B.bytes
  have hr := B.returns
  have hts := atoms_spec (ws := zX4_choices) B.pre
  have hown : s.vm.findClass RX4 = some m.cls := findClass_of_methodNamed B.named
  have hlocks := B.notSynchronized
  subst hsz
  have l_f23 := hts _ (List.mem_cons_of_mem _ aF_X4_23)
  have h_X4 : ∀ w ∈ wsX40, w.before _ s = true := fun w hw => hts w (List.mem_cons_of_mem _ (hwX4 w hw))
  have hS : va_S (AC a 37 s.heap.size) s.heap s.heap [] := va_S.rf
  have hl := lv_entry ([.ref (a 7), .int p1, .int p2]) (n := 3) (Nat.le_of_ble_eq_true rfl)
  rw [lg_entry_eq]
  generalize (lg_sl ([.ref (a 7), .int p1, .int p2]) ++ List.replicate (3 - (lg_sl ([.ref (a 7), .int p1, .int p2])).length) Slot.unset).toArray = ls at hl ⊢
  have hl : lv_has ls 3 [(0, .ref (a 7)), (1, .int p1), (2, .int p2)] := hl
  unfold mX4_choices at hm
  refine lv_aload_n hx hb dX4_choices_0 rfl (lv_at hl 0 rfl) ?_
  refine gfX4_proof hx hb h_X4 hown hK hP l_f23 dX4_choices_1 ?_
  refine lv_iload_n hx hb dX4_choices_4 rfl (lv_at hl 1 rfl) ?_
  refine lv_iload_n hx hb dX4_choices_5 rfl (lv_at hl 2 rfl) ?_
  refine lv_iconst (v := 0) hx hb dX4_choices_6 (by decide) ?_
  obtain ⟨r1, h2, hm⟩ := ok_bind hm
  refine calV_i (As := [.int p1, .int p2, .int 0]) (rest := []) ⟨hx, hb, hml, hown, hts⟩ (kX3_kind l D y a t hI _ σ p1 p2 0 r1 h2) (cwV 3 hts (gAV aM_X4_27 aI_X3_kind aS_X3_kind aN_X3 aC_X3_kind) rfl rfl rfl eX3_kind ⟨Nat.le_of_ble_eq_true rfl, Nat.le_of_ble_eq_true rfl⟩) (preV_W (ci := 3) (q := (RX3, TX3, 12)) hK hP hF hS rfl (wC_5 y a σ)) rfl hl.1 rfl (Nat.le_of_ble_eq_true rfl) dX4_choices_7 ⟨Nat.zero_le _, Nat.zero_le _⟩ hS (AC_le hS.1) (fun H locs hP hS hk1 => ?_)
  by_cases c3 : r1 = 1
  · have hm := (if_pos c3).symm.trans hm
    refine lv_lookup (tgt := 36) hx hb dX4_choices_10 (by decide) (by rw [c3] <;> rfl) (by decide) ?_
    refine lv_aload_n hx hb dX4_choices_36 rfl (lv_at hl 0 rfl) ?_
    refine gfX4_proof hx hb h_X4 hown hK hP l_f23 dX4_choices_37 ?_
    obtain ⟨r4, h5, hm⟩ := ok_bind hm
    refine calV_i (As := []) (rest := []) ⟨hx, hb, hml, hown, hts⟩ (kX3_lineCount l D y a t hI _ σ r4 h5) (cwV 0 hts (gAV aM_X4_105 aI_X3_lineCount aS_X3_lineCount aN_X3 aC_X3_lineCount) rfl rfl rfl eX3_lineCount ⟨Nat.le_of_ble_eq_true rfl, Nat.le_of_ble_eq_true rfl⟩) (preV_W (ci := 3) (q := (RX3, TX3, 12)) hK hP hF hS rfl (wC_5 y a σ)) rfl hl.1 rfl (Nat.le_of_ble_eq_true rfl) dX4_choices_40 ⟨Nat.zero_le _, Nat.zero_le _⟩ hS (AC_le hS.1) (fun H locs hP hS hk1 => ?_)
    exact W.iret (v := r4) hx hb hr (fun T hT hW => ⟨⟨r4, σ, rfl, ⟨Option.some.inj hm, rfl⟩, by rw [posW, hT]; exact hP⟩, hS.F hT⟩) hS.2.2 dX4_choices_43
  · have hm := (if_neg c3).symm.trans hm
    have sc3 := sw_ne (k := 1) c3 rfl
    by_cases c6 : r1 = 2
    · have hm := (if_pos c6).symm.trans hm
      refine lv_lookup (tgt := 44) hx hb dX4_choices_10 (by decide) (by rw [c6] <;> rfl) (by decide) ?_
      refine lv_aload_n hx hb dX4_choices_44 rfl (lv_at hl 0 rfl) ?_
      refine gfX4_proof hx hb h_X4 hown hK hP l_f23 dX4_choices_45 ?_
      obtain ⟨r7, h8, hm⟩ := ok_bind hm
      refine calV_i (As := []) (rest := []) ⟨hx, hb, hml, hown, hts⟩ (kX3_boxCount l D y a t hI _ σ r7 h8) (cwV 0 hts (gAV aM_X4_109 aI_X3_boxCount aS_X3_boxCount aN_X3 aC_X3_boxCount) rfl rfl rfl eX3_boxCount ⟨Nat.le_of_ble_eq_true rfl, Nat.le_of_ble_eq_true rfl⟩) (preV_W (ci := 3) (q := (RX3, TX3, 12)) hK hP hF hS rfl (wC_5 y a σ)) rfl hl.1 rfl (Nat.le_of_ble_eq_true rfl) dX4_choices_48 ⟨Nat.zero_le _, Nat.zero_le _⟩ hS (AC_le hS.1) (fun H locs hP hS hk1 => ?_)
      exact W.iret (v := r7) hx hb hr (fun T hT hW => ⟨⟨r7, σ, rfl, ⟨Option.some.inj hm, rfl⟩, by rw [posW, hT]; exact hP⟩, hS.F hT⟩) hS.2.2 dX4_choices_51
    · have hm := (if_neg c6).symm.trans hm
      have sc6 := sw_ne (k := 2) c6 rfl
      refine lv_lookup (tgt := 52) (off := 42) hx hb dX4_choices_10 (by decide) (by simp only [Op.lookupswitch.offset_cons, Op.lookupswitch.offset_nil]; rw [if_neg (Ne.symm sc3), if_neg (Ne.symm sc6)]) (by decide) ?_
      refine lv_iconst (v := 1) hx hb dX4_choices_52 (by decide) ?_
      exact W.iret (v := 1) hx hb hr (fun T hT hW => ⟨⟨1, σ, rfl, ⟨Option.some.inj hm, rfl⟩, by rw [posW, hT]; exact hP⟩, hS.F hT⟩) hS.2.2 dX4_choices_53
theorem eX4_keep : yX4_keep.cls = RX4 ∧ yX4_keep.cls ≠ "java/lang/invoke/MethodHandle" ∧ yX4_keep.cls ≠ "java/lang/invoke/VarHandle" ∧ (parseMethodDescriptor yX4_keep.desc).map (fun d => d.parameters.length) = some 4 := by decide +kernel
def mX4_keep (σ : St) (p1 : Int32) (p2 : Int32) (p3 : Int32) (p4 : Int32) : Option St :=
chkI 0 4 (
bnd (su σ 39 (upd (σ.1 39) (0 : Int32).toNatClampNeg p1)) fun s1 =>
chkI 1 4 (
bnd (su s1 39 (upd (s1.1 39) (1 : Int32).toNatClampNeg p2)) fun s2 =>
chkI 2 4 (
bnd (su s2 39 (upd (s2.1 39) (2 : Int32).toNatClampNeg p3)) fun s3 =>
chkI 3 4 (
bnd (su s3 39 (upd (s3.1 39) (3 : Int32).toNatClampNeg p4)) fun s4 =>
some s4))))
set_option maxHeartbeats 4000000 in
set_option maxRecDepth 100000 in
theorem kX4_keep (l : Launch) (D : va_G) (y : Nat → ClassId) (a t : Nat → Nat) (hI : AI a 37) (sz : Nat) (σ τ : St) (p1 : Int32) (p2 : Int32) (p3 : Int32) (p4 : Int32) (hm : mX4_keep σ p1 p2 p3 p4 = some τ) : Met l yX4_keep zX4_keep { frames := 0, cells := 0, slots := 0, locals := 0 } (va_Pc [.ref (a 7), .int p1, .int p2, .int p3, .int p4] (preW (wC y a) a 37 D y t σ sz)) (va_Qv (fun u => u = τ) (posW (wC y a) D) (AC a 37 sz)) 0 0 (AC a 37 sz) := by
  refine Met.ofW (cc := cX4_keep) (maxL := 5) (ret := none) (by decide) rfl ?_
  intro p e s m args below meth c s₁ B hml hv
  obtain ⟨rfl, hsz, hP, hK, hF⟩ := hv
  have hx := B.exec
  have hb := B.bytes
  have hr := B.returns
  have hts := atoms_spec (ws := zX4_keep) B.pre
  have hown : s.vm.findClass RX4 = some m.cls := findClass_of_methodNamed B.named
  have hlocks := B.notSynchronized
  subst hsz
  have l_f9 := hts _ (List.mem_cons_of_mem _ aF_X4_9)
  have h_X4 : ∀ w ∈ wsX40, w.before _ s = true := fun w hw => hts w (List.mem_cons_of_mem _ (hwX4 w hw))
  have hS : va_S (AC a 37 s.heap.size) s.heap s.heap [] := va_S.rf
  have hl := lv_entry ([.ref (a 7), .int p1, .int p2, .int p3, .int p4]) (n := 5) (Nat.le_of_ble_eq_true rfl)
  rw [lg_entry_eq]
  generalize (lg_sl ([.ref (a 7), .int p1, .int p2, .int p3, .int p4]) ++ List.replicate (5 - (lg_sl ([.ref (a 7), .int p1, .int p2, .int p3, .int p4])).length) Slot.unset).toArray = ls at hl ⊢
  have hl : lv_has ls 5 [(0, .ref (a 7)), (1, .int p1), (2, .int p2), (3, .int p3), (4, .int p4)] := hl
  unfold mX4_keep at hm
  refine lv_aload_n hx hb dX4_keep_0 rfl (lv_at hl 0 rfl) ?_
  refine gfX4_found hx hb h_X4 hown hK hP l_f9 dX4_keep_1 ?_
  refine lv_iconst (v := 0) hx hb dX4_keep_4 (by decide) ?_
  refine lv_iload_n hx hb dX4_keep_5 rfl (lv_at hl 1 rfl) ?_
  obtain ⟨hi, hm⟩ := ok_I hm
  refine stC_36 hx hb hK hP hI AC_in hS hi dX4_keep_6 (fun H locs hP hS => ?_)
  generalize es1 : su σ 39 (upd (σ.1 39) (0 : Int32).toNatClampNeg p1) = s1 at hP
  have hm := bnd_x es1.symm hm
  refine lv_aload_n hx hb dX4_keep_7 rfl (lv_at hl 0 rfl) ?_
  refine gfX4_found hx hb h_X4 hown hK hP l_f9 dX4_keep_8 ?_
  refine lv_iconst (v := 1) hx hb dX4_keep_11 (by decide) ?_
  refine lv_iload_n hx hb dX4_keep_12 rfl (lv_at hl 2 rfl) ?_
  obtain ⟨hi, hm⟩ := ok_I hm
  refine stC_36 hx hb hK hP hI AC_in hS hi dX4_keep_13 (fun H locs hP hS => ?_)
  generalize es2 : su s1 39 (upd (s1.1 39) (1 : Int32).toNatClampNeg p2) = s2 at hP
  have hm := bnd_x es2.symm hm
  refine lv_aload_n hx hb dX4_keep_14 rfl (lv_at hl 0 rfl) ?_
  refine gfX4_found hx hb h_X4 hown hK hP l_f9 dX4_keep_15 ?_
  refine lv_iconst (v := 2) hx hb dX4_keep_18 (by decide) ?_
  refine lv_iload_n hx hb dX4_keep_19 rfl (lv_at hl 3 rfl) ?_
  obtain ⟨hi, hm⟩ := ok_I hm
  refine stC_36 hx hb hK hP hI AC_in hS hi dX4_keep_20 (fun H locs hP hS => ?_)
  generalize es3 : su s2 39 (upd (s2.1 39) (2 : Int32).toNatClampNeg p3) = s3 at hP
  have hm := bnd_x es3.symm hm
  refine lv_aload_n hx hb dX4_keep_21 rfl (lv_at hl 0 rfl) ?_
  refine gfX4_found hx hb h_X4 hown hK hP l_f9 dX4_keep_22 ?_
  refine lv_iconst (v := 3) hx hb dX4_keep_25 (by decide) ?_
  refine lv_iload hx hb dX4_keep_26 (lv_at hl 4 rfl) ?_
  obtain ⟨hi, hm⟩ := ok_I hm
  refine stC_36 hx hb hK hP hI AC_in hS hi dX4_keep_28 (fun H locs hP hS => ?_)
  generalize es4 : su s3 39 (upd (s3.1 39) (3 : Int32).toNatClampNeg p4) = s4 at hP
  have hm := bnd_x es4.symm hm
  exact W.vret hx hb hr (fun T hT hW => ⟨⟨s4, rfl, Option.some.inj hm, by rw [posW, hT]; exact hP⟩, hS.F hT⟩) hS.2.2 dX4_keep_29
theorem eX4_search : yX4_search.cls = RX4 ∧ yX4_search.cls ≠ "java/lang/invoke/MethodHandle" ∧ yX4_search.cls ≠ "java/lang/invoke/VarHandle" ∧ (parseMethodDescriptor yX4_search.desc).map (fun d => d.parameters.length) = some 2 := by decide +kernel
def mX4_search_119 (s5 : St) (v1 : Int32) (v2 : Int32) (v3 : Int32) (v4 : Int32) : Option (Int32 × St) :=
(mX4_keep s5 v1 v2 v3 v4).bind fun s7 =>
some (1, s7)
def mX4_search_143 (kh2 : St → Int32 → Int32 → Int32 → Option (Int32 × St)) (s11 : St) (v8 : Int32) (v9 : Int32) (v10 : Int32) : Option (Int32 × St) :=
bnd (v10 + 1) fun x12 =>
kh2 s11 v8 v9 x12
def mX4_search_137 (kh2 : St → Int32 → Int32 → Int32 → Option (Int32 × St)) (kh46 : St → Int32 → Int32 → Int32 → Int32 → Option (Int32 × St)) (s17 : St) (v13 : Int32) (v14 : Int32) (v15 : Int32) (v16 : Int32) : Option (Int32 × St) :=
bnd (v16 + 1) fun x18 =>
kh46 s17 v13 v14 v15 x18
def bX4_search_94 (kh2 : St → Int32 → Int32 → Int32 → Option (Int32 × St)) (kh46 : St → Int32 → Int32 → Int32 → Int32 → Option (Int32 × St)) (kh94 : St → Int32 → Int32 → Int32 → Int32 → Int32 → Option (Int32 × St)) (s24 : St) (v19 : Int32) (v20 : Int32) (v21 : Int32) (v22 : Int32) (v23 : Int32) : Option (Int32 × St) :=
(mX4_choices s24 v19 2).bind fun r25 =>
if r25 ≤ v23 then (
mX4_search_137 kh2 kh46 s24 v19 v20 v21 v22)
else (
(mX4_refusal s24 v19 v20 v21 v22 v23).bind fun ⟨r28, s30⟩ =>
if r28 = 0 then (
mX4_search_119 s30 v19 v21 v22 v23)
else (
bnd (v23 + 1) fun x32 =>
kh94 s30 v19 v20 v21 v22 x32))
abbrev mX4_search_94 (kh2 : St → Int32 → Int32 → Int32 → Option (Int32 × St)) (kh46 : St → Int32 → Int32 → Int32 → Int32 → Option (Int32 × St)) (n : Nat) : St → Int32 → Int32 → Int32 → Int32 → Int32 → Option (Int32 × St) := fx (fun _ _ _ _ _ _ => none) (bX4_search_94 kh2 kh46) n
def bX4_search_46 (kh2 : St → Int32 → Int32 → Int32 → Option (Int32 × St)) (kh46 : St → Int32 → Int32 → Int32 → Int32 → Option (Int32 × St)) (s37 : St) (v33 : Int32) (v34 : Int32) (v35 : Int32) (v36 : Int32) : Option (Int32 × St) :=
(mX4_choices s37 v33 1).bind fun r38 =>
if r38 ≤ v36 then (
mX4_search_143 kh2 s37 v33 v34 v35)
else (
(mX3_kind s37 v33 1 v35).bind fun r41 =>
(mX4_reaches s37 r41 v36).bind fun r43 =>
if r43 = 0 then (
mX4_search_137 kh2 kh46 s37 v33 v34 v35 v36)
else (
(mX4_secondFits s37 v33 v34 v35 v36).bind fun r46 =>
if r46 = 0 then (
mX4_search_137 kh2 kh46 s37 v33 v34 v35 v36)
else (
mX4_search_94 kh2 kh46 NF s37 v33 v34 v35 v36 0)))
abbrev mX4_search_46 (kh2 : St → Int32 → Int32 → Int32 → Option (Int32 × St)) (n : Nat) : St → Int32 → Int32 → Int32 → Int32 → Option (Int32 × St) := fx (fun _ _ _ _ _ => none) (bX4_search_46 kh2) n
def bX4_search_2 (kh2 : St → Int32 → Int32 → Int32 → Option (Int32 × St)) (s52 : St) (v49 : Int32) (v50 : Int32) (v51 : Int32) : Option (Int32 × St) :=
(mX4_choices s52 v49 0).bind fun r53 =>
if r53 ≤ v51 then (
some (0, s52))
else (
(mX3_kind s52 v49 0 v51).bind fun r56 =>
(mX4_reaches s52 r56 v51).bind fun r58 =>
if r58 = 0 then (
mX4_search_143 kh2 s52 v49 v50 v51)
else (
(mX4_firstFits s52 v49 v50 v51).bind fun r61 =>
if r61 = 0 then (
mX4_search_143 kh2 s52 v49 v50 v51)
else (
mX4_search_46 kh2 NF s52 v49 v50 v51 0)))
abbrev mX4_search_2 (n : Nat) : St → Int32 → Int32 → Int32 → Option (Int32 × St) := fx (fun _ _ _ _ => none) (bX4_search_2) n
def mX4_search (σ : St) (p1 : Int32) (p2 : Int32) : Option (Int32 × St) :=
mX4_search_2 NF σ p1 p2 0
set_option maxHeartbeats 4000000 in
set_option maxRecDepth 100000 in
theorem kX4_search (l : Launch) (D : va_G) (y : Nat → ClassId) (a t : Nat → Nat) (hI : AI a 37) (sz : Nat) (σ τ : St) (p1 : Int32) (p2 : Int32) (r : Int32) (hm : mX4_search σ p1 p2 = some (r, τ)) : Met l yX4_search zX4_search { frames := 5, cells := 0, slots := 0, locals := 124 } (va_Pc [.ref (a 7), .int p1, .int p2] (preW (wC y a) a 37 D y t σ sz)) (va_Qi (fun r' u => r' = r ∧ u = τ) (posW (wC y a) D) (AC a 37 sz)) 0 0 (AC a 37 sz) := by
  refine Met.ofW (cc := cX4_search) (maxL := 6) (ret := (some .boolean)) (by decide) rfl ?_
  intro p e s m args below meth c s₁ B hml hv
  obtain ⟨rfl, hsz, hP, hK, hF⟩ := hv
  have hx := B.exec
  have hb := B.bytes
  have hr := B.returns
  have hts := atoms_spec (ws := zX4_search) B.pre
  have hown : s.vm.findClass RX4 = some m.cls := findClass_of_methodNamed B.named
  have hlocks := B.notSynchronized
  subst hsz
  have l_f23 := hts _ (List.mem_cons_of_mem _ aF_X4_23)
  have h_X4 : ∀ w ∈ wsX40, w.before _ s = true := fun w hw => hts w (List.mem_cons_of_mem _ (hwX4 w hw))
  have hS : va_S (AC a 37 s.heap.size) s.heap s.heap [] := va_S.rf
  have hl := lv_entry ([.ref (a 7), .int p1, .int p2]) (n := 6) (Nat.le_of_ble_eq_true rfl)
  rw [lg_entry_eq]
  generalize (lg_sl ([.ref (a 7), .int p1, .int p2]) ++ List.replicate (6 - (lg_sl ([.ref (a 7), .int p1, .int p2])).length) Slot.unset).toArray = ls at hl ⊢
  have hl : lv_has ls 6 [(0, .ref (a 7)), (1, .int p1), (2, .int p2)] := hl
  have L_119 : ∀ (s5 : St) (v1 : Int32) (v2 : Int32) (v3 : Int32) (v4 : Int32) (H : Heap) (locs : List Loc) (ls : Array Slot), va_P D vwCl (wC y a s5) H → va_S (AC a 37 s.heap.size) s.heap H locs → lv_has ls 6 [(0, .ref (a 7)), (1, .int v1), (3, .int v2), (4, .int v3), (5, .int v4)] → mX4_search_119 s5 v1 v2 v3 v4 = some (r, τ) → W p l e (headSpec zX4_search ({ frames := 5, cells := 0, slots := 0, locals := 124 })).room s m ([.ref (a 7), .int p1, .int p2] : List Value).toArray below meth c H locs 0 0 (MQ below (va_Qi (fun r' u => r' = r ∧ u = τ) (posW (wC y a) D) (AC a 37 s.heap.size)) ([.ref (a 7), .int p1, .int p2] : List Value).toArray s 0 0 (AC a 37 s.heap.size)) (F0 m 119 ls []) := by
    intro s5 v1 v2 v3 v4 H locs ls hP hS hl hm
    unfold mX4_search_119 at hm
    refine lv_aload_n hx hb dX4_search_119 rfl (lv_at hl 0 rfl) ?_
    refine lv_iload_n hx hb dX4_search_120 rfl (lv_at hl 1 rfl) ?_
    refine lv_iload_n hx hb dX4_search_121 rfl (lv_at hl 2 rfl) ?_
    refine lv_iload hx hb dX4_search_122 (lv_at hl 3 rfl) ?_
    refine lv_iload hx hb dX4_search_124 (lv_at hl 4 rfl) ?_
    obtain ⟨s7, h6, hm⟩ := ok_bind hm
    refine calV_v (As := [.int v1, .int v2, .int v3, .int v4]) (rest := []) ⟨hx, hb, hml, hown, hts⟩ (kX4_keep l D y a t hI _ s5 s7 v1 v2 v3 v4 h6) (cwV 4 hts (gAV aM_X4_101 aI_X4_keep aS_X4_keep aN_X4 aC_X4_keep) rfl rfl rfl eX4_keep ⟨Nat.le_of_ble_eq_true rfl, Nat.le_of_ble_eq_true rfl⟩) (preV_W (ci := 4) (q := (RX4, TX4, 4)) hK hP hF hS rfl (wC_7 y a s5)) rfl hl.1 rfl (Nat.le_of_ble_eq_true rfl) dX4_search_126 ⟨Nat.zero_le _, Nat.zero_le _⟩ hS (AC_le hS.1) (fun H locs hP hS hk1 => ?_)
    refine lv_iconst (v := 1) hx hb dX4_search_129 (by decide) ?_
    exact W.zret (v := 1) hx hb hr rfl (fun T hT hW => ⟨⟨1, s7, rfl, ⟨congrArg Prod.fst (Option.some.inj hm), congrArg Prod.snd (Option.some.inj hm)⟩, by rw [posW, hT]; exact hP⟩, hS.F hT⟩) hS.2.2 dX4_search_130
  have L_2 : ∀ (n : Nat) (s52 : St) (v49 : Int32) (v50 : Int32) (v51 : Int32) (H : Heap) (locs : List Loc) (ls : Array Slot), va_P D vwCl (wC y a s52) H → va_S (AC a 37 s.heap.size) s.heap H locs → lv_has ls 6 [(0, .ref (a 7)), (1, .int v49), (2, .int v50), (3, .int v51)] → mX4_search_2 n s52 v49 v50 v51 = some (r, τ) → W p l e (headSpec zX4_search ({ frames := 5, cells := 0, slots := 0, locals := 124 })).room s m ([.ref (a 7), .int p1, .int p2] : List Value).toArray below meth c H locs 0 0 (MQ below (va_Qi (fun r' u => r' = r ∧ u = τ) (posW (wC y a) D) (AC a 37 s.heap.size)) ([.ref (a 7), .int p1, .int p2] : List Value).toArray s 0 0 (AC a 37 s.heap.size)) (F0 m 2 ls []) := by
    intro n
    induction n with
    | zero =>
      intro s52 v49 v50 v51 H locs ls hP hS hl hm
      exact absurd (show (none : Option (Int32 × St)) = some (r, τ) from hm) (by intro h; cases h)
    | succ n ih2 =>
      obtain ⟨kh2, ekh2⟩ : ∃ z, z = mX4_search_2 n := ⟨_, rfl⟩
      have ih2 : ∀ (s52 : St) (v49 : Int32) (v50 : Int32) (v51 : Int32) (H : Heap) (locs : List Loc) (ls : Array Slot), va_P D vwCl (wC y a s52) H → va_S (AC a 37 s.heap.size) s.heap H locs → lv_has ls 6 [(0, .ref (a 7)), (1, .int v49), (2, .int v50), (3, .int v51)] → kh2 s52 v49 v50 v51 = some (r, τ) → W p l e (headSpec zX4_search ({ frames := 5, cells := 0, slots := 0, locals := 124 })).room s m ([.ref (a 7), .int p1, .int p2] : List Value).toArray below meth c H locs 0 0 (MQ below (va_Qi (fun r' u => r' = r ∧ u = τ) (posW (wC y a) D) (AC a 37 s.heap.size)) ([.ref (a 7), .int p1, .int p2] : List Value).toArray s 0 0 (AC a 37 s.heap.size)) (F0 m 2 ls []) := by rw [ekh2]; exact ih2
      have L_143 : ∀ (s11 : St) (v8 : Int32) (v9 : Int32) (v10 : Int32) (H : Heap) (locs : List Loc) (ls : Array Slot), va_P D vwCl (wC y a s11) H → va_S (AC a 37 s.heap.size) s.heap H locs → lv_has ls 6 [(0, .ref (a 7)), (1, .int v8), (2, .int v9), (3, .int v10)] → mX4_search_143 kh2 s11 v8 v9 v10 = some (r, τ) → W p l e (headSpec zX4_search ({ frames := 5, cells := 0, slots := 0, locals := 124 })).room s m ([.ref (a 7), .int p1, .int p2] : List Value).toArray below meth c H locs 0 0 (MQ below (va_Qi (fun r' u => r' = r ∧ u = τ) (posW (wC y a) D) (AC a 37 s.heap.size)) ([.ref (a 7), .int p1, .int p2] : List Value).toArray s 0 0 (AC a 37 s.heap.size)) (F0 m 143 ls []) := by
        intro s11 v8 v9 v10 H locs ls hP hS hl hm
        unfold mX4_search_143 at hm
        obtain ⟨x12, ex12⟩ : ∃ z : Int32, z = v10 + 1 := ⟨_, rfl⟩
        have hm := bnd_x ex12 hm
        refine lv_iinc (v := x12) (lv' := [(3, .int x12), (0, .ref (a 7)), (1, .int v8), (2, .int v9)]) hx hb dX4_search_143 hl (k := 3) rfl (by rw [ex12]; rfl) (by decide) rfl (fun ls hl => ?_)
        refine lv_goto (tgt := 2) hx hb dX4_search_146 (by decide) ?_
        exact ih2 s11 v8 v9 x12 _ _ _ hP hS (lv_sub hl [1, 2, 3, 0] rfl) hm
      have L_46 : ∀ (n : Nat) (s37 : St) (v33 : Int32) (v34 : Int32) (v35 : Int32) (v36 : Int32) (H : Heap) (locs : List Loc) (ls : Array Slot), va_P D vwCl (wC y a s37) H → va_S (AC a 37 s.heap.size) s.heap H locs → lv_has ls 6 [(0, .ref (a 7)), (1, .int v33), (2, .int v34), (3, .int v35), (4, .int v36)] → mX4_search_46 kh2 n s37 v33 v34 v35 v36 = some (r, τ) → W p l e (headSpec zX4_search ({ frames := 5, cells := 0, slots := 0, locals := 124 })).room s m ([.ref (a 7), .int p1, .int p2] : List Value).toArray below meth c H locs 0 0 (MQ below (va_Qi (fun r' u => r' = r ∧ u = τ) (posW (wC y a) D) (AC a 37 s.heap.size)) ([.ref (a 7), .int p1, .int p2] : List Value).toArray s 0 0 (AC a 37 s.heap.size)) (F0 m 46 ls []) := by
        intro n
        induction n with
        | zero =>
          intro s37 v33 v34 v35 v36 H locs ls hP hS hl hm
          exact absurd (show (none : Option (Int32 × St)) = some (r, τ) from hm) (by intro h; cases h)
        | succ n ih46 =>
          obtain ⟨kh46, ekh46⟩ : ∃ z, z = mX4_search_46 kh2 n := ⟨_, rfl⟩
          have ih46 : ∀ (s37 : St) (v33 : Int32) (v34 : Int32) (v35 : Int32) (v36 : Int32) (H : Heap) (locs : List Loc) (ls : Array Slot), va_P D vwCl (wC y a s37) H → va_S (AC a 37 s.heap.size) s.heap H locs → lv_has ls 6 [(0, .ref (a 7)), (1, .int v33), (2, .int v34), (3, .int v35), (4, .int v36)] → kh46 s37 v33 v34 v35 v36 = some (r, τ) → W p l e (headSpec zX4_search ({ frames := 5, cells := 0, slots := 0, locals := 124 })).room s m ([.ref (a 7), .int p1, .int p2] : List Value).toArray below meth c H locs 0 0 (MQ below (va_Qi (fun r' u => r' = r ∧ u = τ) (posW (wC y a) D) (AC a 37 s.heap.size)) ([.ref (a 7), .int p1, .int p2] : List Value).toArray s 0 0 (AC a 37 s.heap.size)) (F0 m 46 ls []) := by rw [ekh46]; exact ih46
          have L_137 : ∀ (s17 : St) (v13 : Int32) (v14 : Int32) (v15 : Int32) (v16 : Int32) (H : Heap) (locs : List Loc) (ls : Array Slot), va_P D vwCl (wC y a s17) H → va_S (AC a 37 s.heap.size) s.heap H locs → lv_has ls 6 [(0, .ref (a 7)), (1, .int v13), (2, .int v14), (3, .int v15), (4, .int v16)] → mX4_search_137 kh2 kh46 s17 v13 v14 v15 v16 = some (r, τ) → W p l e (headSpec zX4_search ({ frames := 5, cells := 0, slots := 0, locals := 124 })).room s m ([.ref (a 7), .int p1, .int p2] : List Value).toArray below meth c H locs 0 0 (MQ below (va_Qi (fun r' u => r' = r ∧ u = τ) (posW (wC y a) D) (AC a 37 s.heap.size)) ([.ref (a 7), .int p1, .int p2] : List Value).toArray s 0 0 (AC a 37 s.heap.size)) (F0 m 137 ls []) := by
            intro s17 v13 v14 v15 v16 H locs ls hP hS hl hm
            unfold mX4_search_137 at hm
            obtain ⟨x18, ex18⟩ : ∃ z : Int32, z = v16 + 1 := ⟨_, rfl⟩
            have hm := bnd_x ex18 hm
            refine lv_iinc (v := x18) (lv' := [(4, .int x18), (0, .ref (a 7)), (1, .int v13), (2, .int v14), (3, .int v15)]) hx hb dX4_search_137 hl (k := 4) rfl (by rw [ex18]; rfl) (by decide) rfl (fun ls hl => ?_)
            refine lv_goto (tgt := 46) hx hb dX4_search_140 (by decide) ?_
            exact ih46 s17 v13 v14 v15 x18 _ _ _ hP hS (lv_sub hl [1, 2, 3, 4, 0] rfl) hm
          have L_94 : ∀ (n : Nat) (s24 : St) (v19 : Int32) (v20 : Int32) (v21 : Int32) (v22 : Int32) (v23 : Int32) (H : Heap) (locs : List Loc) (ls : Array Slot), va_P D vwCl (wC y a s24) H → va_S (AC a 37 s.heap.size) s.heap H locs → lv_has ls 6 [(0, .ref (a 7)), (1, .int v19), (2, .int v20), (3, .int v21), (4, .int v22), (5, .int v23)] → mX4_search_94 kh2 kh46 n s24 v19 v20 v21 v22 v23 = some (r, τ) → W p l e (headSpec zX4_search ({ frames := 5, cells := 0, slots := 0, locals := 124 })).room s m ([.ref (a 7), .int p1, .int p2] : List Value).toArray below meth c H locs 0 0 (MQ below (va_Qi (fun r' u => r' = r ∧ u = τ) (posW (wC y a) D) (AC a 37 s.heap.size)) ([.ref (a 7), .int p1, .int p2] : List Value).toArray s 0 0 (AC a 37 s.heap.size)) (F0 m 94 ls []) := by
            intro n
            induction n with
            | zero =>
              intro s24 v19 v20 v21 v22 v23 H locs ls hP hS hl hm
              exact absurd (show (none : Option (Int32 × St)) = some (r, τ) from hm) (by intro h; cases h)
            | succ n ih94 =>
              obtain ⟨kh94, ekh94⟩ : ∃ z, z = mX4_search_94 kh2 kh46 n := ⟨_, rfl⟩
              have ih94 : ∀ (s24 : St) (v19 : Int32) (v20 : Int32) (v21 : Int32) (v22 : Int32) (v23 : Int32) (H : Heap) (locs : List Loc) (ls : Array Slot), va_P D vwCl (wC y a s24) H → va_S (AC a 37 s.heap.size) s.heap H locs → lv_has ls 6 [(0, .ref (a 7)), (1, .int v19), (2, .int v20), (3, .int v21), (4, .int v22), (5, .int v23)] → kh94 s24 v19 v20 v21 v22 v23 = some (r, τ) → W p l e (headSpec zX4_search ({ frames := 5, cells := 0, slots := 0, locals := 124 })).room s m ([.ref (a 7), .int p1, .int p2] : List Value).toArray below meth c H locs 0 0 (MQ below (va_Qi (fun r' u => r' = r ∧ u = τ) (posW (wC y a) D) (AC a 37 s.heap.size)) ([.ref (a 7), .int p1, .int p2] : List Value).toArray s 0 0 (AC a 37 s.heap.size)) (F0 m 94 ls []) := by rw [ekh94]; exact ih94
              intro s24 v19 v20 v21 v22 v23 H locs ls hP hS hl hm
              have hm : bX4_search_94 kh2 kh46 (mX4_search_94 kh2 kh46 n) s24 v19 v20 v21 v22 v23 = some (r, τ) := hm
              rw [← ekh94] at hm
              unfold bX4_search_94 at hm
              refine lv_iload hx hb dX4_search_94 (lv_at hl 5 rfl) ?_
              refine lv_aload_n hx hb dX4_search_96 rfl (lv_at hl 0 rfl) ?_
              refine lv_iload_n hx hb dX4_search_97 rfl (lv_at hl 1 rfl) ?_
              refine lv_iconst (v := 2) hx hb dX4_search_98 (by decide) ?_
              obtain ⟨r25, h26, hm⟩ := ok_bind hm
              refine calV_i (As := [.int v19, .int 2]) (rest := [.int v23]) ⟨hx, hb, hml, hown, hts⟩ (kX4_choices l D y a t hI _ s24 v19 2 r25 h26) (cwV 2 hts (gAV aM_X4_93 aI_X4_choices aS_X4_choices aN_X4 aC_X4_choices) rfl rfl rfl eX4_choices ⟨Nat.le_of_ble_eq_true rfl, Nat.le_of_ble_eq_true rfl⟩) (preV_W (ci := 4) (q := (RX4, TX4, 4)) hK hP hF hS rfl (wC_7 y a s24)) rfl hl.1 rfl (Nat.le_of_ble_eq_true rfl) dX4_search_99 ⟨Nat.zero_le _, Nat.zero_le _⟩ hS (AC_le hS.1) (fun H locs hP hS hk1 => ?_)
              refine lv_icmp_ge (tgt := 137) hx hb dX4_search_102 (by decide) (fun c27 => ?_) (fun c27 => ?_)
              · have hm := (if_pos c27).symm.trans hm
                exact L_137 s24 v19 v20 v21 v22 _ _ _ hP hS (lv_sub hl [0, 1, 2, 3, 4] rfl) hm
              · have hm := (if_neg c27).symm.trans hm
                refine lv_aload_n hx hb dX4_search_105 rfl (lv_at hl 0 rfl) ?_
                refine lv_iload_n hx hb dX4_search_106 rfl (lv_at hl 1 rfl) ?_
                refine lv_iload_n hx hb dX4_search_107 rfl (lv_at hl 2 rfl) ?_
                refine lv_iload_n hx hb dX4_search_108 rfl (lv_at hl 3 rfl) ?_
                refine lv_iload hx hb dX4_search_109 (lv_at hl 4 rfl) ?_
                refine lv_iload hx hb dX4_search_111 (lv_at hl 5 rfl) ?_
                obtain ⟨⟨r28, s30⟩, h29, hm⟩ := ok_bind hm
                refine calV_i (As := [.int v19, .int v20, .int v21, .int v22, .int v23]) (rest := []) ⟨hx, hb, hml, hown, hts⟩ (kX4_refusal l D y a t hI _ s24 s30 v19 v20 v21 v22 v23 r28 h29) (cwV 5 hts (gAV aM_X4_97 aI_X4_refusal aS_X4_refusal aN_X4 aC_X4_refusal) rfl rfl rfl eX4_refusal ⟨Nat.le_of_ble_eq_true rfl, Nat.le_of_ble_eq_true rfl⟩) (preV_W (ci := 4) (q := (RX4, TX4, 4)) hK hP hF hS rfl (wC_7 y a s24)) rfl hl.1 rfl (Nat.le_of_ble_eq_true rfl) dX4_search_113 ⟨Nat.zero_le _, Nat.zero_le _⟩ hS (AC_le hS.1) (fun H locs hP hS hk1 => ?_)
                refine lv_if_ne (tgt := 131) hx hb dX4_search_116 (by decide) (fun c31 => ?_) (fun c31 => ?_)
                · have hm := (if_neg c31).symm.trans hm
                  obtain ⟨x32, ex32⟩ : ∃ z : Int32, z = v23 + 1 := ⟨_, rfl⟩
                  have hm := bnd_x ex32 hm
                  refine lv_iinc (v := x32) (lv' := [(5, .int x32), (0, .ref (a 7)), (1, .int v19), (2, .int v20), (3, .int v21), (4, .int v22)]) hx hb dX4_search_131 hl (k := 5) rfl (by rw [ex32]; rfl) (by decide) rfl (fun ls hl => ?_)
                  refine lv_goto (tgt := 94) hx hb dX4_search_134 (by decide) ?_
                  exact ih94 s30 v19 v20 v21 v22 x32 _ _ _ hP hS (lv_sub hl [1, 2, 3, 4, 5, 0] rfl) hm
                · have hm := (if_pos c31).symm.trans hm
                  exact L_119 s30 v19 v21 v22 v23 _ _ _ hP hS (lv_sub hl [0, 1, 3, 4, 5] rfl) hm
          intro s37 v33 v34 v35 v36 H locs ls hP hS hl hm
          have hm : bX4_search_46 kh2 (mX4_search_46 kh2 n) s37 v33 v34 v35 v36 = some (r, τ) := hm
          rw [← ekh46] at hm
          unfold bX4_search_46 at hm
          refine lv_iload hx hb dX4_search_46 (lv_at hl 4 rfl) ?_
          refine lv_aload_n hx hb dX4_search_48 rfl (lv_at hl 0 rfl) ?_
          refine lv_iload_n hx hb dX4_search_49 rfl (lv_at hl 1 rfl) ?_
          refine lv_iconst (v := 1) hx hb dX4_search_50 (by decide) ?_
          obtain ⟨r38, h39, hm⟩ := ok_bind hm
          refine calV_i (As := [.int v33, .int 1]) (rest := [.int v36]) ⟨hx, hb, hml, hown, hts⟩ (kX4_choices l D y a t hI _ s37 v33 1 r38 h39) (cwV 2 hts (gAV aM_X4_93 aI_X4_choices aS_X4_choices aN_X4 aC_X4_choices) rfl rfl rfl eX4_choices ⟨Nat.le_of_ble_eq_true rfl, Nat.le_of_ble_eq_true rfl⟩) (preV_W (ci := 4) (q := (RX4, TX4, 4)) hK hP hF hS rfl (wC_7 y a s37)) rfl hl.1 rfl (Nat.le_of_ble_eq_true rfl) dX4_search_51 ⟨Nat.zero_le _, Nat.zero_le _⟩ hS (AC_le hS.1) (fun H locs hP hS hk1 => ?_)
          refine lv_icmp_ge (tgt := 143) hx hb dX4_search_54 (by decide) (fun c40 => ?_) (fun c40 => ?_)
          · have hm := (if_pos c40).symm.trans hm
            exact L_143 s37 v33 v34 v35 _ _ _ hP hS (lv_sub hl [0, 1, 2, 3] rfl) hm
          · have hm := (if_neg c40).symm.trans hm
            refine lv_aload_n hx hb dX4_search_57 rfl (lv_at hl 0 rfl) ?_
            refine lv_aload_n hx hb dX4_search_58 rfl (lv_at hl 0 rfl) ?_
            refine gfX4_proof hx hb h_X4 hown hK hP l_f23 dX4_search_59 ?_
            refine lv_iload_n hx hb dX4_search_62 rfl (lv_at hl 1 rfl) ?_
            refine lv_iconst (v := 1) hx hb dX4_search_63 (by decide) ?_
            refine lv_iload_n hx hb dX4_search_64 rfl (lv_at hl 3 rfl) ?_
            obtain ⟨r41, h42, hm⟩ := ok_bind hm
            refine calV_i (As := [.int v33, .int 1, .int v35]) (rest := [.ref (a 7)]) ⟨hx, hb, hml, hown, hts⟩ (kX3_kind l D y a t hI _ s37 v33 1 v35 r41 h42) (cwV 3 hts (gAV aM_X4_27 aI_X3_kind aS_X3_kind aN_X3 aC_X3_kind) rfl rfl rfl eX3_kind ⟨Nat.le_of_ble_eq_true rfl, Nat.le_of_ble_eq_true rfl⟩) (preV_W (ci := 3) (q := (RX3, TX3, 12)) hK hP hF hS rfl (wC_5 y a s37)) rfl hl.1 rfl (Nat.le_of_ble_eq_true rfl) dX4_search_65 ⟨Nat.zero_le _, Nat.zero_le _⟩ hS (AC_le hS.1) (fun H locs hP hS hk1 => ?_)
            refine lv_iload hx hb dX4_search_68 (lv_at hl 4 rfl) ?_
            obtain ⟨r43, h44, hm⟩ := ok_bind hm
            refine calV_i (As := [.int r41, .int v36]) (rest := []) ⟨hx, hb, hml, hown, hts⟩ (kX4_reaches l D y a t hI _ s37 r41 v36 r43 h44) (cwV 2 hts (gAV aM_X4_33 aI_X4_reaches aS_X4_reaches aN_X4 aC_X4_reaches) rfl rfl rfl eX4_reaches ⟨Nat.le_of_ble_eq_true rfl, Nat.le_of_ble_eq_true rfl⟩) (preV_W (ci := 4) (q := (RX4, TX4, 4)) hK hP hF hS rfl (wC_7 y a s37)) rfl hl.1 rfl (Nat.le_of_ble_eq_true rfl) dX4_search_70 ⟨Nat.zero_le _, Nat.zero_le _⟩ hS (AC_le hS.1) (fun H locs hP hS hk1 => ?_)
            refine lv_if_eq (tgt := 137) hx hb dX4_search_73 (by decide) (fun c45 => ?_) (fun c45 => ?_)
            · have hm := (if_pos c45).symm.trans hm
              exact L_137 s37 v33 v34 v35 v36 _ _ _ hP hS (lv_sub hl [0, 1, 2, 3, 4] rfl) hm
            · have hm := (if_neg c45).symm.trans hm
              refine lv_aload_n hx hb dX4_search_76 rfl (lv_at hl 0 rfl) ?_
              refine lv_iload_n hx hb dX4_search_77 rfl (lv_at hl 1 rfl) ?_
              refine lv_iload_n hx hb dX4_search_78 rfl (lv_at hl 2 rfl) ?_
              refine lv_iload_n hx hb dX4_search_79 rfl (lv_at hl 3 rfl) ?_
              refine lv_iload hx hb dX4_search_80 (lv_at hl 4 rfl) ?_
              obtain ⟨r46, h47, hm⟩ := ok_bind hm
              refine calV_i (As := [.int v33, .int v34, .int v35, .int v36]) (rest := []) ⟨hx, hb, hml, hown, hts⟩ (kX4_secondFits l D y a t hI _ s37 v33 v34 v35 v36 r46 h47) (cwV 4 hts (gAV aM_X4_48 aI_X4_secondFits aS_X4_secondFits aN_X4 aC_X4_secondFits) rfl rfl rfl eX4_secondFits ⟨Nat.le_of_ble_eq_true rfl, Nat.le_of_ble_eq_true rfl⟩) (preV_W (ci := 4) (q := (RX4, TX4, 4)) hK hP hF hS rfl (wC_7 y a s37)) rfl hl.1 rfl (Nat.le_of_ble_eq_true rfl) dX4_search_82 ⟨Nat.zero_le _, Nat.zero_le _⟩ hS (AC_le hS.1) (fun H locs hP hS hk1 => ?_)
              refine lv_if_ne (tgt := 91) hx hb dX4_search_85 (by decide) (fun c48 => ?_) (fun c48 => ?_)
              · have hm := (if_neg c48).symm.trans hm
                refine lv_iconst (v := 0) hx hb dX4_search_91 (by decide) ?_
                refine lv_istore (lv' := [(5, .int 0), (0, .ref (a 7)), (1, .int v33), (2, .int v34), (3, .int v35), (4, .int v36)]) hx hb dX4_search_92 hl (by decide) rfl (fun ls hl => ?_)
                exact L_94 NF s37 v33 v34 v35 v36 0 _ _ _ hP hS (lv_sub hl [1, 2, 3, 4, 5, 0] rfl) hm
              · have hm := (if_pos c48).symm.trans hm
                refine lv_goto (tgt := 137) hx hb dX4_search_88 (by decide) ?_
                exact L_137 s37 v33 v34 v35 v36 _ _ _ hP hS (lv_sub hl [0, 1, 2, 3, 4] rfl) hm
      intro s52 v49 v50 v51 H locs ls hP hS hl hm
      have hm : bX4_search_2 (mX4_search_2 n) s52 v49 v50 v51 = some (r, τ) := hm
      rw [← ekh2] at hm
      unfold bX4_search_2 at hm
      refine lv_iload_n hx hb dX4_search_2 rfl (lv_at hl 3 rfl) ?_
      refine lv_aload_n hx hb dX4_search_3 rfl (lv_at hl 0 rfl) ?_
      refine lv_iload_n hx hb dX4_search_4 rfl (lv_at hl 1 rfl) ?_
      refine lv_iconst (v := 0) hx hb dX4_search_5 (by decide) ?_
      obtain ⟨r53, h54, hm⟩ := ok_bind hm
      refine calV_i (As := [.int v49, .int 0]) (rest := [.int v51]) ⟨hx, hb, hml, hown, hts⟩ (kX4_choices l D y a t hI _ s52 v49 0 r53 h54) (cwV 2 hts (gAV aM_X4_93 aI_X4_choices aS_X4_choices aN_X4 aC_X4_choices) rfl rfl rfl eX4_choices ⟨Nat.le_of_ble_eq_true rfl, Nat.le_of_ble_eq_true rfl⟩) (preV_W (ci := 4) (q := (RX4, TX4, 4)) hK hP hF hS rfl (wC_7 y a s52)) rfl hl.1 rfl (Nat.le_of_ble_eq_true rfl) dX4_search_6 ⟨Nat.zero_le _, Nat.zero_le _⟩ hS (AC_le hS.1) (fun H locs hP hS hk1 => ?_)
      refine lv_icmp_ge (tgt := 149) hx hb dX4_search_9 (by decide) (fun c55 => ?_) (fun c55 => ?_)
      · have hm := (if_pos c55).symm.trans hm
        refine lv_iconst (v := 0) hx hb dX4_search_149 (by decide) ?_
        exact W.zret (v := 0) hx hb hr rfl (fun T hT hW => ⟨⟨0, s52, rfl, ⟨congrArg Prod.fst (Option.some.inj hm), congrArg Prod.snd (Option.some.inj hm)⟩, by rw [posW, hT]; exact hP⟩, hS.F hT⟩) hS.2.2 dX4_search_150
      · have hm := (if_neg c55).symm.trans hm
        refine lv_aload_n hx hb dX4_search_12 rfl (lv_at hl 0 rfl) ?_
        refine lv_aload_n hx hb dX4_search_13 rfl (lv_at hl 0 rfl) ?_
        refine gfX4_proof hx hb h_X4 hown hK hP l_f23 dX4_search_14 ?_
        refine lv_iload_n hx hb dX4_search_17 rfl (lv_at hl 1 rfl) ?_
        refine lv_iconst (v := 0) hx hb dX4_search_18 (by decide) ?_
        refine lv_iload_n hx hb dX4_search_19 rfl (lv_at hl 3 rfl) ?_
        obtain ⟨r56, h57, hm⟩ := ok_bind hm
        refine calV_i (As := [.int v49, .int 0, .int v51]) (rest := [.ref (a 7)]) ⟨hx, hb, hml, hown, hts⟩ (kX3_kind l D y a t hI _ s52 v49 0 v51 r56 h57) (cwV 3 hts (gAV aM_X4_27 aI_X3_kind aS_X3_kind aN_X3 aC_X3_kind) rfl rfl rfl eX3_kind ⟨Nat.le_of_ble_eq_true rfl, Nat.le_of_ble_eq_true rfl⟩) (preV_W (ci := 3) (q := (RX3, TX3, 12)) hK hP hF hS rfl (wC_5 y a s52)) rfl hl.1 rfl (Nat.le_of_ble_eq_true rfl) dX4_search_20 ⟨Nat.zero_le _, Nat.zero_le _⟩ hS (AC_le hS.1) (fun H locs hP hS hk1 => ?_)
        refine lv_iload_n hx hb dX4_search_23 rfl (lv_at hl 3 rfl) ?_
        obtain ⟨r58, h59, hm⟩ := ok_bind hm
        refine calV_i (As := [.int r56, .int v51]) (rest := []) ⟨hx, hb, hml, hown, hts⟩ (kX4_reaches l D y a t hI _ s52 r56 v51 r58 h59) (cwV 2 hts (gAV aM_X4_33 aI_X4_reaches aS_X4_reaches aN_X4 aC_X4_reaches) rfl rfl rfl eX4_reaches ⟨Nat.le_of_ble_eq_true rfl, Nat.le_of_ble_eq_true rfl⟩) (preV_W (ci := 4) (q := (RX4, TX4, 4)) hK hP hF hS rfl (wC_7 y a s52)) rfl hl.1 rfl (Nat.le_of_ble_eq_true rfl) dX4_search_24 ⟨Nat.zero_le _, Nat.zero_le _⟩ hS (AC_le hS.1) (fun H locs hP hS hk1 => ?_)
        refine lv_if_eq (tgt := 143) hx hb dX4_search_27 (by decide) (fun c60 => ?_) (fun c60 => ?_)
        · have hm := (if_pos c60).symm.trans hm
          exact L_143 s52 v49 v50 v51 _ _ _ hP hS (lv_sub hl [0, 1, 2, 3] rfl) hm
        · have hm := (if_neg c60).symm.trans hm
          refine lv_aload_n hx hb dX4_search_30 rfl (lv_at hl 0 rfl) ?_
          refine lv_iload_n hx hb dX4_search_31 rfl (lv_at hl 1 rfl) ?_
          refine lv_iload_n hx hb dX4_search_32 rfl (lv_at hl 2 rfl) ?_
          refine lv_iload_n hx hb dX4_search_33 rfl (lv_at hl 3 rfl) ?_
          obtain ⟨r61, h62, hm⟩ := ok_bind hm
          refine calV_i (As := [.int v49, .int v50, .int v51]) (rest := []) ⟨hx, hb, hml, hown, hts⟩ (kX4_firstFits l D y a t hI _ s52 v49 v50 v51 r61 h62) (cwV 3 hts (gAV aM_X4_45 aI_X4_firstFits aS_X4_firstFits aN_X4 aC_X4_firstFits) rfl rfl rfl eX4_firstFits ⟨Nat.le_of_ble_eq_true rfl, Nat.le_of_ble_eq_true rfl⟩) (preV_W (ci := 4) (q := (RX4, TX4, 4)) hK hP hF hS rfl (wC_7 y a s52)) rfl hl.1 rfl (Nat.le_of_ble_eq_true rfl) dX4_search_34 ⟨Nat.zero_le _, Nat.zero_le _⟩ hS (AC_le hS.1) (fun H locs hP hS hk1 => ?_)
          refine lv_if_ne (tgt := 43) hx hb dX4_search_37 (by decide) (fun c63 => ?_) (fun c63 => ?_)
          · have hm := (if_neg c63).symm.trans hm
            refine lv_iconst (v := 0) hx hb dX4_search_43 (by decide) ?_
            refine lv_istore (lv' := [(4, .int 0), (0, .ref (a 7)), (1, .int v49), (2, .int v50), (3, .int v51)]) hx hb dX4_search_44 hl (by decide) rfl (fun ls hl => ?_)
            exact L_46 NF s52 v49 v50 v51 0 _ _ _ hP hS (lv_sub hl [1, 2, 3, 4, 0] rfl) hm
          · have hm := (if_pos c63).symm.trans hm
            refine lv_goto (tgt := 143) hx hb dX4_search_40 (by decide) ?_
            exact L_143 s52 v49 v50 v51 _ _ _ hP hS (lv_sub hl [0, 1, 2, 3] rfl) hm
  unfold mX4_search at hm
  refine lv_iconst (v := 0) hx hb dX4_search_0 (by decide) ?_
  refine lv_istore_n (lv' := [(3, .int 0), (0, .ref (a 7)), (1, .int p1), (2, .int p2)]) hx hb dX4_search_1 rfl hl (by decide) rfl (fun ls hl => ?_)
  exact L_2 NF σ p1 p2 0 _ _ _ hP hS (lv_sub hl [1, 2, 3, 0] rfl) hm
theorem eX4_found : yX4_found.cls = RX4 ∧ yX4_found.cls ≠ "java/lang/invoke/MethodHandle" ∧ yX4_found.cls ≠ "java/lang/invoke/VarHandle" ∧ (parseMethodDescriptor yX4_found.desc).map (fun d => d.parameters.length) = some 1 := by decide +kernel
def mX4_found (σ : St) (p1 : Int32) : Option Int32 :=
if p1 < 0 then (
some (-1))
else (
if 4 ≤ p1 then (
some (-1))
else (
chkI p1 4 (
some (σ.1 39 p1.toNatClampNeg))))
set_option maxHeartbeats 4000000 in
set_option maxRecDepth 100000 in
theorem kX4_found (l : Launch) (D : va_G) (y : Nat → ClassId) (a t : Nat → Nat) (hI : AI a 37) (sz : Nat) (σ : St) (p1 : Int32) (r : Int32) (hm : mX4_found σ p1 = some r) : Met l yX4_found zX4_found { frames := 0, cells := 0, slots := 0, locals := 0 } (va_Pc [.ref (a 7), .int p1] (preW (wC y a) a 37 D y t σ sz)) (va_Qi (fun r' u => r' = r ∧ u = σ) (posW (wC y a) D) (AC a 37 sz)) 0 0 (AC a 37 sz) := by
  refine Met.ofW (cc := cX4_found) (maxL := 2) (ret := (some .int)) (by decide) rfl ?_
  intro p e s m args below meth c s₁ B hml hv
  obtain ⟨rfl, hsz, hP, hK, hF⟩ := hv
  have hx := B.exec
  have hb := B.bytes
  have hr := B.returns
  have hts := atoms_spec (ws := zX4_found) B.pre
  have hown : s.vm.findClass RX4 = some m.cls := findClass_of_methodNamed B.named
  have hlocks := B.notSynchronized
  subst hsz
  have l_f9 := hts _ (List.mem_cons_of_mem _ aF_X4_9)
  have h_X4 : ∀ w ∈ wsX40, w.before _ s = true := fun w hw => hts w (List.mem_cons_of_mem _ (hwX4 w hw))
  have hS : va_S (AC a 37 s.heap.size) s.heap s.heap [] := va_S.rf
  have hl := lv_entry ([.ref (a 7), .int p1]) (n := 2) (Nat.le_of_ble_eq_true rfl)
  rw [lg_entry_eq]
  generalize (lg_sl ([.ref (a 7), .int p1]) ++ List.replicate (2 - (lg_sl ([.ref (a 7), .int p1])).length) Slot.unset).toArray = ls at hl ⊢
  have hl : lv_has ls 2 [(0, .ref (a 7)), (1, .int p1)] := hl
  unfold mX4_found at hm
  refine lv_iload_n hx hb dX4_found_0 rfl (lv_at hl 1 rfl) ?_
  refine lv_if_lt (tgt := 22) hx hb dX4_found_1 (by decide) (fun c1 => ?_) (fun c1 => ?_)
  · have hm := (if_pos c1).symm.trans hm
    refine lv_iconst (v := (-1)) hx hb dX4_found_22 (by decide) ?_
    exact W.iret (v := (-1)) hx hb hr (fun T hT hW => ⟨⟨(-1), σ, rfl, ⟨Option.some.inj hm, rfl⟩, by rw [posW, hT]; exact hP⟩, hS.F hT⟩) hS.2.2 dX4_found_23
  · have hm := (if_neg c1).symm.trans hm
    refine lv_iload_n hx hb dX4_found_4 rfl (lv_at hl 1 rfl) ?_
    refine lv_aload_n hx hb dX4_found_5 rfl (lv_at hl 0 rfl) ?_
    refine gfX4_found hx hb h_X4 hown hK hP l_f9 dX4_found_6 ?_
    refine alC_36 hx hb hK hP dX4_found_9 ?_
    refine lv_icmp_ge (tgt := 22) hx hb dX4_found_10 (by decide) (fun c2 => ?_) (fun c2 => ?_)
    · have hm := (if_pos c2).symm.trans hm
      refine lv_iconst (v := (-1)) hx hb dX4_found_22 (by decide) ?_
      exact W.iret (v := (-1)) hx hb hr (fun T hT hW => ⟨⟨(-1), σ, rfl, ⟨Option.some.inj hm, rfl⟩, by rw [posW, hT]; exact hP⟩, hS.F hT⟩) hS.2.2 dX4_found_23
    · have hm := (if_neg c2).symm.trans hm
      refine lv_aload_n hx hb dX4_found_13 rfl (lv_at hl 0 rfl) ?_
      refine gfX4_found hx hb h_X4 hown hK hP l_f9 dX4_found_14 ?_
      refine lv_iload_n hx hb dX4_found_17 rfl (lv_at hl 1 rfl) ?_
      obtain ⟨hi, hm⟩ := ok_I hm
      refine ldC_36 hx hb hK hP hi dX4_found_18 ?_
      refine lv_goto (tgt := 23) hx hb dX4_found_19 (by decide) ?_
      exact W.iret (v := σ.1 39 p1.toNatClampNeg) hx hb hr (fun T hT hW => ⟨⟨σ.1 39 p1.toNatClampNeg, σ, rfl, ⟨Option.some.inj hm, rfl⟩, by rw [posW, hT]; exact hP⟩, hS.F hT⟩) hS.2.2 dX4_found_23
