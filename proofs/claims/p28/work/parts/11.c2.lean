theorem eX2_size : yX2_size.cls = RX2 ∧ yX2_size.cls ≠ "java/lang/invoke/MethodHandle" ∧ yX2_size.cls ≠ "java/lang/invoke/VarHandle" ∧ (parseMethodDescriptor yX2_size.desc).map (fun d => d.parameters.length) = some 0 := by decide +kernel
def mX2_size (σ : St) : Option Int32 :=
some (σ.1 5 0)
set_option maxHeartbeats 4000000 in
set_option maxRecDepth 100000 in
theorem kX2_size (l : Launch) (D : va_G) (y : Nat → ClassId) (a t : Nat → Nat) (hI : AI a 37) (sz : Nat) (σ : St) (r : Int32) (hm : mX2_size σ = some r) : Met l yX2_size zX2_size { frames := 0, cells := 0, slots := 0, locals := 0 } (va_Pc [.ref (a 3)] (preW (wC y a) a 37 D y t σ sz)) (va_Qi (fun r' u => r' = r ∧ u = σ) (posW (wC y a) D) (AC a 37 sz)) 0 0 (AC a 37 sz) := by
  refine Met.ofW (cc := cX2_size) (maxL := 1) (ret := (some .int)) (by decide) rfl ?_
  intro p e s m args below meth c s₁ B hml hv
  obtain ⟨rfl, hsz, hP, hK, hF⟩ := hv
  have hx := B.exec
  have hb := B.bytes
  have hr := B.returns
  have hts := atoms_spec (ws := zX2_size) B.pre
  have hown : s.vm.findClass RX2 = some m.cls := findClass_of_methodNamed B.named
  have hlocks := B.notSynchronized
  subst hsz
  have l_f26 := hts _ (List.mem_cons_of_mem _ aF_X2_26)
  have h_X2 : ∀ w ∈ wsX20, w.before _ s = true := fun w hw => hts w (List.mem_cons_of_mem _ (hwX2 w hw))
  have hS : va_S (AC a 37 s.heap.size) s.heap s.heap [] := va_S.rf
  have hl := lv_entry ([.ref (a 3)]) (n := 1) (Nat.le_of_ble_eq_true rfl)
  rw [lg_entry_eq]
  generalize (lg_sl ([.ref (a 3)]) ++ List.replicate (1 - (lg_sl ([.ref (a 3)])).length) Slot.unset).toArray = ls at hl ⊢
  have hl : lv_has ls 1 [(0, .ref (a 3))] := hl
  unfold mX2_size at hm
  refine lv_aload_n hx hb dX2_size_0 rfl (lv_at hl 0 rfl) ?_
  refine gfX2_size hx hb h_X2 hown hK hP l_f26 dX2_size_1 ?_
  exact W.iret (v := σ.1 5 0) hx hb hr (fun T hT hW => ⟨⟨σ.1 5 0, σ, rfl, ⟨Option.some.inj hm, rfl⟩, by rw [posW, hT]; exact hP⟩, hS.F hT⟩) hS.2.2 dX2_size_4
theorem eX2_at : yX2_at.cls = RX2 ∧ yX2_at.cls ≠ "java/lang/invoke/MethodHandle" ∧ yX2_at.cls ≠ "java/lang/invoke/VarHandle" ∧ (parseMethodDescriptor yX2_at.desc).map (fun d => d.parameters.length) = some 1 := by decide +kernel
def mX2_at (σ : St) (p1 : Int32) : Option Int32 :=
if p1 < 0 then (
some 0)
else (
if (σ.1 5 0) ≤ p1 then (
some 0)
else (
chkI p1 400 (
some (σ.1 19 p1.toNatClampNeg))))
set_option maxHeartbeats 4000000 in
set_option maxRecDepth 100000 in
theorem kX2_at (l : Launch) (D : va_G) (y : Nat → ClassId) (a t : Nat → Nat) (hI : AI a 37) (sz : Nat) (σ : St) (p1 : Int32) (r : Int32) (hm : mX2_at σ p1 = some r) : Met l yX2_at zX2_at { frames := 0, cells := 0, slots := 0, locals := 0 } (va_Pc [.ref (a 3), .int p1] (preW (wC y a) a 37 D y t σ sz)) (va_Qi (fun r' u => r' = r ∧ u = σ) (posW (wC y a) D) (AC a 37 sz)) 0 0 (AC a 37 sz) := by
  refine Met.ofW (cc := cX2_at) (maxL := 2) (ret := (some .int)) (by decide) rfl ?_
  intro p e s m args below meth c s₁ B hml hv
  obtain ⟨rfl, hsz, hP, hK, hF⟩ := hv
  have hx := B.exec
  have hb := B.bytes
  have hr := B.returns
  have hts := atoms_spec (ws := zX2_at) B.pre
  have hown : s.vm.findClass RX2 = some m.cls := findClass_of_methodNamed B.named
  have hlocks := B.notSynchronized
  subst hsz
  have l_f26 := hts _ (List.mem_cons_of_mem _ aF_X2_26)
  have l_f9 := hts _ (List.mem_cons_of_mem _ aF_X2_9)
  have h_X2 : ∀ w ∈ wsX20, w.before _ s = true := fun w hw => hts w (List.mem_cons_of_mem _ (hwX2 w hw))
  have hS : va_S (AC a 37 s.heap.size) s.heap s.heap [] := va_S.rf
  have hl := lv_entry ([.ref (a 3), .int p1]) (n := 2) (Nat.le_of_ble_eq_true rfl)
  rw [lg_entry_eq]
  generalize (lg_sl ([.ref (a 3), .int p1]) ++ List.replicate (2 - (lg_sl ([.ref (a 3), .int p1])).length) Slot.unset).toArray = ls at hl ⊢
  have hl : lv_has ls 2 [(0, .ref (a 3)), (1, .int p1)] := hl
  unfold mX2_at at hm
  refine lv_iload_n hx hb dX2_at_0 rfl (lv_at hl 1 rfl) ?_
  refine lv_if_lt (tgt := 21) hx hb dX2_at_1 (by decide) (fun c1 => ?_) (fun c1 => ?_)
  · have hm := (if_pos c1).symm.trans hm
    refine lv_iconst (v := 0) hx hb dX2_at_21 (by decide) ?_
    exact W.iret (v := 0) hx hb hr (fun T hT hW => ⟨⟨0, σ, rfl, ⟨Option.some.inj hm, rfl⟩, by rw [posW, hT]; exact hP⟩, hS.F hT⟩) hS.2.2 dX2_at_22
  · have hm := (if_neg c1).symm.trans hm
    refine lv_iload_n hx hb dX2_at_4 rfl (lv_at hl 1 rfl) ?_
    refine lv_aload_n hx hb dX2_at_5 rfl (lv_at hl 0 rfl) ?_
    refine gfX2_size hx hb h_X2 hown hK hP l_f26 dX2_at_6 ?_
    refine lv_icmp_ge (tgt := 21) hx hb dX2_at_9 (by decide) (fun c2 => ?_) (fun c2 => ?_)
    · have hm := (if_pos c2).symm.trans hm
      refine lv_iconst (v := 0) hx hb dX2_at_21 (by decide) ?_
      exact W.iret (v := 0) hx hb hr (fun T hT hW => ⟨⟨0, σ, rfl, ⟨Option.some.inj hm, rfl⟩, by rw [posW, hT]; exact hP⟩, hS.F hT⟩) hS.2.2 dX2_at_22
    · have hm := (if_neg c2).symm.trans hm
      refine lv_aload_n hx hb dX2_at_12 rfl (lv_at hl 0 rfl) ?_
      refine gfX2_bytes hx hb h_X2 hown hK hP l_f9 dX2_at_13 ?_
      refine lv_iload_n hx hb dX2_at_16 rfl (lv_at hl 1 rfl) ?_
      obtain ⟨hi, hm⟩ := ok_I hm
      refine ldC_16 hx hb hK hP hi dX2_at_17 ?_
      refine lv_goto (tgt := 22) hx hb dX2_at_18 (by decide) ?_
      exact W.iret (v := σ.1 19 p1.toNatClampNeg) hx hb hr (fun T hT hW => ⟨⟨σ.1 19 p1.toNatClampNeg, σ, rfl, ⟨Option.some.inj hm, rfl⟩, by rw [posW, hT]; exact hP⟩, hS.F hT⟩) hS.2.2 dX2_at_22
theorem eX5_size : yX5_size.cls = RX5 ∧ yX5_size.cls ≠ "java/lang/invoke/MethodHandle" ∧ yX5_size.cls ≠ "java/lang/invoke/VarHandle" ∧ (parseMethodDescriptor yX5_size.desc).map (fun d => d.parameters.length) = some 0 := by decide +kernel
def mX5_size (σ : St) : Option Int32 :=
some (σ.1 1 0)
set_option maxHeartbeats 4000000 in
set_option maxRecDepth 100000 in
theorem kX5_size (l : Launch) (D : va_G) (y : Nat → ClassId) (a t : Nat → Nat) (hI : AI a 37) (sz : Nat) (σ : St) (r : Int32) (hm : mX5_size σ = some r) : Met l yX5_size zX5_size { frames := 0, cells := 0, slots := 0, locals := 0 } (va_Pc [.ref (a 2)] (preW (wC y a) a 37 D y t σ sz)) (va_Qi (fun r' u => r' = r ∧ u = σ) (posW (wC y a) D) (AC a 37 sz)) 0 0 (AC a 37 sz) := by
  refine Met.ofW (cc := cX5_size) (maxL := 1) (ret := (some .int)) (by decide) rfl ?_
  intro p e s m args below meth c s₁ B hml hv
  obtain ⟨rfl, hsz, hP, hK, hF⟩ := hv
  have hx := B.exec
  have hb := B.bytes
  have hr := B.returns
  have hts := atoms_spec (ws := zX5_size) B.pre
  have hown : s.vm.findClass RX5 = some m.cls := findClass_of_methodNamed B.named
  have hlocks := B.notSynchronized
  subst hsz
  have l_f23 := hts _ (List.mem_cons_of_mem _ aF_X5_23)
  have h_X5 : ∀ w ∈ wsX50, w.before _ s = true := fun w hw => hts w (List.mem_cons_of_mem _ (hwX5 w hw))
  have hS : va_S (AC a 37 s.heap.size) s.heap s.heap [] := va_S.rf
  have hl := lv_entry ([.ref (a 2)]) (n := 1) (Nat.le_of_ble_eq_true rfl)
  rw [lg_entry_eq]
  generalize (lg_sl ([.ref (a 2)]) ++ List.replicate (1 - (lg_sl ([.ref (a 2)])).length) Slot.unset).toArray = ls at hl ⊢
  have hl : lv_has ls 1 [(0, .ref (a 2))] := hl
  unfold mX5_size at hm
  refine lv_aload_n hx hb dX5_size_0 rfl (lv_at hl 0 rfl) ?_
  refine gfX5_size hx hb h_X5 hown hK hP l_f23 dX5_size_1 ?_
  exact W.iret (v := σ.1 1 0) hx hb hr (fun T hT hW => ⟨⟨σ.1 1 0, σ, rfl, ⟨Option.some.inj hm, rfl⟩, by rw [posW, hT]; exact hP⟩, hS.F hT⟩) hS.2.2 dX5_size_4
theorem eX6_known : yX6_known.cls = RX6 ∧ yX6_known.cls ≠ "java/lang/invoke/MethodHandle" ∧ yX6_known.cls ≠ "java/lang/invoke/VarHandle" ∧ (parseMethodDescriptor yX6_known.desc).map (fun d => d.parameters.length) = some 0 := by decide +kernel
def mX6_known (σ : St) : Option Int32 :=
some (σ.1 6 0)
set_option maxHeartbeats 4000000 in
set_option maxRecDepth 100000 in
theorem kX6_known (l : Launch) (D : va_G) (y : Nat → ClassId) (a t : Nat → Nat) (hI : AI a 37) (sz : Nat) (σ : St) (r : Int32) (hm : mX6_known σ = some r) : Met l yX6_known zX6_known { frames := 0, cells := 0, slots := 0, locals := 0 } (va_Pc [.ref (a 4)] (preW (wC y a) a 37 D y t σ sz)) (va_Qi (fun r' u => r' = r ∧ u = σ) (posW (wC y a) D) (AC a 37 sz)) 0 0 (AC a 37 sz) := by
  refine Met.ofW (cc := cX6_known) (maxL := 1) (ret := (some .int)) (by decide) rfl ?_
  intro p e s m args below meth c s₁ B hml hv
  obtain ⟨rfl, hsz, hP, hK, hF⟩ := hv
  have hx := B.exec
  have hb := B.bytes
  have hr := B.returns
  have hts := atoms_spec (ws := zX6_known) B.pre
  have hown : s.vm.findClass RX6 = some m.cls := findClass_of_methodNamed B.named
  have hlocks := B.notSynchronized
  subst hsz
  have l_f37 := hts _ (List.mem_cons_of_mem _ aF_X6_37)
  have h_X6 : ∀ w ∈ wsX60, w.before _ s = true := fun w hw => hts w (List.mem_cons_of_mem _ (hwX6 w hw))
  have hS : va_S (AC a 37 s.heap.size) s.heap s.heap [] := va_S.rf
  have hl := lv_entry ([.ref (a 4)]) (n := 1) (Nat.le_of_ble_eq_true rfl)
  rw [lg_entry_eq]
  generalize (lg_sl ([.ref (a 4)]) ++ List.replicate (1 - (lg_sl ([.ref (a 4)])).length) Slot.unset).toArray = ls at hl ⊢
  have hl : lv_has ls 1 [(0, .ref (a 4))] := hl
  unfold mX6_known at hm
  refine lv_aload_n hx hb dX6_known_0 rfl (lv_at hl 0 rfl) ?_
  refine gfX6_known hx hb h_X6 hown hK hP l_f37 dX6_known_1 ?_
  exact W.iret (v := σ.1 6 0) hx hb hr (fun T hT hW => ⟨⟨σ.1 6 0, σ, rfl, ⟨Option.some.inj hm, rfl⟩, by rw [posW, hT]; exact hP⟩, hS.F hT⟩) hS.2.2 dX6_known_4
theorem eX6_isKnown : yX6_isKnown.cls = RX6 ∧ yX6_isKnown.cls ≠ "java/lang/invoke/MethodHandle" ∧ yX6_isKnown.cls ≠ "java/lang/invoke/VarHandle" ∧ (parseMethodDescriptor yX6_isKnown.desc).map (fun d => d.parameters.length) = some 1 := by decide +kernel
def mX6_isKnown (σ : St) (p1 : Int32) : Option Int32 :=
if p1 < 0 then (
some 0)
else (
if (σ.1 6 0) ≤ p1 then (
some 0)
else (
some 1))
set_option maxHeartbeats 4000000 in
set_option maxRecDepth 100000 in
theorem kX6_isKnown (l : Launch) (D : va_G) (y : Nat → ClassId) (a t : Nat → Nat) (hI : AI a 37) (sz : Nat) (σ : St) (p1 : Int32) (r : Int32) (hm : mX6_isKnown σ p1 = some r) : Met l yX6_isKnown zX6_isKnown { frames := 0, cells := 0, slots := 0, locals := 0 } (va_Pc [.ref (a 4), .int p1] (preW (wC y a) a 37 D y t σ sz)) (va_Qi (fun r' u => r' = r ∧ u = σ) (posW (wC y a) D) (AC a 37 sz)) 0 0 (AC a 37 sz) := by
  refine Met.ofW (cc := cX6_isKnown) (maxL := 2) (ret := (some .boolean)) (by decide) rfl ?_
  intro p e s m args below meth c s₁ B hml hv
  obtain ⟨rfl, hsz, hP, hK, hF⟩ := hv
  have hx := B.exec
  have hb := B.bytes
  have hr := B.returns
  have hts := atoms_spec (ws := zX6_isKnown) B.pre
  have hown : s.vm.findClass RX6 = some m.cls := findClass_of_methodNamed B.named
  have hlocks := B.notSynchronized
  subst hsz
  have l_f37 := hts _ (List.mem_cons_of_mem _ aF_X6_37)
  have h_X6 : ∀ w ∈ wsX60, w.before _ s = true := fun w hw => hts w (List.mem_cons_of_mem _ (hwX6 w hw))
  have hS : va_S (AC a 37 s.heap.size) s.heap s.heap [] := va_S.rf
  have hl := lv_entry ([.ref (a 4), .int p1]) (n := 2) (Nat.le_of_ble_eq_true rfl)
  rw [lg_entry_eq]
  generalize (lg_sl ([.ref (a 4), .int p1]) ++ List.replicate (2 - (lg_sl ([.ref (a 4), .int p1])).length) Slot.unset).toArray = ls at hl ⊢
  have hl : lv_has ls 2 [(0, .ref (a 4)), (1, .int p1)] := hl
  unfold mX6_isKnown at hm
  refine lv_iload_n hx hb dX6_isKnown_0 rfl (lv_at hl 1 rfl) ?_
  refine lv_if_lt (tgt := 16) hx hb dX6_isKnown_1 (by decide) (fun c1 => ?_) (fun c1 => ?_)
  · have hm := (if_pos c1).symm.trans hm
    refine lv_iconst (v := 0) hx hb dX6_isKnown_16 (by decide) ?_
    exact W.zret (v := 0) hx hb hr rfl (fun T hT hW => ⟨⟨0, σ, rfl, ⟨Option.some.inj hm, rfl⟩, by rw [posW, hT]; exact hP⟩, hS.F hT⟩) hS.2.2 dX6_isKnown_17
  · have hm := (if_neg c1).symm.trans hm
    refine lv_iload_n hx hb dX6_isKnown_4 rfl (lv_at hl 1 rfl) ?_
    refine lv_aload_n hx hb dX6_isKnown_5 rfl (lv_at hl 0 rfl) ?_
    refine gfX6_known hx hb h_X6 hown hK hP l_f37 dX6_isKnown_6 ?_
    refine lv_icmp_ge (tgt := 16) hx hb dX6_isKnown_9 (by decide) (fun c2 => ?_) (fun c2 => ?_)
    · have hm := (if_pos c2).symm.trans hm
      refine lv_iconst (v := 0) hx hb dX6_isKnown_16 (by decide) ?_
      exact W.zret (v := 0) hx hb hr rfl (fun T hT hW => ⟨⟨0, σ, rfl, ⟨Option.some.inj hm, rfl⟩, by rw [posW, hT]; exact hP⟩, hS.F hT⟩) hS.2.2 dX6_isKnown_17
    · have hm := (if_neg c2).symm.trans hm
      refine lv_iconst (v := 1) hx hb dX6_isKnown_12 (by decide) ?_
      refine lv_goto (tgt := 17) hx hb dX6_isKnown_13 (by decide) ?_
      exact W.zret (v := 1) hx hb hr rfl (fun T hT hW => ⟨⟨1, σ, rfl, ⟨Option.some.inj hm, rfl⟩, by rw [posW, hT]; exact hP⟩, hS.F hT⟩) hS.2.2 dX6_isKnown_17
theorem eX6_conclusion : yX6_conclusion.cls = RX6 ∧ yX6_conclusion.cls ≠ "java/lang/invoke/MethodHandle" ∧ yX6_conclusion.cls ≠ "java/lang/invoke/VarHandle" ∧ (parseMethodDescriptor yX6_conclusion.desc).map (fun d => d.parameters.length) = some 1 := by decide +kernel
def mX6_conclusion (σ : St) (p1 : Int32) : Option Int32 :=
if p1 < 0 then (
some (-1))
else (
if (σ.1 6 0) ≤ p1 then (
some (-1))
else (
chkI p1 16 (
some (σ.1 22 p1.toNatClampNeg))))
set_option maxHeartbeats 4000000 in
set_option maxRecDepth 100000 in
theorem kX6_conclusion (l : Launch) (D : va_G) (y : Nat → ClassId) (a t : Nat → Nat) (hI : AI a 37) (sz : Nat) (σ : St) (p1 : Int32) (r : Int32) (hm : mX6_conclusion σ p1 = some r) : Met l yX6_conclusion zX6_conclusion { frames := 0, cells := 0, slots := 0, locals := 0 } (va_Pc [.ref (a 4), .int p1] (preW (wC y a) a 37 D y t σ sz)) (va_Qi (fun r' u => r' = r ∧ u = σ) (posW (wC y a) D) (AC a 37 sz)) 0 0 (AC a 37 sz) := by
  refine Met.ofW (cc := cX6_conclusion) (maxL := 2) (ret := (some .int)) (by decide) rfl ?_
  intro p e s m args below meth c s₁ B hml hv
  obtain ⟨rfl, hsz, hP, hK, hF⟩ := hv
  have hx := B.exec
  have hb := B.bytes
  have hr := B.returns
  have hts := atoms_spec (ws := zX6_conclusion) B.pre
  have hown : s.vm.findClass RX6 = some m.cls := findClass_of_methodNamed B.named
  have hlocks := B.notSynchronized
  subst hsz
  have l_f37 := hts _ (List.mem_cons_of_mem _ aF_X6_37)
  have l_f9 := hts _ (List.mem_cons_of_mem _ aF_X6_9)
  have h_X6 : ∀ w ∈ wsX60, w.before _ s = true := fun w hw => hts w (List.mem_cons_of_mem _ (hwX6 w hw))
  have hS : va_S (AC a 37 s.heap.size) s.heap s.heap [] := va_S.rf
  have hl := lv_entry ([.ref (a 4), .int p1]) (n := 2) (Nat.le_of_ble_eq_true rfl)
  rw [lg_entry_eq]
  generalize (lg_sl ([.ref (a 4), .int p1]) ++ List.replicate (2 - (lg_sl ([.ref (a 4), .int p1])).length) Slot.unset).toArray = ls at hl ⊢
  have hl : lv_has ls 2 [(0, .ref (a 4)), (1, .int p1)] := hl
  unfold mX6_conclusion at hm
  refine lv_iload_n hx hb dX6_conclusion_0 rfl (lv_at hl 1 rfl) ?_
  refine lv_if_lt (tgt := 21) hx hb dX6_conclusion_1 (by decide) (fun c1 => ?_) (fun c1 => ?_)
  · have hm := (if_pos c1).symm.trans hm
    refine lv_iconst (v := (-1)) hx hb dX6_conclusion_21 (by decide) ?_
    exact W.iret (v := (-1)) hx hb hr (fun T hT hW => ⟨⟨(-1), σ, rfl, ⟨Option.some.inj hm, rfl⟩, by rw [posW, hT]; exact hP⟩, hS.F hT⟩) hS.2.2 dX6_conclusion_22
  · have hm := (if_neg c1).symm.trans hm
    refine lv_iload_n hx hb dX6_conclusion_4 rfl (lv_at hl 1 rfl) ?_
    refine lv_aload_n hx hb dX6_conclusion_5 rfl (lv_at hl 0 rfl) ?_
    refine gfX6_known hx hb h_X6 hown hK hP l_f37 dX6_conclusion_6 ?_
    refine lv_icmp_ge (tgt := 21) hx hb dX6_conclusion_9 (by decide) (fun c2 => ?_) (fun c2 => ?_)
    · have hm := (if_pos c2).symm.trans hm
      refine lv_iconst (v := (-1)) hx hb dX6_conclusion_21 (by decide) ?_
      exact W.iret (v := (-1)) hx hb hr (fun T hT hW => ⟨⟨(-1), σ, rfl, ⟨Option.some.inj hm, rfl⟩, by rw [posW, hT]; exact hP⟩, hS.F hT⟩) hS.2.2 dX6_conclusion_22
    · have hm := (if_neg c2).symm.trans hm
      refine lv_aload_n hx hb dX6_conclusion_12 rfl (lv_at hl 0 rfl) ?_
      refine gfX6_conclusions hx hb h_X6 hown hK hP l_f9 dX6_conclusion_13 ?_
      refine lv_iload_n hx hb dX6_conclusion_16 rfl (lv_at hl 1 rfl) ?_
      obtain ⟨hi, hm⟩ := ok_I hm
      refine ldC_19 hx hb hK hP hi dX6_conclusion_17 ?_
      refine lv_goto (tgt := 22) hx hb dX6_conclusion_18 (by decide) ?_
      exact W.iret (v := σ.1 22 p1.toNatClampNeg) hx hb hr (fun T hT hW => ⟨⟨σ.1 22 p1.toNatClampNeg, σ, rfl, ⟨Option.some.inj hm, rfl⟩, by rw [posW, hT]; exact hP⟩, hS.F hT⟩) hS.2.2 dX6_conclusion_22
theorem eX6_premises : yX6_premises.cls = RX6 ∧ yX6_premises.cls ≠ "java/lang/invoke/MethodHandle" ∧ yX6_premises.cls ≠ "java/lang/invoke/VarHandle" ∧ (parseMethodDescriptor yX6_premises.desc).map (fun d => d.parameters.length) = some 1 := by decide +kernel
def mX6_premises_26 (σ : St) (v1 : Int32) (v2 : Int32) : Option Int32 :=
chkI v1 16 (
if (σ.1 24 v1.toNatClampNeg) < 0 then (
some (v2 + 0))
else (
some (v2 + 1)))
def mX6_premises (σ : St) (p1 : Int32) : Option Int32 :=
if p1 < 0 then (
some 0)
else (
if (σ.1 6 0) ≤ p1 then (
some 0)
else (
chkI p1 16 (
if (σ.1 23 p1.toNatClampNeg) < 0 then (
mX6_premises_26 σ p1 0)
else (
mX6_premises_26 σ p1 1))))
set_option maxHeartbeats 4000000 in
set_option maxRecDepth 100000 in
theorem kX6_premises (l : Launch) (D : va_G) (y : Nat → ClassId) (a t : Nat → Nat) (hI : AI a 37) (sz : Nat) (σ : St) (p1 : Int32) (r : Int32) (hm : mX6_premises σ p1 = some r) : Met l yX6_premises zX6_premises { frames := 0, cells := 0, slots := 0, locals := 0 } (va_Pc [.ref (a 4), .int p1] (preW (wC y a) a 37 D y t σ sz)) (va_Qi (fun r' u => r' = r ∧ u = σ) (posW (wC y a) D) (AC a 37 sz)) 0 0 (AC a 37 sz) := by
  refine Met.ofW (cc := cX6_premises) (maxL := 2) (ret := (some .int)) (by decide) rfl ?_
  intro p e s m args below meth c s₁ B hml hv
  obtain ⟨rfl, hsz, hP, hK, hF⟩ := hv
  have hx := B.exec
  have hb := B.bytes
  have hr := B.returns
  have hts := atoms_spec (ws := zX6_premises) B.pre
  have hown : s.vm.findClass RX6 = some m.cls := findClass_of_methodNamed B.named
  have hlocks := B.notSynchronized
  subst hsz
  have l_f37 := hts _ (List.mem_cons_of_mem _ aF_X6_37)
  have l_f15 := hts _ (List.mem_cons_of_mem _ aF_X6_15)
  have l_f18 := hts _ (List.mem_cons_of_mem _ aF_X6_18)
  have h_X6 : ∀ w ∈ wsX60, w.before _ s = true := fun w hw => hts w (List.mem_cons_of_mem _ (hwX6 w hw))
  have hS : va_S (AC a 37 s.heap.size) s.heap s.heap [] := va_S.rf
  have hl := lv_entry ([.ref (a 4), .int p1]) (n := 2) (Nat.le_of_ble_eq_true rfl)
  rw [lg_entry_eq]
  generalize (lg_sl ([.ref (a 4), .int p1]) ++ List.replicate (2 - (lg_sl ([.ref (a 4), .int p1])).length) Slot.unset).toArray = ls at hl ⊢
  have hl : lv_has ls 2 [(0, .ref (a 4)), (1, .int p1)] := hl
  have L_26 : ∀ (v1 : Int32) (v2 : Int32) (H : Heap) (locs : List Loc) (ls : Array Slot), va_P D vwCl (wC y a σ) H → va_S (AC a 37 s.heap.size) s.heap H locs → lv_has ls 2 [(0, .ref (a 4)), (1, .int v1)] → mX6_premises_26 σ v1 v2 = some r → W p l e (headSpec zX6_premises ({ frames := 0, cells := 0, slots := 0, locals := 0 })).room s m ([.ref (a 4), .int p1] : List Value).toArray below meth c H locs 0 0 (MQ below (va_Qi (fun r' u => r' = r ∧ u = σ) (posW (wC y a) D) (AC a 37 s.heap.size)) ([.ref (a 4), .int p1] : List Value).toArray s 0 0 (AC a 37 s.heap.size)) (F0 m 26 ls [.int v2]) := by
    intro v1 v2 H locs ls hP hS hl hm
    unfold mX6_premises_26 at hm
    refine lv_aload_n hx hb dX6_premises_26 rfl (lv_at hl 0 rfl) ?_
    refine gfX6_seconds hx hb h_X6 hown hK hP l_f18 dX6_premises_27 ?_
    refine lv_iload_n hx hb dX6_premises_30 rfl (lv_at hl 1 rfl) ?_
    obtain ⟨hi, hm⟩ := ok_I hm
    refine ldC_21 hx hb hK hP hi dX6_premises_31 ?_
    refine lv_if_lt (tgt := 39) hx hb dX6_premises_32 (by decide) (fun c3 => ?_) (fun c3 => ?_)
    · have hm := (if_pos c3).symm.trans hm
      refine lv_iconst (v := 0) hx hb dX6_premises_39 (by decide) ?_
      refine lv_iadd hx hb dX6_premises_40 ?_
      refine lv_goto (tgt := 45) hx hb dX6_premises_41 (by decide) ?_
      exact W.iret (v := v2 + 0) hx hb hr (fun T hT hW => ⟨⟨v2 + 0, σ, rfl, ⟨Option.some.inj hm, rfl⟩, by rw [posW, hT]; exact hP⟩, hS.F hT⟩) hS.2.2 dX6_premises_45
    · have hm := (if_neg c3).symm.trans hm
      refine lv_iconst (v := 1) hx hb dX6_premises_35 (by decide) ?_
      refine lv_goto (tgt := 40) hx hb dX6_premises_36 (by decide) ?_
      refine lv_iadd hx hb dX6_premises_40 ?_
      refine lv_goto (tgt := 45) hx hb dX6_premises_41 (by decide) ?_
      exact W.iret (v := v2 + 1) hx hb hr (fun T hT hW => ⟨⟨v2 + 1, σ, rfl, ⟨Option.some.inj hm, rfl⟩, by rw [posW, hT]; exact hP⟩, hS.F hT⟩) hS.2.2 dX6_premises_45
  unfold mX6_premises at hm
  refine lv_iload_n hx hb dX6_premises_0 rfl (lv_at hl 1 rfl) ?_
  refine lv_if_lt (tgt := 44) hx hb dX6_premises_1 (by decide) (fun c4 => ?_) (fun c4 => ?_)
  · have hm := (if_pos c4).symm.trans hm
    refine lv_iconst (v := 0) hx hb dX6_premises_44 (by decide) ?_
    exact W.iret (v := 0) hx hb hr (fun T hT hW => ⟨⟨0, σ, rfl, ⟨Option.some.inj hm, rfl⟩, by rw [posW, hT]; exact hP⟩, hS.F hT⟩) hS.2.2 dX6_premises_45
  · have hm := (if_neg c4).symm.trans hm
    refine lv_iload_n hx hb dX6_premises_4 rfl (lv_at hl 1 rfl) ?_
    refine lv_aload_n hx hb dX6_premises_5 rfl (lv_at hl 0 rfl) ?_
    refine gfX6_known hx hb h_X6 hown hK hP l_f37 dX6_premises_6 ?_
    refine lv_icmp_ge (tgt := 44) hx hb dX6_premises_9 (by decide) (fun c5 => ?_) (fun c5 => ?_)
    · have hm := (if_pos c5).symm.trans hm
      refine lv_iconst (v := 0) hx hb dX6_premises_44 (by decide) ?_
      exact W.iret (v := 0) hx hb hr (fun T hT hW => ⟨⟨0, σ, rfl, ⟨Option.some.inj hm, rfl⟩, by rw [posW, hT]; exact hP⟩, hS.F hT⟩) hS.2.2 dX6_premises_45
    · have hm := (if_neg c5).symm.trans hm
      refine lv_aload_n hx hb dX6_premises_12 rfl (lv_at hl 0 rfl) ?_
      refine gfX6_firsts hx hb h_X6 hown hK hP l_f15 dX6_premises_13 ?_
      refine lv_iload_n hx hb dX6_premises_16 rfl (lv_at hl 1 rfl) ?_
      obtain ⟨hi, hm⟩ := ok_I hm
      refine ldC_20 hx hb hK hP hi dX6_premises_17 ?_
      refine lv_if_lt (tgt := 25) hx hb dX6_premises_18 (by decide) (fun c6 => ?_) (fun c6 => ?_)
      · have hm := (if_pos c6).symm.trans hm
        refine lv_iconst (v := 0) hx hb dX6_premises_25 (by decide) ?_
        exact L_26 p1 0 _ _ _ hP hS (lv_sub hl [0, 1] rfl) hm
      · have hm := (if_neg c6).symm.trans hm
        refine lv_iconst (v := 1) hx hb dX6_premises_21 (by decide) ?_
        refine lv_goto (tgt := 26) hx hb dX6_premises_22 (by decide) ?_
        exact L_26 p1 1 _ _ _ hP hS (lv_sub hl [0, 1] rfl) hm
theorem eX6_firstPremise : yX6_firstPremise.cls = RX6 ∧ yX6_firstPremise.cls ≠ "java/lang/invoke/MethodHandle" ∧ yX6_firstPremise.cls ≠ "java/lang/invoke/VarHandle" ∧ (parseMethodDescriptor yX6_firstPremise.desc).map (fun d => d.parameters.length) = some 1 := by decide +kernel
def mX6_firstPremise (σ : St) (p1 : Int32) : Option Int32 :=
if p1 < 0 then (
some (-1))
else (
if (σ.1 6 0) ≤ p1 then (
some (-1))
else (
chkI p1 16 (
some (σ.1 23 p1.toNatClampNeg))))
set_option maxHeartbeats 4000000 in
set_option maxRecDepth 100000 in
theorem kX6_firstPremise (l : Launch) (D : va_G) (y : Nat → ClassId) (a t : Nat → Nat) (hI : AI a 37) (sz : Nat) (σ : St) (p1 : Int32) (r : Int32) (hm : mX6_firstPremise σ p1 = some r) : Met l yX6_firstPremise zX6_firstPremise { frames := 0, cells := 0, slots := 0, locals := 0 } (va_Pc [.ref (a 4), .int p1] (preW (wC y a) a 37 D y t σ sz)) (va_Qi (fun r' u => r' = r ∧ u = σ) (posW (wC y a) D) (AC a 37 sz)) 0 0 (AC a 37 sz) := by
  refine Met.ofW (cc := cX6_firstPremise) (maxL := 2) (ret := (some .int)) (by decide) rfl ?_
  intro p e s m args below meth c s₁ B hml hv
  obtain ⟨rfl, hsz, hP, hK, hF⟩ := hv
  have hx := B.exec
  have hb := B.bytes
  have hr := B.returns
  have hts := atoms_spec (ws := zX6_firstPremise) B.pre
  have hown : s.vm.findClass RX6 = some m.cls := findClass_of_methodNamed B.named
  have hlocks := B.notSynchronized
  subst hsz
  have l_f37 := hts _ (List.mem_cons_of_mem _ aF_X6_37)
  have l_f15 := hts _ (List.mem_cons_of_mem _ aF_X6_15)
  have h_X6 : ∀ w ∈ wsX60, w.before _ s = true := fun w hw => hts w (List.mem_cons_of_mem _ (hwX6 w hw))
  have hS : va_S (AC a 37 s.heap.size) s.heap s.heap [] := va_S.rf
  have hl := lv_entry ([.ref (a 4), .int p1]) (n := 2) (Nat.le_of_ble_eq_true rfl)
  rw [lg_entry_eq]
  generalize (lg_sl ([.ref (a 4), .int p1]) ++ List.replicate (2 - (lg_sl ([.ref (a 4), .int p1])).length) Slot.unset).toArray = ls at hl ⊢
  have hl : lv_has ls 2 [(0, .ref (a 4)), (1, .int p1)] := hl
  unfold mX6_firstPremise at hm
  refine lv_iload_n hx hb dX6_firstPremise_0 rfl (lv_at hl 1 rfl) ?_
  refine lv_if_lt (tgt := 21) hx hb dX6_firstPremise_1 (by decide) (fun c1 => ?_) (fun c1 => ?_)
  · have hm := (if_pos c1).symm.trans hm
    refine lv_iconst (v := (-1)) hx hb dX6_firstPremise_21 (by decide) ?_
    exact W.iret (v := (-1)) hx hb hr (fun T hT hW => ⟨⟨(-1), σ, rfl, ⟨Option.some.inj hm, rfl⟩, by rw [posW, hT]; exact hP⟩, hS.F hT⟩) hS.2.2 dX6_firstPremise_22
  · have hm := (if_neg c1).symm.trans hm
    refine lv_iload_n hx hb dX6_firstPremise_4 rfl (lv_at hl 1 rfl) ?_
    refine lv_aload_n hx hb dX6_firstPremise_5 rfl (lv_at hl 0 rfl) ?_
    refine gfX6_known hx hb h_X6 hown hK hP l_f37 dX6_firstPremise_6 ?_
    refine lv_icmp_ge (tgt := 21) hx hb dX6_firstPremise_9 (by decide) (fun c2 => ?_) (fun c2 => ?_)
    · have hm := (if_pos c2).symm.trans hm
      refine lv_iconst (v := (-1)) hx hb dX6_firstPremise_21 (by decide) ?_
      exact W.iret (v := (-1)) hx hb hr (fun T hT hW => ⟨⟨(-1), σ, rfl, ⟨Option.some.inj hm, rfl⟩, by rw [posW, hT]; exact hP⟩, hS.F hT⟩) hS.2.2 dX6_firstPremise_22
    · have hm := (if_neg c2).symm.trans hm
      refine lv_aload_n hx hb dX6_firstPremise_12 rfl (lv_at hl 0 rfl) ?_
      refine gfX6_firsts hx hb h_X6 hown hK hP l_f15 dX6_firstPremise_13 ?_
      refine lv_iload_n hx hb dX6_firstPremise_16 rfl (lv_at hl 1 rfl) ?_
      obtain ⟨hi, hm⟩ := ok_I hm
      refine ldC_20 hx hb hK hP hi dX6_firstPremise_17 ?_
      refine lv_goto (tgt := 22) hx hb dX6_firstPremise_18 (by decide) ?_
      exact W.iret (v := σ.1 23 p1.toNatClampNeg) hx hb hr (fun T hT hW => ⟨⟨σ.1 23 p1.toNatClampNeg, σ, rfl, ⟨Option.some.inj hm, rfl⟩, by rw [posW, hT]; exact hP⟩, hS.F hT⟩) hS.2.2 dX6_firstPremise_22
theorem eX6_secondPremise : yX6_secondPremise.cls = RX6 ∧ yX6_secondPremise.cls ≠ "java/lang/invoke/MethodHandle" ∧ yX6_secondPremise.cls ≠ "java/lang/invoke/VarHandle" ∧ (parseMethodDescriptor yX6_secondPremise.desc).map (fun d => d.parameters.length) = some 1 := by decide +kernel
def mX6_secondPremise (σ : St) (p1 : Int32) : Option Int32 :=
if p1 < 0 then (
some (-1))
else (
if (σ.1 6 0) ≤ p1 then (
some (-1))
else (
chkI p1 16 (
some (σ.1 24 p1.toNatClampNeg))))
set_option maxHeartbeats 4000000 in
set_option maxRecDepth 100000 in
theorem kX6_secondPremise (l : Launch) (D : va_G) (y : Nat → ClassId) (a t : Nat → Nat) (hI : AI a 37) (sz : Nat) (σ : St) (p1 : Int32) (r : Int32) (hm : mX6_secondPremise σ p1 = some r) : Met l yX6_secondPremise zX6_secondPremise { frames := 0, cells := 0, slots := 0, locals := 0 } (va_Pc [.ref (a 4), .int p1] (preW (wC y a) a 37 D y t σ sz)) (va_Qi (fun r' u => r' = r ∧ u = σ) (posW (wC y a) D) (AC a 37 sz)) 0 0 (AC a 37 sz) := by
  refine Met.ofW (cc := cX6_secondPremise) (maxL := 2) (ret := (some .int)) (by decide) rfl ?_
  intro p e s m args below meth c s₁ B hml hv
  obtain ⟨rfl, hsz, hP, hK, hF⟩ := hv
  have hx := B.exec
  have hb := B.bytes
  have hr := B.returns
  have hts := atoms_spec (ws := zX6_secondPremise) B.pre
  have hown : s.vm.findClass RX6 = some m.cls := findClass_of_methodNamed B.named
  have hlocks := B.notSynchronized
  subst hsz
  have l_f37 := hts _ (List.mem_cons_of_mem _ aF_X6_37)
  have l_f18 := hts _ (List.mem_cons_of_mem _ aF_X6_18)
  have h_X6 : ∀ w ∈ wsX60, w.before _ s = true := fun w hw => hts w (List.mem_cons_of_mem _ (hwX6 w hw))
  have hS : va_S (AC a 37 s.heap.size) s.heap s.heap [] := va_S.rf
  have hl := lv_entry ([.ref (a 4), .int p1]) (n := 2) (Nat.le_of_ble_eq_true rfl)
  rw [lg_entry_eq]
  generalize (lg_sl ([.ref (a 4), .int p1]) ++ List.replicate (2 - (lg_sl ([.ref (a 4), .int p1])).length) Slot.unset).toArray = ls at hl ⊢
  have hl : lv_has ls 2 [(0, .ref (a 4)), (1, .int p1)] := hl
  unfold mX6_secondPremise at hm
  refine lv_iload_n hx hb dX6_secondPremise_0 rfl (lv_at hl 1 rfl) ?_
  refine lv_if_lt (tgt := 21) hx hb dX6_secondPremise_1 (by decide) (fun c1 => ?_) (fun c1 => ?_)
  · have hm := (if_pos c1).symm.trans hm
    refine lv_iconst (v := (-1)) hx hb dX6_secondPremise_21 (by decide) ?_
    exact W.iret (v := (-1)) hx hb hr (fun T hT hW => ⟨⟨(-1), σ, rfl, ⟨Option.some.inj hm, rfl⟩, by rw [posW, hT]; exact hP⟩, hS.F hT⟩) hS.2.2 dX6_secondPremise_22
  · have hm := (if_neg c1).symm.trans hm
    refine lv_iload_n hx hb dX6_secondPremise_4 rfl (lv_at hl 1 rfl) ?_
    refine lv_aload_n hx hb dX6_secondPremise_5 rfl (lv_at hl 0 rfl) ?_
    refine gfX6_known hx hb h_X6 hown hK hP l_f37 dX6_secondPremise_6 ?_
    refine lv_icmp_ge (tgt := 21) hx hb dX6_secondPremise_9 (by decide) (fun c2 => ?_) (fun c2 => ?_)
    · have hm := (if_pos c2).symm.trans hm
      refine lv_iconst (v := (-1)) hx hb dX6_secondPremise_21 (by decide) ?_
      exact W.iret (v := (-1)) hx hb hr (fun T hT hW => ⟨⟨(-1), σ, rfl, ⟨Option.some.inj hm, rfl⟩, by rw [posW, hT]; exact hP⟩, hS.F hT⟩) hS.2.2 dX6_secondPremise_22
    · have hm := (if_neg c2).symm.trans hm
      refine lv_aload_n hx hb dX6_secondPremise_12 rfl (lv_at hl 0 rfl) ?_
      refine gfX6_seconds hx hb h_X6 hown hK hP l_f18 dX6_secondPremise_13 ?_
      refine lv_iload_n hx hb dX6_secondPremise_16 rfl (lv_at hl 1 rfl) ?_
      obtain ⟨hi, hm⟩ := ok_I hm
      refine ldC_21 hx hb hK hP hi dX6_secondPremise_17 ?_
      refine lv_goto (tgt := 22) hx hb dX6_secondPremise_18 (by decide) ?_
      exact W.iret (v := σ.1 24 p1.toNatClampNeg) hx hb hr (fun T hT hW => ⟨⟨σ.1 24 p1.toNatClampNeg, σ, rfl, ⟨Option.some.inj hm, rfl⟩, by rw [posW, hT]; exact hP⟩, hS.F hT⟩) hS.2.2 dX6_secondPremise_22
theorem eX6_lines : yX6_lines.cls = RX6 ∧ yX6_lines.cls ≠ "java/lang/invoke/MethodHandle" ∧ yX6_lines.cls ≠ "java/lang/invoke/VarHandle" ∧ (parseMethodDescriptor yX6_lines.desc).map (fun d => d.parameters.length) = some 1 := by decide +kernel
def mX6_lines (σ : St) (p1 : Int32) : Option Int32 :=
if p1 < 0 then (
some 0)
else (
if (σ.1 6 0) ≤ p1 then (
some 0)
else (
chkI p1 16 (
some (σ.1 25 p1.toNatClampNeg))))
set_option maxHeartbeats 4000000 in
set_option maxRecDepth 100000 in
theorem kX6_lines (l : Launch) (D : va_G) (y : Nat → ClassId) (a t : Nat → Nat) (hI : AI a 37) (sz : Nat) (σ : St) (p1 : Int32) (r : Int32) (hm : mX6_lines σ p1 = some r) : Met l yX6_lines zX6_lines { frames := 0, cells := 0, slots := 0, locals := 0 } (va_Pc [.ref (a 4), .int p1] (preW (wC y a) a 37 D y t σ sz)) (va_Qi (fun r' u => r' = r ∧ u = σ) (posW (wC y a) D) (AC a 37 sz)) 0 0 (AC a 37 sz) := by
  refine Met.ofW (cc := cX6_lines) (maxL := 2) (ret := (some .int)) (by decide) rfl ?_
  intro p e s m args below meth c s₁ B hml hv
  obtain ⟨rfl, hsz, hP, hK, hF⟩ := hv
  have hx := B.exec
  have hb := B.bytes
  have hr := B.returns
  have hts := atoms_spec (ws := zX6_lines) B.pre
  have hown : s.vm.findClass RX6 = some m.cls := findClass_of_methodNamed B.named
  have hlocks := B.notSynchronized
  subst hsz
  have l_f37 := hts _ (List.mem_cons_of_mem _ aF_X6_37)
  have l_f21 := hts _ (List.mem_cons_of_mem _ aF_X6_21)
  have h_X6 : ∀ w ∈ wsX60, w.before _ s = true := fun w hw => hts w (List.mem_cons_of_mem _ (hwX6 w hw))
  have hS : va_S (AC a 37 s.heap.size) s.heap s.heap [] := va_S.rf
  have hl := lv_entry ([.ref (a 4), .int p1]) (n := 2) (Nat.le_of_ble_eq_true rfl)
  rw [lg_entry_eq]
  generalize (lg_sl ([.ref (a 4), .int p1]) ++ List.replicate (2 - (lg_sl ([.ref (a 4), .int p1])).length) Slot.unset).toArray = ls at hl ⊢
  have hl : lv_has ls 2 [(0, .ref (a 4)), (1, .int p1)] := hl
  unfold mX6_lines at hm
  refine lv_iload_n hx hb dX6_lines_0 rfl (lv_at hl 1 rfl) ?_
  refine lv_if_lt (tgt := 21) hx hb dX6_lines_1 (by decide) (fun c1 => ?_) (fun c1 => ?_)
  · have hm := (if_pos c1).symm.trans hm
    refine lv_iconst (v := 0) hx hb dX6_lines_21 (by decide) ?_
    exact W.iret (v := 0) hx hb hr (fun T hT hW => ⟨⟨0, σ, rfl, ⟨Option.some.inj hm, rfl⟩, by rw [posW, hT]; exact hP⟩, hS.F hT⟩) hS.2.2 dX6_lines_22
  · have hm := (if_neg c1).symm.trans hm
    refine lv_iload_n hx hb dX6_lines_4 rfl (lv_at hl 1 rfl) ?_
    refine lv_aload_n hx hb dX6_lines_5 rfl (lv_at hl 0 rfl) ?_
    refine gfX6_known hx hb h_X6 hown hK hP l_f37 dX6_lines_6 ?_
    refine lv_icmp_ge (tgt := 21) hx hb dX6_lines_9 (by decide) (fun c2 => ?_) (fun c2 => ?_)
    · have hm := (if_pos c2).symm.trans hm
      refine lv_iconst (v := 0) hx hb dX6_lines_21 (by decide) ?_
      exact W.iret (v := 0) hx hb hr (fun T hT hW => ⟨⟨0, σ, rfl, ⟨Option.some.inj hm, rfl⟩, by rw [posW, hT]; exact hP⟩, hS.F hT⟩) hS.2.2 dX6_lines_22
    · have hm := (if_neg c2).symm.trans hm
      refine lv_aload_n hx hb dX6_lines_12 rfl (lv_at hl 0 rfl) ?_
      refine gfX6_lines hx hb h_X6 hown hK hP l_f21 dX6_lines_13 ?_
      refine lv_iload_n hx hb dX6_lines_16 rfl (lv_at hl 1 rfl) ?_
      obtain ⟨hi, hm⟩ := ok_I hm
      refine ldC_22 hx hb hK hP hi dX6_lines_17 ?_
      refine lv_goto (tgt := 22) hx hb dX6_lines_18 (by decide) ?_
      exact W.iret (v := σ.1 25 p1.toNatClampNeg) hx hb hr (fun T hT hW => ⟨⟨σ.1 25 p1.toNatClampNeg, σ, rfl, ⟨Option.some.inj hm, rfl⟩, by rw [posW, hT]; exact hP⟩, hS.F hT⟩) hS.2.2 dX6_lines_22
theorem eX6_needed : yX6_needed.cls = RX6 ∧ yX6_needed.cls ≠ "java/lang/invoke/MethodHandle" ∧ yX6_needed.cls ≠ "java/lang/invoke/VarHandle" ∧ (parseMethodDescriptor yX6_needed.desc).map (fun d => d.parameters.length) = some 1 := by decide +kernel
def mX6_needed (σ : St) (p1 : Int32) : Option Int32 :=
if p1 < 0 then (
some 0)
else (
if (σ.1 6 0) ≤ p1 then (
some 0)
else (
chkI p1 16 (
some (σ.1 26 p1.toNatClampNeg))))
set_option maxHeartbeats 4000000 in
set_option maxRecDepth 100000 in
theorem kX6_needed (l : Launch) (D : va_G) (y : Nat → ClassId) (a t : Nat → Nat) (hI : AI a 37) (sz : Nat) (σ : St) (p1 : Int32) (r : Int32) (hm : mX6_needed σ p1 = some r) : Met l yX6_needed zX6_needed { frames := 0, cells := 0, slots := 0, locals := 0 } (va_Pc [.ref (a 4), .int p1] (preW (wC y a) a 37 D y t σ sz)) (va_Qi (fun r' u => r' = r ∧ u = σ) (posW (wC y a) D) (AC a 37 sz)) 0 0 (AC a 37 sz) := by
  refine Met.ofW (cc := cX6_needed) (maxL := 2) (ret := (some .int)) (by decide) rfl ?_
  intro p e s m args below meth c s₁ B hml hv
  obtain ⟨rfl, hsz, hP, hK, hF⟩ := hv
  have hx := B.exec
  have hb := B.bytes
  have hr := B.returns
  have hts := atoms_spec (ws := zX6_needed) B.pre
  have hown : s.vm.findClass RX6 = some m.cls := findClass_of_methodNamed B.named
  have hlocks := B.notSynchronized
  subst hsz
  have l_f37 := hts _ (List.mem_cons_of_mem _ aF_X6_37)
  have l_f24 := hts _ (List.mem_cons_of_mem _ aF_X6_24)
  have h_X6 : ∀ w ∈ wsX60, w.before _ s = true := fun w hw => hts w (List.mem_cons_of_mem _ (hwX6 w hw))
  have hS : va_S (AC a 37 s.heap.size) s.heap s.heap [] := va_S.rf
  have hl := lv_entry ([.ref (a 4), .int p1]) (n := 2) (Nat.le_of_ble_eq_true rfl)
  rw [lg_entry_eq]
  generalize (lg_sl ([.ref (a 4), .int p1]) ++ List.replicate (2 - (lg_sl ([.ref (a 4), .int p1])).length) Slot.unset).toArray = ls at hl ⊢
  have hl : lv_has ls 2 [(0, .ref (a 4)), (1, .int p1)] := hl
  unfold mX6_needed at hm
  refine lv_iload_n hx hb dX6_needed_0 rfl (lv_at hl 1 rfl) ?_
  refine lv_if_lt (tgt := 21) hx hb dX6_needed_1 (by decide) (fun c1 => ?_) (fun c1 => ?_)
  · have hm := (if_pos c1).symm.trans hm
    refine lv_iconst (v := 0) hx hb dX6_needed_21 (by decide) ?_
    exact W.iret (v := 0) hx hb hr (fun T hT hW => ⟨⟨0, σ, rfl, ⟨Option.some.inj hm, rfl⟩, by rw [posW, hT]; exact hP⟩, hS.F hT⟩) hS.2.2 dX6_needed_22
  · have hm := (if_neg c1).symm.trans hm
    refine lv_iload_n hx hb dX6_needed_4 rfl (lv_at hl 1 rfl) ?_
    refine lv_aload_n hx hb dX6_needed_5 rfl (lv_at hl 0 rfl) ?_
    refine gfX6_known hx hb h_X6 hown hK hP l_f37 dX6_needed_6 ?_
    refine lv_icmp_ge (tgt := 21) hx hb dX6_needed_9 (by decide) (fun c2 => ?_) (fun c2 => ?_)
    · have hm := (if_pos c2).symm.trans hm
      refine lv_iconst (v := 0) hx hb dX6_needed_21 (by decide) ?_
      exact W.iret (v := 0) hx hb hr (fun T hT hW => ⟨⟨0, σ, rfl, ⟨Option.some.inj hm, rfl⟩, by rw [posW, hT]; exact hP⟩, hS.F hT⟩) hS.2.2 dX6_needed_22
    · have hm := (if_neg c2).symm.trans hm
      refine lv_aload_n hx hb dX6_needed_12 rfl (lv_at hl 0 rfl) ?_
      refine gfX6_needed hx hb h_X6 hown hK hP l_f24 dX6_needed_13 ?_
      refine lv_iload_n hx hb dX6_needed_16 rfl (lv_at hl 1 rfl) ?_
      obtain ⟨hi, hm⟩ := ok_I hm
      refine ldC_23 hx hb hK hP hi dX6_needed_17 ?_
      refine lv_goto (tgt := 22) hx hb dX6_needed_18 (by decide) ?_
      exact W.iret (v := σ.1 26 p1.toNatClampNeg) hx hb hr (fun T hT hW => ⟨⟨σ.1 26 p1.toNatClampNeg, σ, rfl, ⟨Option.some.inj hm, rfl⟩, by rw [posW, hT]; exact hP⟩, hS.F hT⟩) hS.2.2 dX6_needed_22
theorem eX6_uses : yX6_uses.cls = RX6 ∧ yX6_uses.cls ≠ "java/lang/invoke/MethodHandle" ∧ yX6_uses.cls ≠ "java/lang/invoke/VarHandle" ∧ (parseMethodDescriptor yX6_uses.desc).map (fun d => d.parameters.length) = some 1 := by decide +kernel
def mX6_uses (σ : St) (p1 : Int32) : Option Int32 :=
if p1 < 0 then (
some 0)
else (
if (σ.1 6 0) ≤ p1 then (
some 0)
else (
chkI p1 16 (
some (σ.1 27 p1.toNatClampNeg))))
set_option maxHeartbeats 4000000 in
set_option maxRecDepth 100000 in
theorem kX6_uses (l : Launch) (D : va_G) (y : Nat → ClassId) (a t : Nat → Nat) (hI : AI a 37) (sz : Nat) (σ : St) (p1 : Int32) (r : Int32) (hm : mX6_uses σ p1 = some r) : Met l yX6_uses zX6_uses { frames := 0, cells := 0, slots := 0, locals := 0 } (va_Pc [.ref (a 4), .int p1] (preW (wC y a) a 37 D y t σ sz)) (va_Qi (fun r' u => r' = r ∧ u = σ) (posW (wC y a) D) (AC a 37 sz)) 0 0 (AC a 37 sz) := by
  refine Met.ofW (cc := cX6_uses) (maxL := 2) (ret := (some .int)) (by decide) rfl ?_
  intro p e s m args below meth c s₁ B hml hv
  obtain ⟨rfl, hsz, hP, hK, hF⟩ := hv
  have hx := B.exec
  have hb := B.bytes
  have hr := B.returns
  have hts := atoms_spec (ws := zX6_uses) B.pre
  have hown : s.vm.findClass RX6 = some m.cls := findClass_of_methodNamed B.named
  have hlocks := B.notSynchronized
  subst hsz
  have l_f37 := hts _ (List.mem_cons_of_mem _ aF_X6_37)
  have l_f27 := hts _ (List.mem_cons_of_mem _ aF_X6_27)
  have h_X6 : ∀ w ∈ wsX60, w.before _ s = true := fun w hw => hts w (List.mem_cons_of_mem _ (hwX6 w hw))
  have hS : va_S (AC a 37 s.heap.size) s.heap s.heap [] := va_S.rf
  have hl := lv_entry ([.ref (a 4), .int p1]) (n := 2) (Nat.le_of_ble_eq_true rfl)
  rw [lg_entry_eq]
  generalize (lg_sl ([.ref (a 4), .int p1]) ++ List.replicate (2 - (lg_sl ([.ref (a 4), .int p1])).length) Slot.unset).toArray = ls at hl ⊢
  have hl : lv_has ls 2 [(0, .ref (a 4)), (1, .int p1)] := hl
  unfold mX6_uses at hm
  refine lv_iload_n hx hb dX6_uses_0 rfl (lv_at hl 1 rfl) ?_
  refine lv_if_lt (tgt := 21) hx hb dX6_uses_1 (by decide) (fun c1 => ?_) (fun c1 => ?_)
  · have hm := (if_pos c1).symm.trans hm
    refine lv_iconst (v := 0) hx hb dX6_uses_21 (by decide) ?_
    exact W.iret (v := 0) hx hb hr (fun T hT hW => ⟨⟨0, σ, rfl, ⟨Option.some.inj hm, rfl⟩, by rw [posW, hT]; exact hP⟩, hS.F hT⟩) hS.2.2 dX6_uses_22
  · have hm := (if_neg c1).symm.trans hm
    refine lv_iload_n hx hb dX6_uses_4 rfl (lv_at hl 1 rfl) ?_
    refine lv_aload_n hx hb dX6_uses_5 rfl (lv_at hl 0 rfl) ?_
    refine gfX6_known hx hb h_X6 hown hK hP l_f37 dX6_uses_6 ?_
    refine lv_icmp_ge (tgt := 21) hx hb dX6_uses_9 (by decide) (fun c2 => ?_) (fun c2 => ?_)
    · have hm := (if_pos c2).symm.trans hm
      refine lv_iconst (v := 0) hx hb dX6_uses_21 (by decide) ?_
      exact W.iret (v := 0) hx hb hr (fun T hT hW => ⟨⟨0, σ, rfl, ⟨Option.some.inj hm, rfl⟩, by rw [posW, hT]; exact hP⟩, hS.F hT⟩) hS.2.2 dX6_uses_22
    · have hm := (if_neg c2).symm.trans hm
      refine lv_aload_n hx hb dX6_uses_12 rfl (lv_at hl 0 rfl) ?_
      refine gfX6_uses hx hb h_X6 hown hK hP l_f27 dX6_uses_13 ?_
      refine lv_iload_n hx hb dX6_uses_16 rfl (lv_at hl 1 rfl) ?_
      obtain ⟨hi, hm⟩ := ok_I hm
      refine ldC_24 hx hb hK hP hi dX6_uses_17 ?_
      refine lv_goto (tgt := 22) hx hb dX6_uses_18 (by decide) ?_
      exact W.iret (v := σ.1 27 p1.toNatClampNeg) hx hb hr (fun T hT hW => ⟨⟨σ.1 27 p1.toNatClampNeg, σ, rfl, ⟨Option.some.inj hm, rfl⟩, by rw [posW, hT]; exact hP⟩, hS.F hT⟩) hS.2.2 dX6_uses_22
theorem eX6_noteUse : yX6_noteUse.cls = RX6 ∧ yX6_noteUse.cls ≠ "java/lang/invoke/MethodHandle" ∧ yX6_noteUse.cls ≠ "java/lang/invoke/VarHandle" ∧ (parseMethodDescriptor yX6_noteUse.desc).map (fun d => d.parameters.length) = some 1 := by decide +kernel
def mX6_noteUse (σ : St) (p1 : Int32) : Option St :=
if p1 < 0 then (
some σ)
else (
if (σ.1 6 0) ≤ p1 then (
some σ)
else (
chkI p1 16 (
chkI p1 16 (
bnd (su σ 27 (upd (σ.1 27) p1.toNatClampNeg ((σ.1 27 p1.toNatClampNeg) + 1))) fun s3 =>
some s3))))
set_option maxHeartbeats 4000000 in
set_option maxRecDepth 100000 in
theorem kX6_noteUse (l : Launch) (D : va_G) (y : Nat → ClassId) (a t : Nat → Nat) (hI : AI a 37) (sz : Nat) (σ τ : St) (p1 : Int32) (hm : mX6_noteUse σ p1 = some τ) : Met l yX6_noteUse zX6_noteUse { frames := 0, cells := 0, slots := 0, locals := 0 } (va_Pc [.ref (a 4), .int p1] (preW (wC y a) a 37 D y t σ sz)) (va_Qv (fun u => u = τ) (posW (wC y a) D) (AC a 37 sz)) 0 0 (AC a 37 sz) := by
  refine Met.ofW (cc := cX6_noteUse) (maxL := 2) (ret := none) (by decide) rfl ?_
  intro p e s m args below meth c s₁ B hml hv
  obtain ⟨rfl, hsz, hP, hK, hF⟩ := hv
  have hx := B.exec
  have hb := B.bytes
  have hr := B.returns
  have hts := atoms_spec (ws := zX6_noteUse) B.pre
  have hown : s.vm.findClass RX6 = some m.cls := findClass_of_methodNamed B.named
  have hlocks := B.notSynchronized
  subst hsz
  have l_f37 := hts _ (List.mem_cons_of_mem _ aF_X6_37)
  have l_f27 := hts _ (List.mem_cons_of_mem _ aF_X6_27)
  have h_X6 : ∀ w ∈ wsX60, w.before _ s = true := fun w hw => hts w (List.mem_cons_of_mem _ (hwX6 w hw))
  have hS : va_S (AC a 37 s.heap.size) s.heap s.heap [] := va_S.rf
  have hl := lv_entry ([.ref (a 4), .int p1]) (n := 2) (Nat.le_of_ble_eq_true rfl)
  rw [lg_entry_eq]
  generalize (lg_sl ([.ref (a 4), .int p1]) ++ List.replicate (2 - (lg_sl ([.ref (a 4), .int p1])).length) Slot.unset).toArray = ls at hl ⊢
  have hl : lv_has ls 2 [(0, .ref (a 4)), (1, .int p1)] := hl
  unfold mX6_noteUse at hm
  refine lv_iload_n hx hb dX6_noteUse_0 rfl (lv_at hl 1 rfl) ?_
  refine lv_if_lt (tgt := 22) hx hb dX6_noteUse_1 (by decide) (fun c1 => ?_) (fun c1 => ?_)
  · have hm := (if_pos c1).symm.trans hm
    exact W.vret hx hb hr (fun T hT hW => ⟨⟨σ, rfl, Option.some.inj hm, by rw [posW, hT]; exact hP⟩, hS.F hT⟩) hS.2.2 dX6_noteUse_22
  · have hm := (if_neg c1).symm.trans hm
    refine lv_iload_n hx hb dX6_noteUse_4 rfl (lv_at hl 1 rfl) ?_
    refine lv_aload_n hx hb dX6_noteUse_5 rfl (lv_at hl 0 rfl) ?_
    refine gfX6_known hx hb h_X6 hown hK hP l_f37 dX6_noteUse_6 ?_
    refine lv_icmp_ge (tgt := 22) hx hb dX6_noteUse_9 (by decide) (fun c2 => ?_) (fun c2 => ?_)
    · have hm := (if_pos c2).symm.trans hm
      exact W.vret hx hb hr (fun T hT hW => ⟨⟨σ, rfl, Option.some.inj hm, by rw [posW, hT]; exact hP⟩, hS.F hT⟩) hS.2.2 dX6_noteUse_22
    · have hm := (if_neg c2).symm.trans hm
      refine lv_aload_n hx hb dX6_noteUse_12 rfl (lv_at hl 0 rfl) ?_
      refine gfX6_uses hx hb h_X6 hown hK hP l_f27 dX6_noteUse_13 ?_
      refine lv_iload_n hx hb dX6_noteUse_16 rfl (lv_at hl 1 rfl) ?_
      refine lv_dup2_11 hx hb dX6_noteUse_17 rfl rfl ?_
      obtain ⟨hi, hm⟩ := ok_I hm
      refine ldC_24 hx hb hK hP hi dX6_noteUse_18 ?_
      refine lv_iconst (v := 1) hx hb dX6_noteUse_19 (by decide) ?_
      refine lv_iadd hx hb dX6_noteUse_20 ?_
      obtain ⟨hi, hm⟩ := ok_I hm
      refine stC_24 hx hb hK hP hI AC_in hS hi dX6_noteUse_21 (fun H locs hP hS => ?_)
      generalize es3 : su σ 27 (upd (σ.1 27) p1.toNatClampNeg ((σ.1 27 p1.toNatClampNeg) + 1)) = s3 at hP
      have hm := bnd_x es3.symm hm
      exact W.vret hx hb hr (fun T hT hW => ⟨⟨s3, rfl, Option.some.inj hm, by rw [posW, hT]; exact hP⟩, hS.F hT⟩) hS.2.2 dX6_noteUse_22
theorem eX6_add : yX6_add.cls = RX6 ∧ yX6_add.cls ≠ "java/lang/invoke/MethodHandle" ∧ yX6_add.cls ≠ "java/lang/invoke/VarHandle" ∧ (parseMethodDescriptor yX6_add.desc).map (fun d => d.parameters.length) = some 5 := by decide +kernel
def mX6_add (σ : St) (p1 : Int32) (p2 : Int32) (p3 : Int32) (p4 : Int32) (p5 : Int32) : Option (Int32 × St) :=
bnd (σ.1 6 0) fun x1 =>
if x1 < 0 then (
some ((-1), σ))
else (
if x1 < 16 then (
chkI x1 16 (
bnd (su σ 22 (upd (σ.1 22) x1.toNatClampNeg p1)) fun s4 =>
chkI x1 16 (
bnd (su s4 23 (upd (s4.1 23) x1.toNatClampNeg p2)) fun s5 =>
chkI x1 16 (
bnd (su s5 24 (upd (s5.1 24) x1.toNatClampNeg p3)) fun s6 =>
chkI x1 16 (
bnd (su s6 25 (upd (s6.1 25) x1.toNatClampNeg p4)) fun s7 =>
chkI x1 16 (
bnd (su s7 26 (upd (s7.1 26) x1.toNatClampNeg p5)) fun s8 =>
chkI x1 16 (
bnd (su s8 27 (upd (s8.1 27) x1.toNatClampNeg 0)) fun s9 =>
bnd (su s9 6 (fun _ => (s9.1 6 0) + 1)) fun s10 =>
some (x1, s10))))))))
else (
some ((-1), σ)))
set_option maxHeartbeats 4000000 in
set_option maxRecDepth 100000 in
theorem kX6_add (l : Launch) (D : va_G) (y : Nat → ClassId) (a t : Nat → Nat) (hI : AI a 37) (sz : Nat) (σ τ : St) (p1 : Int32) (p2 : Int32) (p3 : Int32) (p4 : Int32) (p5 : Int32) (r : Int32) (hm : mX6_add σ p1 p2 p3 p4 p5 = some (r, τ)) : Met l yX6_add zX6_add { frames := 0, cells := 0, slots := 0, locals := 0 } (va_Pc [.ref (a 4), .int p1, .int p2, .int p3, .int p4, .int p5] (preW (wC y a) a 37 D y t σ sz)) (va_Qi (fun r' u => r' = r ∧ u = τ) (posW (wC y a) D) (AC a 37 sz)) 0 0 (AC a 37 sz) := by
  refine Met.ofW (cc := cX6_add) (maxL := 7) (ret := (some .int)) (by decide) rfl ?_
  intro p e s m args below meth c s₁ B hml hv
  obtain ⟨rfl, hsz, hP, hK, hF⟩ := hv
  have hx := B.exec
  have hb := B.bytes
  have hr := B.returns
  have hts := atoms_spec (ws := zX6_add) B.pre
  have hown : s.vm.findClass RX6 = some m.cls := findClass_of_methodNamed B.named
  have hlocks := B.notSynchronized
  subst hsz
  have l_f37 := hts _ (List.mem_cons_of_mem _ aF_X6_37)
  have l_f9 := hts _ (List.mem_cons_of_mem _ aF_X6_9)
  have l_f15 := hts _ (List.mem_cons_of_mem _ aF_X6_15)
  have l_f18 := hts _ (List.mem_cons_of_mem _ aF_X6_18)
  have l_f21 := hts _ (List.mem_cons_of_mem _ aF_X6_21)
  have l_f24 := hts _ (List.mem_cons_of_mem _ aF_X6_24)
  have l_f27 := hts _ (List.mem_cons_of_mem _ aF_X6_27)
  have h_X6 : ∀ w ∈ wsX60, w.before _ s = true := fun w hw => hts w (List.mem_cons_of_mem _ (hwX6 w hw))
  have hS : va_S (AC a 37 s.heap.size) s.heap s.heap [] := va_S.rf
  have hl := lv_entry ([.ref (a 4), .int p1, .int p2, .int p3, .int p4, .int p5]) (n := 7) (Nat.le_of_ble_eq_true rfl)
  rw [lg_entry_eq]
  generalize (lg_sl ([.ref (a 4), .int p1, .int p2, .int p3, .int p4, .int p5]) ++ List.replicate (7 - (lg_sl ([.ref (a 4), .int p1, .int p2, .int p3, .int p4, .int p5])).length) Slot.unset).toArray = ls at hl ⊢
  have hl : lv_has ls 7 [(0, .ref (a 4)), (1, .int p1), (2, .int p2), (3, .int p3), (4, .int p4), (5, .int p5)] := hl
  unfold mX6_add at hm
  refine lv_aload_n hx hb dX6_add_0 rfl (lv_at hl 0 rfl) ?_
  refine gfX6_known hx hb h_X6 hown hK hP l_f37 dX6_add_1 ?_
  refine lv_topi (fun x1 ex1 => ?_)
  have hm := bnd_x ex1 hm
  refine lv_istore (lv' := [(6, .int x1), (0, .ref (a 4)), (1, .int p1), (2, .int p2), (3, .int p3), (4, .int p4), (5, .int p5)]) hx hb dX6_add_4 hl (by decide) rfl (fun ls hl => ?_)
  refine lv_iload hx hb dX6_add_6 (lv_at hl 0 rfl) ?_
  refine lv_if_lt (tgt := 18) hx hb dX6_add_8 (by decide) (fun c2 => ?_) (fun c2 => ?_)
  · have hm := (if_pos c2).symm.trans hm
    refine lv_iconst (v := (-1)) hx hb dX6_add_18 (by decide) ?_
    exact W.iret (v := (-1)) hx hb hr (fun T hT hW => ⟨⟨(-1), σ, rfl, ⟨congrArg Prod.fst (Option.some.inj hm), congrArg Prod.snd (Option.some.inj hm)⟩, by rw [posW, hT]; exact hP⟩, hS.F hT⟩) hS.2.2 dX6_add_19
  · have hm := (if_neg c2).symm.trans hm
    refine lv_iload hx hb dX6_add_11 (lv_at hl 0 rfl) ?_
    refine lv_bipush (v := 16) hx hb dX6_add_13 (by decide) ?_
    refine lv_icmp_lt (tgt := 20) hx hb dX6_add_15 (by decide) (fun c3 => ?_) (fun c3 => ?_)
    · have hm := (if_pos c3).symm.trans hm
      refine lv_aload_n hx hb dX6_add_20 rfl (lv_at hl 1 rfl) ?_
      refine gfX6_conclusions hx hb h_X6 hown hK hP l_f9 dX6_add_21 ?_
      refine lv_iload hx hb dX6_add_24 (lv_at hl 0 rfl) ?_
      refine lv_iload_n hx hb dX6_add_26 rfl (lv_at hl 2 rfl) ?_
      obtain ⟨hi, hm⟩ := ok_I hm
      refine stC_19 hx hb hK hP hI AC_in hS hi dX6_add_27 (fun H locs hP hS => ?_)
      generalize es4 : su σ 22 (upd (σ.1 22) x1.toNatClampNeg p1) = s4 at hP
      have hm := bnd_x es4.symm hm
      refine lv_aload_n hx hb dX6_add_28 rfl (lv_at hl 1 rfl) ?_
      refine gfX6_firsts hx hb h_X6 hown hK hP l_f15 dX6_add_29 ?_
      refine lv_iload hx hb dX6_add_32 (lv_at hl 0 rfl) ?_
      refine lv_iload_n hx hb dX6_add_34 rfl (lv_at hl 3 rfl) ?_
      obtain ⟨hi, hm⟩ := ok_I hm
      refine stC_20 hx hb hK hP hI AC_in hS hi dX6_add_35 (fun H locs hP hS => ?_)
      generalize es5 : su s4 23 (upd (s4.1 23) x1.toNatClampNeg p2) = s5 at hP
      have hm := bnd_x es5.symm hm
      refine lv_aload_n hx hb dX6_add_36 rfl (lv_at hl 1 rfl) ?_
      refine gfX6_seconds hx hb h_X6 hown hK hP l_f18 dX6_add_37 ?_
      refine lv_iload hx hb dX6_add_40 (lv_at hl 0 rfl) ?_
      refine lv_iload_n hx hb dX6_add_42 rfl (lv_at hl 4 rfl) ?_
      obtain ⟨hi, hm⟩ := ok_I hm
      refine stC_21 hx hb hK hP hI AC_in hS hi dX6_add_43 (fun H locs hP hS => ?_)
      generalize es6 : su s5 24 (upd (s5.1 24) x1.toNatClampNeg p3) = s6 at hP
      have hm := bnd_x es6.symm hm
      refine lv_aload_n hx hb dX6_add_44 rfl (lv_at hl 1 rfl) ?_
      refine gfX6_lines hx hb h_X6 hown hK hP l_f21 dX6_add_45 ?_
      refine lv_iload hx hb dX6_add_48 (lv_at hl 0 rfl) ?_
      refine lv_iload hx hb dX6_add_50 (lv_at hl 5 rfl) ?_
      obtain ⟨hi, hm⟩ := ok_I hm
      refine stC_22 hx hb hK hP hI AC_in hS hi dX6_add_52 (fun H locs hP hS => ?_)
      generalize es7 : su s6 25 (upd (s6.1 25) x1.toNatClampNeg p4) = s7 at hP
      have hm := bnd_x es7.symm hm
      refine lv_aload_n hx hb dX6_add_53 rfl (lv_at hl 1 rfl) ?_
      refine gfX6_needed hx hb h_X6 hown hK hP l_f24 dX6_add_54 ?_
      refine lv_iload hx hb dX6_add_57 (lv_at hl 0 rfl) ?_
      refine lv_iload hx hb dX6_add_59 (lv_at hl 6 rfl) ?_
      obtain ⟨hi, hm⟩ := ok_I hm
      refine stC_23 hx hb hK hP hI AC_in hS hi dX6_add_61 (fun H locs hP hS => ?_)
      generalize es8 : su s7 26 (upd (s7.1 26) x1.toNatClampNeg p5) = s8 at hP
      have hm := bnd_x es8.symm hm
      refine lv_aload_n hx hb dX6_add_62 rfl (lv_at hl 1 rfl) ?_
      refine gfX6_uses hx hb h_X6 hown hK hP l_f27 dX6_add_63 ?_
      refine lv_iload hx hb dX6_add_66 (lv_at hl 0 rfl) ?_
      refine lv_iconst (v := 0) hx hb dX6_add_68 (by decide) ?_
      obtain ⟨hi, hm⟩ := ok_I hm
      refine stC_24 hx hb hK hP hI AC_in hS hi dX6_add_69 (fun H locs hP hS => ?_)
      generalize es9 : su s8 27 (upd (s8.1 27) x1.toNatClampNeg 0) = s9 at hP
      have hm := bnd_x es9.symm hm
      refine lv_aload_n hx hb dX6_add_70 rfl (lv_at hl 1 rfl) ?_
      refine lv_dup hx hb dX6_add_71 rfl ?_
      refine gfX6_known hx hb h_X6 hown hK hP l_f37 dX6_add_72 ?_
      refine lv_iconst (v := 1) hx hb dX6_add_75 (by decide) ?_
      refine lv_iadd hx hb dX6_add_76 ?_
      refine pfX6_known hx hb h_X6 hown hK hP hI AC_in hS l_f37 dX6_add_77 (fun H locs hP hS => ?_)
      generalize es10 : su s9 6 (fun _ => (s9.1 6 0) + 1) = s10 at hP
      have hm := bnd_x es10.symm hm
      refine lv_iload hx hb dX6_add_80 (lv_at hl 0 rfl) ?_
      exact W.iret (v := x1) hx hb hr (fun T hT hW => ⟨⟨x1, s10, rfl, ⟨congrArg Prod.fst (Option.some.inj hm), congrArg Prod.snd (Option.some.inj hm)⟩, by rw [posW, hT]; exact hP⟩, hS.F hT⟩) hS.2.2 dX6_add_82
    · have hm := (if_neg c3).symm.trans hm
      refine lv_iconst (v := (-1)) hx hb dX6_add_18 (by decide) ?_
      exact W.iret (v := (-1)) hx hb hr (fun T hT hW => ⟨⟨(-1), σ, rfl, ⟨congrArg Prod.fst (Option.some.inj hm), congrArg Prod.snd (Option.some.inj hm)⟩, by rw [posW, hT]; exact hP⟩, hS.F hT⟩) hS.2.2 dX6_add_19
theorem eX6_neededShare : yX6_neededShare.cls = RX6 ∧ yX6_neededShare.cls ≠ "java/lang/invoke/MethodHandle" ∧ yX6_neededShare.cls ≠ "java/lang/invoke/VarHandle" ∧ (parseMethodDescriptor yX6_neededShare.desc).map (fun d => d.parameters.length) = some 0 := by decide +kernel
def mX6_neededShare_44 (σ : St) (v1 : Int32) (v2 : Int32) : Option UInt64 :=
if 0 < v2 then (
chkN (FP.ddiv (FP.i2d v1) (FP.i2d v2)) (
some (FP.ddiv (FP.i2d v1) (FP.i2d v2))))
else (
some FP.dconst1)
def bX6_neededShare_6 (kh6 : St → Int32 → Int32 → Int32 → Option UInt64) (σ : St) (v4 : Int32) (v5 : Int32) (v6 : Int32) : Option UInt64 :=
if (σ.1 6 0) ≤ v6 then (
mX6_neededShare_44 σ v4 v5)
else (
if 16 ≤ v6 then (
mX6_neededShare_44 σ v4 v5)
else (
chkI v6 16 (
bnd (v4 + (σ.1 26 v6.toNatClampNeg)) fun x9 =>
chkI v6 16 (
bnd (v5 + (σ.1 25 v6.toNatClampNeg)) fun x10 =>
bnd (v6 + 1) fun x11 =>
kh6 σ x9 x10 x11))))
abbrev mX6_neededShare_6 (n : Nat) : St → Int32 → Int32 → Int32 → Option UInt64 := fx (fun _ _ _ _ => none) (bX6_neededShare_6) n
def mX6_neededShare (σ : St) : Option UInt64 :=
mX6_neededShare_6 NF σ 0 0 0
set_option maxHeartbeats 4000000 in
set_option maxRecDepth 100000 in
theorem kX6_neededShare (l : Launch) (D : va_G) (y : Nat → ClassId) (a t : Nat → Nat) (hI : AI a 37) (sz : Nat) (σ : St) (r : UInt64) (hm : mX6_neededShare σ = some r) : Met l yX6_neededShare zX6_neededShare { frames := 0, cells := 0, slots := 0, locals := 0 } (va_Pc [.ref (a 4)] (preW (wC y a) a 37 D y t σ sz)) (va_Qd (fun r' u => r' = r ∧ u = σ) (posW (wC y a) D) (AC a 37 sz)) 0 0 (AC a 37 sz) := by
  refine Met.ofW (cc := cX6_neededShare) (maxL := 4) (ret := (some .double)) (by decide) rfl ?_
  intro p e s m args below meth c s₁ B hml hv
  obtain ⟨rfl, hsz, hP, hK, hF⟩ := hv
  have hx := B.exec
  have hb := B.bytes
  have hr := B.returns
  have hts := atoms_spec (ws := zX6_neededShare) B.pre
  have hown : s.vm.findClass RX6 = some m.cls := findClass_of_methodNamed B.named
  have hlocks := B.notSynchronized
  subst hsz
  have l_f37 := hts _ (List.mem_cons_of_mem _ aF_X6_37)
  have l_f24 := hts _ (List.mem_cons_of_mem _ aF_X6_24)
  have l_f21 := hts _ (List.mem_cons_of_mem _ aF_X6_21)
  have h_X6 : ∀ w ∈ wsX60, w.before _ s = true := fun w hw => hts w (List.mem_cons_of_mem _ (hwX6 w hw))
  have hS : va_S (AC a 37 s.heap.size) s.heap s.heap [] := va_S.rf
  have hl := lv_entry ([.ref (a 4)]) (n := 4) (Nat.le_of_ble_eq_true rfl)
  rw [lg_entry_eq]
  generalize (lg_sl ([.ref (a 4)]) ++ List.replicate (4 - (lg_sl ([.ref (a 4)])).length) Slot.unset).toArray = ls at hl ⊢
  have hl : lv_has ls 4 [(0, .ref (a 4))] := hl
  have L_44 : ∀ (v1 : Int32) (v2 : Int32) (H : Heap) (locs : List Loc) (ls : Array Slot), va_P D vwCl (wC y a σ) H → va_S (AC a 37 s.heap.size) s.heap H locs → lv_has ls 4 [(1, .int v1), (2, .int v2)] → mX6_neededShare_44 σ v1 v2 = some r → W p l e (headSpec zX6_neededShare ({ frames := 0, cells := 0, slots := 0, locals := 0 })).room s m ([.ref (a 4)] : List Value).toArray below meth c H locs 0 0 (MQ below (va_Qd (fun r' u => r' = r ∧ u = σ) (posW (wC y a) D) (AC a 37 s.heap.size)) ([.ref (a 4)] : List Value).toArray s 0 0 (AC a 37 s.heap.size)) (F0 m 44 ls []) := by
    intro v1 v2 H locs ls hP hS hl hm
    unfold mX6_neededShare_44 at hm
    refine lv_iload_n hx hb dX6_neededShare_44 rfl (lv_at hl 1 rfl) ?_
    refine lv_if_gt (tgt := 52) hx hb dX6_neededShare_45 (by decide) (fun c3 => ?_) (fun c3 => ?_)
    · have hm := (if_pos c3).symm.trans hm
      refine lv_iload_n hx hb dX6_neededShare_52 rfl (lv_at hl 0 rfl) ?_
      refine lv_i2d hx hb dX6_neededShare_53 ?_
      refine lv_iload_n hx hb dX6_neededShare_54 rfl (lv_at hl 1 rfl) ?_
      refine lv_i2d hx hb dX6_neededShare_55 ?_
      obtain ⟨hn, hm⟩ := ok_N hm
      refine lv_ddiv hx hb dX6_neededShare_56 hn ?_
      exact W.dret (v := FP.ddiv (FP.i2d v1) (FP.i2d v2)) hx hb hr (fun T hT hW => ⟨⟨FP.ddiv (FP.i2d v1) (FP.i2d v2), σ, rfl, ⟨Option.some.inj hm, rfl⟩, by rw [posW, hT]; exact hP⟩, hS.F hT⟩) hS.2.2 dX6_neededShare_57
    · have hm := (if_neg c3).symm.trans hm
      refine lv_dconst1 hx hb dX6_neededShare_48 ?_
      refine lv_goto (tgt := 57) hx hb dX6_neededShare_49 (by decide) ?_
      exact W.dret (v := FP.dconst1) hx hb hr (fun T hT hW => ⟨⟨FP.dconst1, σ, rfl, ⟨Option.some.inj hm, rfl⟩, by rw [posW, hT]; exact hP⟩, hS.F hT⟩) hS.2.2 dX6_neededShare_57
  have L_6 : ∀ (n : Nat) (v4 : Int32) (v5 : Int32) (v6 : Int32) (H : Heap) (locs : List Loc) (ls : Array Slot), va_P D vwCl (wC y a σ) H → va_S (AC a 37 s.heap.size) s.heap H locs → lv_has ls 4 [(0, .ref (a 4)), (1, .int v4), (2, .int v5), (3, .int v6)] → mX6_neededShare_6 n σ v4 v5 v6 = some r → W p l e (headSpec zX6_neededShare ({ frames := 0, cells := 0, slots := 0, locals := 0 })).room s m ([.ref (a 4)] : List Value).toArray below meth c H locs 0 0 (MQ below (va_Qd (fun r' u => r' = r ∧ u = σ) (posW (wC y a) D) (AC a 37 s.heap.size)) ([.ref (a 4)] : List Value).toArray s 0 0 (AC a 37 s.heap.size)) (F0 m 6 ls []) := by
    intro n
    induction n with
    | zero =>
      intro v4 v5 v6 H locs ls hP hS hl hm
      exact absurd (show (none : Option UInt64) = some r from hm) (by intro h; cases h)
    | succ n ih6 =>
      obtain ⟨kh6, ekh6⟩ : ∃ z, z = mX6_neededShare_6 n := ⟨_, rfl⟩
      have ih6 : ∀ (v4 : Int32) (v5 : Int32) (v6 : Int32) (H : Heap) (locs : List Loc) (ls : Array Slot), va_P D vwCl (wC y a σ) H → va_S (AC a 37 s.heap.size) s.heap H locs → lv_has ls 4 [(0, .ref (a 4)), (1, .int v4), (2, .int v5), (3, .int v6)] → kh6 σ v4 v5 v6 = some r → W p l e (headSpec zX6_neededShare ({ frames := 0, cells := 0, slots := 0, locals := 0 })).room s m ([.ref (a 4)] : List Value).toArray below meth c H locs 0 0 (MQ below (va_Qd (fun r' u => r' = r ∧ u = σ) (posW (wC y a) D) (AC a 37 s.heap.size)) ([.ref (a 4)] : List Value).toArray s 0 0 (AC a 37 s.heap.size)) (F0 m 6 ls []) := by rw [ekh6]; exact ih6
      intro v4 v5 v6 H locs ls hP hS hl hm
      have hm : bX6_neededShare_6 (mX6_neededShare_6 n) σ v4 v5 v6 = some r := hm
      rw [← ekh6] at hm
      unfold bX6_neededShare_6 at hm
      refine lv_iload_n hx hb dX6_neededShare_6 rfl (lv_at hl 3 rfl) ?_
      refine lv_aload_n hx hb dX6_neededShare_7 rfl (lv_at hl 0 rfl) ?_
      refine gfX6_known hx hb h_X6 hown hK hP l_f37 dX6_neededShare_8 ?_
      refine lv_icmp_ge (tgt := 44) hx hb dX6_neededShare_11 (by decide) (fun c7 => ?_) (fun c7 => ?_)
      · have hm := (if_pos c7).symm.trans hm
        exact L_44 v4 v5 _ _ _ hP hS (lv_sub hl [1, 2] rfl) hm
      · have hm := (if_neg c7).symm.trans hm
        refine lv_iload_n hx hb dX6_neededShare_14 rfl (lv_at hl 3 rfl) ?_
        refine lv_bipush (v := 16) hx hb dX6_neededShare_15 (by decide) ?_
        refine lv_icmp_ge (tgt := 44) hx hb dX6_neededShare_17 (by decide) (fun c8 => ?_) (fun c8 => ?_)
        · have hm := (if_pos c8).symm.trans hm
          exact L_44 v4 v5 _ _ _ hP hS (lv_sub hl [1, 2] rfl) hm
        · have hm := (if_neg c8).symm.trans hm
          refine lv_iload_n hx hb dX6_neededShare_20 rfl (lv_at hl 1 rfl) ?_
          refine lv_aload_n hx hb dX6_neededShare_21 rfl (lv_at hl 0 rfl) ?_
          refine gfX6_needed hx hb h_X6 hown hK hP l_f24 dX6_neededShare_22 ?_
          refine lv_iload_n hx hb dX6_neededShare_25 rfl (lv_at hl 3 rfl) ?_
          obtain ⟨hi, hm⟩ := ok_I hm
          refine ldC_23 hx hb hK hP hi dX6_neededShare_26 ?_
          refine lv_iadd hx hb dX6_neededShare_27 ?_
          refine lv_topi (fun x9 ex9 => ?_)
          have hm := bnd_x ex9 hm
          refine lv_istore_n (lv' := [(1, .int x9), (0, .ref (a 4)), (2, .int v5), (3, .int v6)]) hx hb dX6_neededShare_28 rfl hl (by decide) rfl (fun ls hl => ?_)
          refine lv_iload_n hx hb dX6_neededShare_29 rfl (lv_at hl 2 rfl) ?_
          refine lv_aload_n hx hb dX6_neededShare_30 rfl (lv_at hl 1 rfl) ?_
          refine gfX6_lines hx hb h_X6 hown hK hP l_f21 dX6_neededShare_31 ?_
          refine lv_iload_n hx hb dX6_neededShare_34 rfl (lv_at hl 3 rfl) ?_
          obtain ⟨hi, hm⟩ := ok_I hm
          refine ldC_22 hx hb hK hP hi dX6_neededShare_35 ?_
          refine lv_iadd hx hb dX6_neededShare_36 ?_
          refine lv_topi (fun x10 ex10 => ?_)
          have hm := bnd_x ex10 hm
          refine lv_istore_n (lv' := [(2, .int x10), (1, .int x9), (0, .ref (a 4)), (3, .int v6)]) hx hb dX6_neededShare_37 rfl hl (by decide) rfl (fun ls hl => ?_)
          obtain ⟨x11, ex11⟩ : ∃ z : Int32, z = v6 + 1 := ⟨_, rfl⟩
          have hm := bnd_x ex11 hm
          refine lv_iinc (v := x11) (lv' := [(3, .int x11), (2, .int x10), (1, .int x9), (0, .ref (a 4))]) hx hb dX6_neededShare_38 hl (k := 3) rfl (by rw [ex11]; rfl) (by decide) rfl (fun ls hl => ?_)
          refine lv_goto (tgt := 6) hx hb dX6_neededShare_41 (by decide) ?_
          exact ih6 x9 x10 x11 _ _ _ hP hS (lv_sub hl [3, 2, 1, 0] rfl) hm
  unfold mX6_neededShare at hm
  refine lv_iconst (v := 0) hx hb dX6_neededShare_0 (by decide) ?_
  refine lv_istore_n (lv' := [(1, .int 0), (0, .ref (a 4))]) hx hb dX6_neededShare_1 rfl hl (by decide) rfl (fun ls hl => ?_)
  refine lv_iconst (v := 0) hx hb dX6_neededShare_2 (by decide) ?_
  refine lv_istore_n (lv' := [(2, .int 0), (1, .int 0), (0, .ref (a 4))]) hx hb dX6_neededShare_3 rfl hl (by decide) rfl (fun ls hl => ?_)
  refine lv_iconst (v := 0) hx hb dX6_neededShare_4 (by decide) ?_
  refine lv_istore_n (lv' := [(3, .int 0), (2, .int 0), (1, .int 0), (0, .ref (a 4))]) hx hb dX6_neededShare_5 rfl hl (by decide) rfl (fun ls hl => ?_)
  exact L_6 NF 0 0 0 _ _ _ hP hS (lv_sub hl [3, 2, 1, 0] rfl) hm
theorem eX6_becomes : yX6_becomes.cls = RX6 ∧ yX6_becomes.cls ≠ "java/lang/invoke/MethodHandle" ∧ yX6_becomes.cls ≠ "java/lang/invoke/VarHandle" ∧ (parseMethodDescriptor yX6_becomes.desc).map (fun d => d.parameters.length) = some 2 := by decide +kernel
def mX6_becomes_29 (s3 : St) (v1 : Int32) (v2 : Int32) : Option (Int32 × St) :=
chkI v1 240 (
if (s3.1 28 v1.toNatClampNeg) = v2 then (
some (1, s3))
else (
some (0, s3)))
def mX6_becomes (σ : St) (p1 : Int32) (p2 : Int32) : Option (Int32 × St) :=
if p1 < 0 then (
some (0, σ))
else (
if p1 < 240 then (
chkI p1 240 (
if 0 ≤ (σ.1 28 p1.toNatClampNeg) then (
mX6_becomes_29 σ p1 p2)
else (
chkI p1 240 (
bnd (su σ 28 (upd (σ.1 28) p1.toNatClampNeg p2)) fun s8 =>
mX6_becomes_29 s8 p1 p2))))
else (
some (0, σ)))
set_option maxHeartbeats 4000000 in
set_option maxRecDepth 100000 in
theorem kX6_becomes (l : Launch) (D : va_G) (y : Nat → ClassId) (a t : Nat → Nat) (hI : AI a 37) (sz : Nat) (σ τ : St) (p1 : Int32) (p2 : Int32) (r : Int32) (hm : mX6_becomes σ p1 p2 = some (r, τ)) : Met l yX6_becomes zX6_becomes { frames := 0, cells := 0, slots := 0, locals := 0 } (va_Pc [.ref (a 4), .int p1, .int p2] (preW (wC y a) a 37 D y t σ sz)) (va_Qi (fun r' u => r' = r ∧ u = τ) (posW (wC y a) D) (AC a 37 sz)) 0 0 (AC a 37 sz) := by
  refine Met.ofW (cc := cX6_becomes) (maxL := 3) (ret := (some .boolean)) (by decide) rfl ?_
  intro p e s m args below meth c s₁ B hml hv
  obtain ⟨rfl, hsz, hP, hK, hF⟩ := hv
  have hx := B.exec
  have hb := B.bytes
  have hr := B.returns
  have hts := atoms_spec (ws := zX6_becomes) B.pre
  have hown : s.vm.findClass RX6 = some m.cls := findClass_of_methodNamed B.named
  have hlocks := B.notSynchronized
  subst hsz
  have l_f30 := hts _ (List.mem_cons_of_mem _ aF_X6_30)
  have h_X6 : ∀ w ∈ wsX60, w.before _ s = true := fun w hw => hts w (List.mem_cons_of_mem _ (hwX6 w hw))
  have hS : va_S (AC a 37 s.heap.size) s.heap s.heap [] := va_S.rf
  have hl := lv_entry ([.ref (a 4), .int p1, .int p2]) (n := 3) (Nat.le_of_ble_eq_true rfl)
  rw [lg_entry_eq]
  generalize (lg_sl ([.ref (a 4), .int p1, .int p2]) ++ List.replicate (3 - (lg_sl ([.ref (a 4), .int p1, .int p2])).length) Slot.unset).toArray = ls at hl ⊢
  have hl : lv_has ls 3 [(0, .ref (a 4)), (1, .int p1), (2, .int p2)] := hl
  have L_29 : ∀ (s3 : St) (v1 : Int32) (v2 : Int32) (H : Heap) (locs : List Loc) (ls : Array Slot), va_P D vwCl (wC y a s3) H → va_S (AC a 37 s.heap.size) s.heap H locs → lv_has ls 3 [(0, .ref (a 4)), (1, .int v1), (2, .int v2)] → mX6_becomes_29 s3 v1 v2 = some (r, τ) → W p l e (headSpec zX6_becomes ({ frames := 0, cells := 0, slots := 0, locals := 0 })).room s m ([.ref (a 4), .int p1, .int p2] : List Value).toArray below meth c H locs 0 0 (MQ below (va_Qi (fun r' u => r' = r ∧ u = τ) (posW (wC y a) D) (AC a 37 s.heap.size)) ([.ref (a 4), .int p1, .int p2] : List Value).toArray s 0 0 (AC a 37 s.heap.size)) (F0 m 29 ls []) := by
    intro s3 v1 v2 H locs ls hP hS hl hm
    unfold mX6_becomes_29 at hm
    refine lv_aload_n hx hb dX6_becomes_29 rfl (lv_at hl 0 rfl) ?_
    refine gfX6_images hx hb h_X6 hown hK hP l_f30 dX6_becomes_30 ?_
    refine lv_iload_n hx hb dX6_becomes_33 rfl (lv_at hl 1 rfl) ?_
    obtain ⟨hi, hm⟩ := ok_I hm
    refine ldC_25 hx hb hK hP hi dX6_becomes_34 ?_
    refine lv_iload_n hx hb dX6_becomes_35 rfl (lv_at hl 2 rfl) ?_
    refine lv_icmp_ne (tgt := 43) hx hb dX6_becomes_36 (by decide) (fun c4 => ?_) (fun c4 => ?_)
    · have hm := (if_neg c4).symm.trans hm
      refine lv_iconst (v := 0) hx hb dX6_becomes_43 (by decide) ?_
      exact W.zret (v := 0) hx hb hr rfl (fun T hT hW => ⟨⟨0, s3, rfl, ⟨congrArg Prod.fst (Option.some.inj hm), congrArg Prod.snd (Option.some.inj hm)⟩, by rw [posW, hT]; exact hP⟩, hS.F hT⟩) hS.2.2 dX6_becomes_44
    · have hm := (if_pos c4).symm.trans hm
      refine lv_iconst (v := 1) hx hb dX6_becomes_39 (by decide) ?_
      refine lv_goto (tgt := 44) hx hb dX6_becomes_40 (by decide) ?_
      exact W.zret (v := 1) hx hb hr rfl (fun T hT hW => ⟨⟨1, s3, rfl, ⟨congrArg Prod.fst (Option.some.inj hm), congrArg Prod.snd (Option.some.inj hm)⟩, by rw [posW, hT]; exact hP⟩, hS.F hT⟩) hS.2.2 dX6_becomes_44
  unfold mX6_becomes at hm
  refine lv_iload_n hx hb dX6_becomes_0 rfl (lv_at hl 1 rfl) ?_
  refine lv_if_lt (tgt := 11) hx hb dX6_becomes_1 (by decide) (fun c5 => ?_) (fun c5 => ?_)
  · have hm := (if_pos c5).symm.trans hm
    refine lv_iconst (v := 0) hx hb dX6_becomes_11 (by decide) ?_
    exact W.zret (v := 0) hx hb hr rfl (fun T hT hW => ⟨⟨0, σ, rfl, ⟨congrArg Prod.fst (Option.some.inj hm), congrArg Prod.snd (Option.some.inj hm)⟩, by rw [posW, hT]; exact hP⟩, hS.F hT⟩) hS.2.2 dX6_becomes_12
  · have hm := (if_neg c5).symm.trans hm
    refine lv_iload_n hx hb dX6_becomes_4 rfl (lv_at hl 1 rfl) ?_
    refine lv_sipush (v := 240) hx hb dX6_becomes_5 (by decide) ?_
    refine lv_icmp_lt (tgt := 13) hx hb dX6_becomes_8 (by decide) (fun c6 => ?_) (fun c6 => ?_)
    · have hm := (if_pos c6).symm.trans hm
      refine lv_aload_n hx hb dX6_becomes_13 rfl (lv_at hl 0 rfl) ?_
      refine gfX6_images hx hb h_X6 hown hK hP l_f30 dX6_becomes_14 ?_
      refine lv_iload_n hx hb dX6_becomes_17 rfl (lv_at hl 1 rfl) ?_
      obtain ⟨hi, hm⟩ := ok_I hm
      refine ldC_25 hx hb hK hP hi dX6_becomes_18 ?_
      refine lv_if_ge (tgt := 29) hx hb dX6_becomes_19 (by decide) (fun c7 => ?_) (fun c7 => ?_)
      · have hm := (if_pos c7).symm.trans hm
        exact L_29 σ p1 p2 _ _ _ hP hS (lv_sub hl [0, 1, 2] rfl) hm
      · have hm := (if_neg c7).symm.trans hm
        refine lv_aload_n hx hb dX6_becomes_22 rfl (lv_at hl 0 rfl) ?_
        refine gfX6_images hx hb h_X6 hown hK hP l_f30 dX6_becomes_23 ?_
        refine lv_iload_n hx hb dX6_becomes_26 rfl (lv_at hl 1 rfl) ?_
        refine lv_iload_n hx hb dX6_becomes_27 rfl (lv_at hl 2 rfl) ?_
        obtain ⟨hi, hm⟩ := ok_I hm
        refine stC_25 hx hb hK hP hI AC_in hS hi dX6_becomes_28 (fun H locs hP hS => ?_)
        generalize es8 : su σ 28 (upd (σ.1 28) p1.toNatClampNeg p2) = s8 at hP
        have hm := bnd_x es8.symm hm
        exact L_29 s8 p1 p2 _ _ _ hP hS (lv_sub hl [0, 1, 2] rfl) hm
    · have hm := (if_neg c6).symm.trans hm
      refine lv_iconst (v := 0) hx hb dX6_becomes_11 (by decide) ?_
      exact W.zret (v := 0) hx hb hr rfl (fun T hT hW => ⟨⟨0, σ, rfl, ⟨congrArg Prod.fst (Option.some.inj hm), congrArg Prod.snd (Option.some.inj hm)⟩, by rw [posW, hT]; exact hP⟩, hS.F hT⟩) hS.2.2 dX6_becomes_12
theorem eX6_partsBecome : yX6_partsBecome.cls = RX6 ∧ yX6_partsBecome.cls ≠ "java/lang/invoke/MethodHandle" ∧ yX6_partsBecome.cls ≠ "java/lang/invoke/VarHandle" ∧ (parseMethodDescriptor yX6_partsBecome.desc).map (fun d => d.parameters.length) = some 2 := by decide +kernel
def mX6_partsBecome_55 (s4 : St) (v1 : Int32) (v2 : Int32) (v3 : Int32) : Option (Int32 × St) :=
if v3 < 3 then (
some (1, s4))
else (
(mX1_second s4 v1).bind fun r6 =>
(mX1_second s4 v2).bind fun r8 =>
(mX6_becomes s4 r6 r8).bind fun ⟨r10, s12⟩ =>
if r10 = 0 then (
some (0, s12))
else (
some (1, s12)))
def mX6_partsBecome (σ : St) (p1 : Int32) (p2 : Int32) : Option (Int32 × St) :=
(mX1_sort σ p1).bind fun r14 =>
if r14 = 0 then (
some (1, σ))
else (
(mX1_sort σ p2).bind fun r17 =>
if r14 = r17 then (
if r14 < 2 then (
mX6_partsBecome_55 σ p1 p2 r14)
else (
(mX1_left σ p1).bind fun r21 =>
(mX1_left σ p2).bind fun r23 =>
(mX6_becomes σ r21 r23).bind fun ⟨r25, s27⟩ =>
if r25 = 0 then (
some (0, s27))
else (
mX6_partsBecome_55 s27 p1 p2 r14)))
else (
some (0, σ)))
set_option maxHeartbeats 4000000 in
set_option maxRecDepth 100000 in
theorem kX6_partsBecome (l : Launch) (D : va_G) (y : Nat → ClassId) (a t : Nat → Nat) (hI : AI a 37) (sz : Nat) (σ τ : St) (p1 : Int32) (p2 : Int32) (r : Int32) (hm : mX6_partsBecome σ p1 p2 = some (r, τ)) : Met l yX6_partsBecome zX6_partsBecome { frames := 1, cells := 0, slots := 0, locals := 22 } (va_Pc [.ref (a 4), .int p1, .int p2] (preW (wC y a) a 37 D y t σ sz)) (va_Qi (fun r' u => r' = r ∧ u = τ) (posW (wC y a) D) (AC a 37 sz)) 0 0 (AC a 37 sz) := by
  refine Met.ofW (cc := cX6_partsBecome) (maxL := 4) (ret := (some .boolean)) (by decide) rfl ?_
  intro p e s m args below meth c s₁ B hml hv
  obtain ⟨rfl, hsz, hP, hK, hF⟩ := hv
  have hx := B.exec
  have hb := B.bytes
  have hr := B.returns
  have hts := atoms_spec (ws := zX6_partsBecome) B.pre
  have hown : s.vm.findClass RX6 = some m.cls := findClass_of_methodNamed B.named
  have hlocks := B.notSynchronized
  subst hsz
  have l_f33 := hts _ (List.mem_cons_of_mem _ aF_X6_33)
  have h_X6 : ∀ w ∈ wsX60, w.before _ s = true := fun w hw => hts w (List.mem_cons_of_mem _ (hwX6 w hw))
  have hS : va_S (AC a 37 s.heap.size) s.heap s.heap [] := va_S.rf
  have hl := lv_entry ([.ref (a 4), .int p1, .int p2]) (n := 4) (Nat.le_of_ble_eq_true rfl)
  rw [lg_entry_eq]
  generalize (lg_sl ([.ref (a 4), .int p1, .int p2]) ++ List.replicate (4 - (lg_sl ([.ref (a 4), .int p1, .int p2])).length) Slot.unset).toArray = ls at hl ⊢
  have hl : lv_has ls 4 [(0, .ref (a 4)), (1, .int p1), (2, .int p2)] := hl
  have L_55 : ∀ (s4 : St) (v1 : Int32) (v2 : Int32) (v3 : Int32) (H : Heap) (locs : List Loc) (ls : Array Slot), va_P D vwCl (wC y a s4) H → va_S (AC a 37 s.heap.size) s.heap H locs → lv_has ls 4 [(0, .ref (a 4)), (1, .int v1), (2, .int v2), (3, .int v3)] → mX6_partsBecome_55 s4 v1 v2 v3 = some (r, τ) → W p l e (headSpec zX6_partsBecome ({ frames := 1, cells := 0, slots := 0, locals := 22 })).room s m ([.ref (a 4), .int p1, .int p2] : List Value).toArray below meth c H locs 0 0 (MQ below (va_Qi (fun r' u => r' = r ∧ u = τ) (posW (wC y a) D) (AC a 37 s.heap.size)) ([.ref (a 4), .int p1, .int p2] : List Value).toArray s 0 0 (AC a 37 s.heap.size)) (F0 m 55 ls []) := by
    intro s4 v1 v2 v3 H locs ls hP hS hl hm
    unfold mX6_partsBecome_55 at hm
    refine lv_iload_n hx hb dX6_partsBecome_55 rfl (lv_at hl 3 rfl) ?_
    refine lv_iconst (v := 3) hx hb dX6_partsBecome_56 (by decide) ?_
    refine lv_icmp_lt (tgt := 83) hx hb dX6_partsBecome_57 (by decide) (fun c5 => ?_) (fun c5 => ?_)
    · have hm := (if_pos c5).symm.trans hm
      refine lv_iconst (v := 1) hx hb dX6_partsBecome_83 (by decide) ?_
      refine lv_goto (tgt := 88) hx hb dX6_partsBecome_84 (by decide) ?_
      exact W.zret (v := 1) hx hb hr rfl (fun T hT hW => ⟨⟨1, s4, rfl, ⟨congrArg Prod.fst (Option.some.inj hm), congrArg Prod.snd (Option.some.inj hm)⟩, by rw [posW, hT]; exact hP⟩, hS.F hT⟩) hS.2.2 dX6_partsBecome_88
    · have hm := (if_neg c5).symm.trans hm
      refine lv_aload_n hx hb dX6_partsBecome_60 rfl (lv_at hl 0 rfl) ?_
      refine lv_aload_n hx hb dX6_partsBecome_61 rfl (lv_at hl 0 rfl) ?_
      refine gfX6_formulas hx hb h_X6 hown hK hP l_f33 dX6_partsBecome_62 ?_
      refine lv_iload_n hx hb dX6_partsBecome_65 rfl (lv_at hl 1 rfl) ?_
      obtain ⟨r6, h7, hm⟩ := ok_bind hm
      refine calV_i (As := [.int v1]) (rest := [.ref (a 4)]) ⟨hx, hb, hml, hown, hts⟩ (kX1_second l D y a t hI _ s4 v1 r6 h7) (cwV 1 hts (gAV aM_X6_80 aI_X1_second aS_X1_second aN_X1 aC_X1_second) rfl rfl rfl eX1_second ⟨Nat.le_of_ble_eq_true rfl, Nat.le_of_ble_eq_true rfl⟩) (preV_W (ci := 1) (q := (RX1, TX1, 8)) hK hP hF hS rfl (wC_1 y a s4)) rfl hl.1 rfl (Nat.le_of_ble_eq_true rfl) dX6_partsBecome_66 ⟨Nat.zero_le _, Nat.zero_le _⟩ hS (AC_le hS.1) (fun H locs hP hS hk1 => ?_)
      refine lv_aload_n hx hb dX6_partsBecome_69 rfl (lv_at hl 0 rfl) ?_
      refine gfX6_formulas hx hb h_X6 hown hK hP l_f33 dX6_partsBecome_70 ?_
      refine lv_iload_n hx hb dX6_partsBecome_73 rfl (lv_at hl 2 rfl) ?_
      obtain ⟨r8, h9, hm⟩ := ok_bind hm
      refine calV_i (As := [.int v2]) (rest := [.int r6, .ref (a 4)]) ⟨hx, hb, hml, hown, hts⟩ (kX1_second l D y a t hI _ s4 v2 r8 h9) (cwV 1 hts (gAV aM_X6_80 aI_X1_second aS_X1_second aN_X1 aC_X1_second) rfl rfl rfl eX1_second ⟨Nat.le_of_ble_eq_true rfl, Nat.le_of_ble_eq_true rfl⟩) (preV_W (ci := 1) (q := (RX1, TX1, 8)) hK hP hF hS rfl (wC_1 y a s4)) rfl hl.1 rfl (Nat.le_of_ble_eq_true rfl) dX6_partsBecome_74 ⟨Nat.zero_le _, Nat.zero_le _⟩ hS (AC_le hS.1) (fun H locs hP hS hk1 => ?_)
      obtain ⟨⟨r10, s12⟩, h11, hm⟩ := ok_bind hm
      refine calV_i (As := [.int r6, .int r8]) (rest := []) ⟨hx, hb, hml, hown, hts⟩ (kX6_becomes l D y a t hI _ s4 s12 r6 r8 r10 h11) (cwV 2 hts (gAV aM_X6_55 aI_X6_becomes aS_X6_becomes aN_X6 aC_X6_becomes) rfl rfl rfl eX6_becomes ⟨Nat.le_of_ble_eq_true rfl, Nat.le_of_ble_eq_true rfl⟩) (preV_W (ci := 6) (q := (RX6, TX6, 9)) hK hP hF hS rfl (wC_4 y a s4)) rfl hl.1 rfl (Nat.le_of_ble_eq_true rfl) dX6_partsBecome_77 ⟨Nat.zero_le _, Nat.zero_le _⟩ hS (AC_le hS.1) (fun H locs hP hS hk1 => ?_)
      refine lv_if_eq (tgt := 87) hx hb dX6_partsBecome_80 (by decide) (fun c13 => ?_) (fun c13 => ?_)
      · have hm := (if_pos c13).symm.trans hm
        refine lv_iconst (v := 0) hx hb dX6_partsBecome_87 (by decide) ?_
        exact W.zret (v := 0) hx hb hr rfl (fun T hT hW => ⟨⟨0, s12, rfl, ⟨congrArg Prod.fst (Option.some.inj hm), congrArg Prod.snd (Option.some.inj hm)⟩, by rw [posW, hT]; exact hP⟩, hS.F hT⟩) hS.2.2 dX6_partsBecome_88
      · have hm := (if_neg c13).symm.trans hm
        refine lv_iconst (v := 1) hx hb dX6_partsBecome_83 (by decide) ?_
        refine lv_goto (tgt := 88) hx hb dX6_partsBecome_84 (by decide) ?_
        exact W.zret (v := 1) hx hb hr rfl (fun T hT hW => ⟨⟨1, s12, rfl, ⟨congrArg Prod.fst (Option.some.inj hm), congrArg Prod.snd (Option.some.inj hm)⟩, by rw [posW, hT]; exact hP⟩, hS.F hT⟩) hS.2.2 dX6_partsBecome_88
  unfold mX6_partsBecome at hm
  refine lv_aload_n hx hb dX6_partsBecome_0 rfl (lv_at hl 0 rfl) ?_
  refine gfX6_formulas hx hb h_X6 hown hK hP l_f33 dX6_partsBecome_1 ?_
  refine lv_iload_n hx hb dX6_partsBecome_4 rfl (lv_at hl 1 rfl) ?_
  obtain ⟨r14, h15, hm⟩ := ok_bind hm
  refine calV_i (As := [.int p1]) (rest := []) ⟨hx, hb, hml, hown, hts⟩ (kX1_sort l D y a t hI _ σ p1 r14 h15) (cwV 1 hts (gAV aM_X6_74 aI_X1_sort aS_X1_sort aN_X1 aC_X1_sort) rfl rfl rfl eX1_sort ⟨Nat.le_of_ble_eq_true rfl, Nat.le_of_ble_eq_true rfl⟩) (preV_W (ci := 1) (q := (RX1, TX1, 8)) hK hP hF hS rfl (wC_1 y a σ)) rfl hl.1 rfl (Nat.le_of_ble_eq_true rfl) dX6_partsBecome_5 ⟨Nat.zero_le _, Nat.zero_le _⟩ hS (AC_le hS.1) (fun H locs hP hS hk1 => ?_)
  refine lv_istore_n (lv' := [(3, .int r14), (0, .ref (a 4)), (1, .int p1), (2, .int p2)]) hx hb dX6_partsBecome_8 rfl hl (by decide) rfl (fun ls hl => ?_)
  refine lv_iload_n hx hb dX6_partsBecome_9 rfl (lv_at hl 0 rfl) ?_
  refine lv_if_ne (tgt := 15) hx hb dX6_partsBecome_10 (by decide) (fun c16 => ?_) (fun c16 => ?_)
  · have hm := (if_neg c16).symm.trans hm
    refine lv_iload_n hx hb dX6_partsBecome_15 rfl (lv_at hl 0 rfl) ?_
    refine lv_aload_n hx hb dX6_partsBecome_16 rfl (lv_at hl 1 rfl) ?_
    refine gfX6_formulas hx hb h_X6 hown hK hP l_f33 dX6_partsBecome_17 ?_
    refine lv_iload_n hx hb dX6_partsBecome_20 rfl (lv_at hl 3 rfl) ?_
    obtain ⟨r17, h18, hm⟩ := ok_bind hm
    refine calV_i (As := [.int p2]) (rest := [.int r14]) ⟨hx, hb, hml, hown, hts⟩ (kX1_sort l D y a t hI _ σ p2 r17 h18) (cwV 1 hts (gAV aM_X6_74 aI_X1_sort aS_X1_sort aN_X1 aC_X1_sort) rfl rfl rfl eX1_sort ⟨Nat.le_of_ble_eq_true rfl, Nat.le_of_ble_eq_true rfl⟩) (preV_W (ci := 1) (q := (RX1, TX1, 8)) hK hP hF hS rfl (wC_1 y a σ)) rfl hl.1 rfl (Nat.le_of_ble_eq_true rfl) dX6_partsBecome_21 ⟨Nat.zero_le _, Nat.zero_le _⟩ hS (AC_le hS.1) (fun H locs hP hS hk1 => ?_)
    refine lv_icmp_ne (tgt := 87) hx hb dX6_partsBecome_24 (by decide) (fun c19 => ?_) (fun c19 => ?_)
    · have hm := (if_neg c19).symm.trans hm
      refine lv_iconst (v := 0) hx hb dX6_partsBecome_87 (by decide) ?_
      exact W.zret (v := 0) hx hb hr rfl (fun T hT hW => ⟨⟨0, σ, rfl, ⟨congrArg Prod.fst (Option.some.inj hm), congrArg Prod.snd (Option.some.inj hm)⟩, by rw [posW, hT]; exact hP⟩, hS.F hT⟩) hS.2.2 dX6_partsBecome_88
    · have hm := (if_pos c19).symm.trans hm
      refine lv_iload_n hx hb dX6_partsBecome_27 rfl (lv_at hl 0 rfl) ?_
      refine lv_iconst (v := 2) hx hb dX6_partsBecome_28 (by decide) ?_
      refine lv_icmp_lt (tgt := 55) hx hb dX6_partsBecome_29 (by decide) (fun c20 => ?_) (fun c20 => ?_)
      · have hm := (if_pos c20).symm.trans hm
        exact L_55 σ p1 p2 r14 _ _ _ hP hS (lv_sub hl [1, 2, 3, 0] rfl) hm
      · have hm := (if_neg c20).symm.trans hm
        refine lv_aload_n hx hb dX6_partsBecome_32 rfl (lv_at hl 1 rfl) ?_
        refine lv_aload_n hx hb dX6_partsBecome_33 rfl (lv_at hl 1 rfl) ?_
        refine gfX6_formulas hx hb h_X6 hown hK hP l_f33 dX6_partsBecome_34 ?_
        refine lv_iload_n hx hb dX6_partsBecome_37 rfl (lv_at hl 2 rfl) ?_
        obtain ⟨r21, h22, hm⟩ := ok_bind hm
        refine calV_i (As := [.int p1]) (rest := [.ref (a 4)]) ⟨hx, hb, hml, hown, hts⟩ (kX1_left l D y a t hI _ σ p1 r21 h22) (cwV 1 hts (gAV aM_X6_77 aI_X1_left aS_X1_left aN_X1 aC_X1_left) rfl rfl rfl eX1_left ⟨Nat.le_of_ble_eq_true rfl, Nat.le_of_ble_eq_true rfl⟩) (preV_W (ci := 1) (q := (RX1, TX1, 8)) hK hP hF hS rfl (wC_1 y a σ)) rfl hl.1 rfl (Nat.le_of_ble_eq_true rfl) dX6_partsBecome_38 ⟨Nat.zero_le _, Nat.zero_le _⟩ hS (AC_le hS.1) (fun H locs hP hS hk1 => ?_)
        refine lv_aload_n hx hb dX6_partsBecome_41 rfl (lv_at hl 1 rfl) ?_
        refine gfX6_formulas hx hb h_X6 hown hK hP l_f33 dX6_partsBecome_42 ?_
        refine lv_iload_n hx hb dX6_partsBecome_45 rfl (lv_at hl 3 rfl) ?_
        obtain ⟨r23, h24, hm⟩ := ok_bind hm
        refine calV_i (As := [.int p2]) (rest := [.int r21, .ref (a 4)]) ⟨hx, hb, hml, hown, hts⟩ (kX1_left l D y a t hI _ σ p2 r23 h24) (cwV 1 hts (gAV aM_X6_77 aI_X1_left aS_X1_left aN_X1 aC_X1_left) rfl rfl rfl eX1_left ⟨Nat.le_of_ble_eq_true rfl, Nat.le_of_ble_eq_true rfl⟩) (preV_W (ci := 1) (q := (RX1, TX1, 8)) hK hP hF hS rfl (wC_1 y a σ)) rfl hl.1 rfl (Nat.le_of_ble_eq_true rfl) dX6_partsBecome_46 ⟨Nat.zero_le _, Nat.zero_le _⟩ hS (AC_le hS.1) (fun H locs hP hS hk1 => ?_)
        obtain ⟨⟨r25, s27⟩, h26, hm⟩ := ok_bind hm
        refine calV_i (As := [.int r21, .int r23]) (rest := []) ⟨hx, hb, hml, hown, hts⟩ (kX6_becomes l D y a t hI _ σ s27 r21 r23 r25 h26) (cwV 2 hts (gAV aM_X6_55 aI_X6_becomes aS_X6_becomes aN_X6 aC_X6_becomes) rfl rfl rfl eX6_becomes ⟨Nat.le_of_ble_eq_true rfl, Nat.le_of_ble_eq_true rfl⟩) (preV_W (ci := 6) (q := (RX6, TX6, 9)) hK hP hF hS rfl (wC_4 y a σ)) rfl hl.1 rfl (Nat.le_of_ble_eq_true rfl) dX6_partsBecome_49 ⟨Nat.zero_le _, Nat.zero_le _⟩ hS (AC_le hS.1) (fun H locs hP hS hk1 => ?_)
        refine lv_if_eq (tgt := 87) hx hb dX6_partsBecome_52 (by decide) (fun c28 => ?_) (fun c28 => ?_)
        · have hm := (if_pos c28).symm.trans hm
          refine lv_iconst (v := 0) hx hb dX6_partsBecome_87 (by decide) ?_
          exact W.zret (v := 0) hx hb hr rfl (fun T hT hW => ⟨⟨0, s27, rfl, ⟨congrArg Prod.fst (Option.some.inj hm), congrArg Prod.snd (Option.some.inj hm)⟩, by rw [posW, hT]; exact hP⟩, hS.F hT⟩) hS.2.2 dX6_partsBecome_88
        · have hm := (if_neg c28).symm.trans hm
          exact L_55 s27 p1 p2 r14 _ _ _ hP hS (lv_sub hl [1, 2, 3, 0] rfl) hm
  · have hm := (if_pos c16).symm.trans hm
    refine lv_iconst (v := 1) hx hb dX6_partsBecome_13 (by decide) ?_
    exact W.zret (v := 1) hx hb hr rfl (fun T hT hW => ⟨⟨1, σ, rfl, ⟨congrArg Prod.fst (Option.some.inj hm), congrArg Prod.snd (Option.some.inj hm)⟩, by rw [posW, hT]; exact hP⟩, hS.F hT⟩) hS.2.2 dX6_partsBecome_14
theorem eX6_saysWithPremises : yX6_saysWithPremises.cls = RX6 ∧ yX6_saysWithPremises.cls ≠ "java/lang/invoke/MethodHandle" ∧ yX6_saysWithPremises.cls ≠ "java/lang/invoke/VarHandle" ∧ (parseMethodDescriptor yX6_saysWithPremises.desc).map (fun d => d.parameters.length) = some 4 := by decide +kernel
def mX6_saysWithPremises_110 (kh69 : St → Int32 → Int32 → Option (Int32 × St)) (s3 : St) (v1 : Int32) (v2 : Int32) : Option (Int32 × St) :=
bnd (v1 + (-1)) fun x4 =>
kh69 s3 v2 x4
def mX6_saysWithPremises_105 (kh69 : St → Int32 → Int32 → Option (Int32 × St)) (s6 : St) (v5 : Int32) : Option (Int32 × St) :=
mX6_saysWithPremises_110 kh69 s6 v5 1
def bX6_saysWithPremises_69 (kh69 : St → Int32 → Int32 → Option (Int32 × St)) (s9 : St) (v7 : Int32) (v8 : Int32) : Option (Int32 × St) :=
if v8 < 0 then (
chkZ v7 (some (v7, s9)))
else (
if v7 = 0 then (
chkZ v7 (some (v7, s9)))
else (
chkI v8 240 (
if (s9.1 28 v8.toNatClampNeg) < 0 then (
mX6_saysWithPremises_105 kh69 s9 v8)
else (
chkI v8 240 (
(mX6_partsBecome s9 v8 (s9.1 28 v8.toNatClampNeg)).bind fun ⟨r13, s15⟩ =>
if r13 = 0 then (
mX6_saysWithPremises_110 kh69 s15 v8 0)
else (
mX6_saysWithPremises_105 kh69 s15 v8))))))
abbrev mX6_saysWithPremises_69 (n : Nat) : St → Int32 → Int32 → Option (Int32 × St) := fx (fun _ _ _ => none) (bX6_saysWithPremises_69) n
def mX6_saysWithPremises_62 (s18 : St) (v17 : Int32) : Option (Int32 × St) :=
mX6_saysWithPremises_69 NF s18 v17 239
def mX6_saysWithPremises_61 (s19 : St) : Option (Int32 × St) :=
mX6_saysWithPremises_62 s19 0
def mX6_saysWithPremises_57 (s20 : St) : Option (Int32 × St) :=
mX6_saysWithPremises_62 s20 1
def mX6_saysWithPremises_38 (s23 : St) (v21 : Int32) (v22 : Int32) : Option (Int32 × St) :=
if v22 < 0 then (
mX6_saysWithPremises_57 s23)
else (
(mX6_secondPremise s23 v21).bind fun r25 =>
(mX6_becomes s23 r25 v22).bind fun ⟨r27, s29⟩ =>
if r27 = 0 then (
mX6_saysWithPremises_61 s29)
else (
mX6_saysWithPremises_57 s29))
def mX6_saysWithPremises (σ : St) (p1 : Int32) (p2 : Int32) (p3 : Int32) (p4 : Int32) : Option (Int32 × St) :=
(mJ7_fill_53178 σ (-1)).bind fun s32 =>
(mX6_conclusion s32 p1).bind fun r33 =>
(mX6_becomes s32 r33 p2).bind fun ⟨r35, s37⟩ =>
if r35 = 0 then (
mX6_saysWithPremises_61 s37)
else (
if p3 < 0 then (
mX6_saysWithPremises_38 s37 p1 p4)
else (
(mX6_firstPremise s37 p1).bind fun r40 =>
(mX6_becomes s37 r40 p3).bind fun ⟨r42, s44⟩ =>
if r42 = 0 then (
mX6_saysWithPremises_61 s44)
else (
mX6_saysWithPremises_38 s44 p1 p4)))
set_option maxHeartbeats 4000000 in
set_option maxRecDepth 100000 in
theorem kX6_saysWithPremises (l : Launch) (D : va_G) (y : Nat → ClassId) (a t : Nat → Nat) (hI : AI a 37) (sz : Nat) (σ τ : St) (p1 : Int32) (p2 : Int32) (p3 : Int32) (p4 : Int32) (r : Int32) (hm : mX6_saysWithPremises σ p1 p2 p3 p4 = some (r, τ)) : Met l yX6_saysWithPremises zX6_saysWithPremises { frames := 2, cells := 0, slots := 0, locals := 45 } (va_Pc [.ref (a 4), .int p1, .int p2, .int p3, .int p4] (preW (wC y a) a 37 D y t σ sz)) (va_Qi (fun r' u => r' = r ∧ u = τ) (posW (wC y a) D) (AC a 37 sz)) 0 0 (AC a 37 sz) := by
  refine Met.ofW (cc := cX6_saysWithPremises) (maxL := 7) (ret := (some .boolean)) (by decide) rfl ?_
  intro p e s m args below meth c s₁ B hml hv
  obtain ⟨rfl, hsz, hP, hK, hF⟩ := hv
  have hx := B.exec
  have hb := B.bytes
  have hr := B.returns
  have hts := atoms_spec (ws := zX6_saysWithPremises) B.pre
  have hown : s.vm.findClass RX6 = some m.cls := findClass_of_methodNamed B.named
  have hlocks := B.notSynchronized
  subst hsz
  have l_f30 := hts _ (List.mem_cons_of_mem _ aF_X6_30)
  have h_X6 : ∀ w ∈ wsX60, w.before _ s = true := fun w hw => hts w (List.mem_cons_of_mem _ (hwX6 w hw))
  have hS : va_S (AC a 37 s.heap.size) s.heap s.heap [] := va_S.rf
  have hl := lv_entry ([.ref (a 4), .int p1, .int p2, .int p3, .int p4]) (n := 7) (Nat.le_of_ble_eq_true rfl)
  rw [lg_entry_eq]
  generalize (lg_sl ([.ref (a 4), .int p1, .int p2, .int p3, .int p4]) ++ List.replicate (7 - (lg_sl ([.ref (a 4), .int p1, .int p2, .int p3, .int p4])).length) Slot.unset).toArray = ls at hl ⊢
  have hl : lv_has ls 7 [(0, .ref (a 4)), (1, .int p1), (2, .int p2), (3, .int p3), (4, .int p4)] := hl
  have L_69 : ∀ (n : Nat) (s9 : St) (v7 : Int32) (v8 : Int32) (H : Heap) (locs : List Loc) (ls : Array Slot), va_P D vwCl (wC y a s9) H → va_S (AC a 37 s.heap.size) s.heap H locs → lv_has ls 7 [(0, .ref (a 4)), (5, .int v7), (6, .int v8)] → mX6_saysWithPremises_69 n s9 v7 v8 = some (r, τ) → W p l e (headSpec zX6_saysWithPremises ({ frames := 2, cells := 0, slots := 0, locals := 45 })).room s m ([.ref (a 4), .int p1, .int p2, .int p3, .int p4] : List Value).toArray below meth c H locs 0 0 (MQ below (va_Qi (fun r' u => r' = r ∧ u = τ) (posW (wC y a) D) (AC a 37 s.heap.size)) ([.ref (a 4), .int p1, .int p2, .int p3, .int p4] : List Value).toArray s 0 0 (AC a 37 s.heap.size)) (F0 m 69 ls []) := by
    intro n
    induction n with
    | zero =>
      intro s9 v7 v8 H locs ls hP hS hl hm
      exact absurd (show (none : Option (Int32 × St)) = some (r, τ) from hm) (by intro h; cases h)
    | succ n ih69 =>
      obtain ⟨kh69, ekh69⟩ : ∃ z, z = mX6_saysWithPremises_69 n := ⟨_, rfl⟩
      have ih69 : ∀ (s9 : St) (v7 : Int32) (v8 : Int32) (H : Heap) (locs : List Loc) (ls : Array Slot), va_P D vwCl (wC y a s9) H → va_S (AC a 37 s.heap.size) s.heap H locs → lv_has ls 7 [(0, .ref (a 4)), (5, .int v7), (6, .int v8)] → kh69 s9 v7 v8 = some (r, τ) → W p l e (headSpec zX6_saysWithPremises ({ frames := 2, cells := 0, slots := 0, locals := 45 })).room s m ([.ref (a 4), .int p1, .int p2, .int p3, .int p4] : List Value).toArray below meth c H locs 0 0 (MQ below (va_Qi (fun r' u => r' = r ∧ u = τ) (posW (wC y a) D) (AC a 37 s.heap.size)) ([.ref (a 4), .int p1, .int p2, .int p3, .int p4] : List Value).toArray s 0 0 (AC a 37 s.heap.size)) (F0 m 69 ls []) := by rw [ekh69]; exact ih69
      have L_110 : ∀ (s3 : St) (v1 : Int32) (v2 : Int32) (H : Heap) (locs : List Loc) (ls : Array Slot), va_P D vwCl (wC y a s3) H → va_S (AC a 37 s.heap.size) s.heap H locs → lv_has ls 7 [(0, .ref (a 4)), (6, .int v1)] → mX6_saysWithPremises_110 kh69 s3 v1 v2 = some (r, τ) → W p l e (headSpec zX6_saysWithPremises ({ frames := 2, cells := 0, slots := 0, locals := 45 })).room s m ([.ref (a 4), .int p1, .int p2, .int p3, .int p4] : List Value).toArray below meth c H locs 0 0 (MQ below (va_Qi (fun r' u => r' = r ∧ u = τ) (posW (wC y a) D) (AC a 37 s.heap.size)) ([.ref (a 4), .int p1, .int p2, .int p3, .int p4] : List Value).toArray s 0 0 (AC a 37 s.heap.size)) (F0 m 110 ls [.int v2]) := by
        intro s3 v1 v2 H locs ls hP hS hl hm
        unfold mX6_saysWithPremises_110 at hm
        refine lv_istore (lv' := [(5, .int v2), (0, .ref (a 4)), (6, .int v1)]) hx hb dX6_saysWithPremises_110 hl (by decide) rfl (fun ls hl => ?_)
        obtain ⟨x4, ex4⟩ : ∃ z : Int32, z = v1 + (-1) := ⟨_, rfl⟩
        have hm := bnd_x ex4 hm
        refine lv_iinc (v := x4) (lv' := [(6, .int x4), (5, .int v2), (0, .ref (a 4))]) hx hb dX6_saysWithPremises_112 hl (k := 2) rfl (by rw [ex4]; rfl) (by decide) rfl (fun ls hl => ?_)
        refine lv_goto (tgt := 69) hx hb dX6_saysWithPremises_115 (by decide) ?_
        exact ih69 s3 v2 x4 _ _ _ hP hS (lv_sub hl [2, 1, 0] rfl) hm
      have L_105 : ∀ (s6 : St) (v5 : Int32) (H : Heap) (locs : List Loc) (ls : Array Slot), va_P D vwCl (wC y a s6) H → va_S (AC a 37 s.heap.size) s.heap H locs → lv_has ls 7 [(0, .ref (a 4)), (6, .int v5)] → mX6_saysWithPremises_105 kh69 s6 v5 = some (r, τ) → W p l e (headSpec zX6_saysWithPremises ({ frames := 2, cells := 0, slots := 0, locals := 45 })).room s m ([.ref (a 4), .int p1, .int p2, .int p3, .int p4] : List Value).toArray below meth c H locs 0 0 (MQ below (va_Qi (fun r' u => r' = r ∧ u = τ) (posW (wC y a) D) (AC a 37 s.heap.size)) ([.ref (a 4), .int p1, .int p2, .int p3, .int p4] : List Value).toArray s 0 0 (AC a 37 s.heap.size)) (F0 m 105 ls []) := by
        intro s6 v5 H locs ls hP hS hl hm
        unfold mX6_saysWithPremises_105 at hm
        refine lv_iconst (v := 1) hx hb dX6_saysWithPremises_105 (by decide) ?_
        refine lv_goto (tgt := 110) hx hb dX6_saysWithPremises_106 (by decide) ?_
        exact L_110 s6 v5 1 _ _ _ hP hS (lv_sub hl [0, 1] rfl) hm
      intro s9 v7 v8 H locs ls hP hS hl hm
      have hm : bX6_saysWithPremises_69 (mX6_saysWithPremises_69 n) s9 v7 v8 = some (r, τ) := hm
      rw [← ekh69] at hm
      unfold bX6_saysWithPremises_69 at hm
      refine lv_iload hx hb dX6_saysWithPremises_69 (lv_at hl 2 rfl) ?_
      refine lv_if_lt (tgt := 118) hx hb dX6_saysWithPremises_71 (by decide) (fun c10 => ?_) (fun c10 => ?_)
      · have hm := (if_pos c10).symm.trans hm
        refine lv_iload hx hb dX6_saysWithPremises_118 (lv_at hl 1 rfl) ?_
        obtain ⟨hz, hm⟩ := ok_Z hm
        exact W.zret (v := v7) hx hb hr hz (fun T hT hW => ⟨⟨v7, s9, rfl, ⟨congrArg Prod.fst (Option.some.inj hm), congrArg Prod.snd (Option.some.inj hm)⟩, by rw [posW, hT]; exact hP⟩, hS.F hT⟩) hS.2.2 dX6_saysWithPremises_120
      · have hm := (if_neg c10).symm.trans hm
        refine lv_iload hx hb dX6_saysWithPremises_74 (lv_at hl 1 rfl) ?_
        refine lv_if_eq (tgt := 118) hx hb dX6_saysWithPremises_76 (by decide) (fun c11 => ?_) (fun c11 => ?_)
        · have hm := (if_pos c11).symm.trans hm
          refine lv_iload hx hb dX6_saysWithPremises_118 (lv_at hl 1 rfl) ?_
          obtain ⟨hz, hm⟩ := ok_Z hm
          exact W.zret (v := v7) hx hb hr hz (fun T hT hW => ⟨⟨v7, s9, rfl, ⟨congrArg Prod.fst (Option.some.inj hm), congrArg Prod.snd (Option.some.inj hm)⟩, by rw [posW, hT]; exact hP⟩, hS.F hT⟩) hS.2.2 dX6_saysWithPremises_120
        · have hm := (if_neg c11).symm.trans hm
          refine lv_aload_n hx hb dX6_saysWithPremises_79 rfl (lv_at hl 0 rfl) ?_
          refine gfX6_images hx hb h_X6 hown hK hP l_f30 dX6_saysWithPremises_80 ?_
          refine lv_iload hx hb dX6_saysWithPremises_83 (lv_at hl 2 rfl) ?_
          obtain ⟨hi, hm⟩ := ok_I hm
          refine ldC_25 hx hb hK hP hi dX6_saysWithPremises_85 ?_
          refine lv_if_lt (tgt := 105) hx hb dX6_saysWithPremises_86 (by decide) (fun c12 => ?_) (fun c12 => ?_)
          · have hm := (if_pos c12).symm.trans hm
            exact L_105 s9 v8 _ _ _ hP hS (lv_sub hl [0, 2] rfl) hm
          · have hm := (if_neg c12).symm.trans hm
            refine lv_aload_n hx hb dX6_saysWithPremises_89 rfl (lv_at hl 0 rfl) ?_
            refine lv_iload hx hb dX6_saysWithPremises_90 (lv_at hl 2 rfl) ?_
            refine lv_aload_n hx hb dX6_saysWithPremises_92 rfl (lv_at hl 0 rfl) ?_
            refine gfX6_images hx hb h_X6 hown hK hP l_f30 dX6_saysWithPremises_93 ?_
            refine lv_iload hx hb dX6_saysWithPremises_96 (lv_at hl 2 rfl) ?_
            obtain ⟨hi, hm⟩ := ok_I hm
            refine ldC_25 hx hb hK hP hi dX6_saysWithPremises_98 ?_
            obtain ⟨⟨r13, s15⟩, h14, hm⟩ := ok_bind hm
            refine calV_i (As := [.int v8, .int (s9.1 28 v8.toNatClampNeg)]) (rest := []) ⟨hx, hb, hml, hown, hts⟩ (kX6_partsBecome l D y a t hI _ s9 s15 v8 (s9.1 28 v8.toNatClampNeg) r13 h14) (cwV 2 hts (gAV aM_X6_65 aI_X6_partsBecome aS_X6_partsBecome aN_X6 aC_X6_partsBecome) rfl rfl rfl eX6_partsBecome ⟨Nat.le_of_ble_eq_true rfl, Nat.le_of_ble_eq_true rfl⟩) (preV_W (ci := 6) (q := (RX6, TX6, 9)) hK hP hF hS rfl (wC_4 y a s9)) rfl hl.1 rfl (Nat.le_of_ble_eq_true rfl) dX6_saysWithPremises_99 ⟨Nat.zero_le _, Nat.zero_le _⟩ hS (AC_le hS.1) (fun H locs hP hS hk1 => ?_)
            refine lv_if_eq (tgt := 109) hx hb dX6_saysWithPremises_102 (by decide) (fun c16 => ?_) (fun c16 => ?_)
            · have hm := (if_pos c16).symm.trans hm
              refine lv_iconst (v := 0) hx hb dX6_saysWithPremises_109 (by decide) ?_
              exact L_110 s15 v8 0 _ _ _ hP hS (lv_sub hl [0, 2] rfl) hm
            · have hm := (if_neg c16).symm.trans hm
              exact L_105 s15 v8 _ _ _ hP hS (lv_sub hl [0, 2] rfl) hm
  have L_62 : ∀ (s18 : St) (v17 : Int32) (H : Heap) (locs : List Loc) (ls : Array Slot), va_P D vwCl (wC y a s18) H → va_S (AC a 37 s.heap.size) s.heap H locs → lv_has ls 7 [(0, .ref (a 4))] → mX6_saysWithPremises_62 s18 v17 = some (r, τ) → W p l e (headSpec zX6_saysWithPremises ({ frames := 2, cells := 0, slots := 0, locals := 45 })).room s m ([.ref (a 4), .int p1, .int p2, .int p3, .int p4] : List Value).toArray below meth c H locs 0 0 (MQ below (va_Qi (fun r' u => r' = r ∧ u = τ) (posW (wC y a) D) (AC a 37 s.heap.size)) ([.ref (a 4), .int p1, .int p2, .int p3, .int p4] : List Value).toArray s 0 0 (AC a 37 s.heap.size)) (F0 m 62 ls [.int v17]) := by
    intro s18 v17 H locs ls hP hS hl hm
    unfold mX6_saysWithPremises_62 at hm
    refine lv_istore (lv' := [(5, .int v17), (0, .ref (a 4))]) hx hb dX6_saysWithPremises_62 hl (by decide) rfl (fun ls hl => ?_)
    refine lv_sipush (v := 239) hx hb dX6_saysWithPremises_64 (by decide) ?_
    refine lv_istore (lv' := [(6, .int 239), (5, .int v17), (0, .ref (a 4))]) hx hb dX6_saysWithPremises_67 hl (by decide) rfl (fun ls hl => ?_)
    exact L_69 NF s18 v17 239 _ _ _ hP hS (lv_sub hl [2, 1, 0] rfl) hm
  have L_61 : ∀ (s19 : St) (H : Heap) (locs : List Loc) (ls : Array Slot), va_P D vwCl (wC y a s19) H → va_S (AC a 37 s.heap.size) s.heap H locs → lv_has ls 7 [(0, .ref (a 4))] → mX6_saysWithPremises_61 s19 = some (r, τ) → W p l e (headSpec zX6_saysWithPremises ({ frames := 2, cells := 0, slots := 0, locals := 45 })).room s m ([.ref (a 4), .int p1, .int p2, .int p3, .int p4] : List Value).toArray below meth c H locs 0 0 (MQ below (va_Qi (fun r' u => r' = r ∧ u = τ) (posW (wC y a) D) (AC a 37 s.heap.size)) ([.ref (a 4), .int p1, .int p2, .int p3, .int p4] : List Value).toArray s 0 0 (AC a 37 s.heap.size)) (F0 m 61 ls []) := by
    intro s19 H locs ls hP hS hl hm
    unfold mX6_saysWithPremises_61 at hm
    refine lv_iconst (v := 0) hx hb dX6_saysWithPremises_61 (by decide) ?_
    exact L_62 s19 0 _ _ _ hP hS (lv_sub hl [0] rfl) hm
  have L_57 : ∀ (s20 : St) (H : Heap) (locs : List Loc) (ls : Array Slot), va_P D vwCl (wC y a s20) H → va_S (AC a 37 s.heap.size) s.heap H locs → lv_has ls 7 [(0, .ref (a 4))] → mX6_saysWithPremises_57 s20 = some (r, τ) → W p l e (headSpec zX6_saysWithPremises ({ frames := 2, cells := 0, slots := 0, locals := 45 })).room s m ([.ref (a 4), .int p1, .int p2, .int p3, .int p4] : List Value).toArray below meth c H locs 0 0 (MQ below (va_Qi (fun r' u => r' = r ∧ u = τ) (posW (wC y a) D) (AC a 37 s.heap.size)) ([.ref (a 4), .int p1, .int p2, .int p3, .int p4] : List Value).toArray s 0 0 (AC a 37 s.heap.size)) (F0 m 57 ls []) := by
    intro s20 H locs ls hP hS hl hm
    unfold mX6_saysWithPremises_57 at hm
    refine lv_iconst (v := 1) hx hb dX6_saysWithPremises_57 (by decide) ?_
    refine lv_goto (tgt := 62) hx hb dX6_saysWithPremises_58 (by decide) ?_
    exact L_62 s20 1 _ _ _ hP hS (lv_sub hl [0] rfl) hm
  have L_38 : ∀ (s23 : St) (v21 : Int32) (v22 : Int32) (H : Heap) (locs : List Loc) (ls : Array Slot), va_P D vwCl (wC y a s23) H → va_S (AC a 37 s.heap.size) s.heap H locs → lv_has ls 7 [(0, .ref (a 4)), (1, .int v21), (4, .int v22)] → mX6_saysWithPremises_38 s23 v21 v22 = some (r, τ) → W p l e (headSpec zX6_saysWithPremises ({ frames := 2, cells := 0, slots := 0, locals := 45 })).room s m ([.ref (a 4), .int p1, .int p2, .int p3, .int p4] : List Value).toArray below meth c H locs 0 0 (MQ below (va_Qi (fun r' u => r' = r ∧ u = τ) (posW (wC y a) D) (AC a 37 s.heap.size)) ([.ref (a 4), .int p1, .int p2, .int p3, .int p4] : List Value).toArray s 0 0 (AC a 37 s.heap.size)) (F0 m 38 ls []) := by
    intro s23 v21 v22 H locs ls hP hS hl hm
    unfold mX6_saysWithPremises_38 at hm
    refine lv_iload hx hb dX6_saysWithPremises_38 (lv_at hl 2 rfl) ?_
    refine lv_if_lt (tgt := 57) hx hb dX6_saysWithPremises_40 (by decide) (fun c24 => ?_) (fun c24 => ?_)
    · have hm := (if_pos c24).symm.trans hm
      exact L_57 s23 _ _ _ hP hS (lv_sub hl [0] rfl) hm
    · have hm := (if_neg c24).symm.trans hm
      refine lv_aload_n hx hb dX6_saysWithPremises_43 rfl (lv_at hl 0 rfl) ?_
      refine lv_aload_n hx hb dX6_saysWithPremises_44 rfl (lv_at hl 0 rfl) ?_
      refine lv_iload_n hx hb dX6_saysWithPremises_45 rfl (lv_at hl 1 rfl) ?_
      obtain ⟨r25, h26, hm⟩ := ok_bind hm
      refine calV_i (As := [.int v21]) (rest := [.ref (a 4)]) ⟨hx, hb, hml, hown, hts⟩ (kX6_secondPremise l D y a t hI _ s23 v21 r25 h26) (cwV 1 hts (gAV aM_X6_62 aI_X6_secondPremise aS_X6_secondPremise aN_X6 aC_X6_secondPremise) rfl rfl rfl eX6_secondPremise ⟨Nat.le_of_ble_eq_true rfl, Nat.le_of_ble_eq_true rfl⟩) (preV_W (ci := 6) (q := (RX6, TX6, 9)) hK hP hF hS rfl (wC_4 y a s23)) rfl hl.1 rfl (Nat.le_of_ble_eq_true rfl) dX6_saysWithPremises_46 ⟨Nat.zero_le _, Nat.zero_le _⟩ hS (AC_le hS.1) (fun H locs hP hS hk1 => ?_)
      refine lv_iload hx hb dX6_saysWithPremises_49 (lv_at hl 2 rfl) ?_
      obtain ⟨⟨r27, s29⟩, h28, hm⟩ := ok_bind hm
      refine calV_i (As := [.int r25, .int v22]) (rest := []) ⟨hx, hb, hml, hown, hts⟩ (kX6_becomes l D y a t hI _ s23 s29 r25 v22 r27 h28) (cwV 2 hts (gAV aM_X6_55 aI_X6_becomes aS_X6_becomes aN_X6 aC_X6_becomes) rfl rfl rfl eX6_becomes ⟨Nat.le_of_ble_eq_true rfl, Nat.le_of_ble_eq_true rfl⟩) (preV_W (ci := 6) (q := (RX6, TX6, 9)) hK hP hF hS rfl (wC_4 y a s23)) rfl hl.1 rfl (Nat.le_of_ble_eq_true rfl) dX6_saysWithPremises_51 ⟨Nat.zero_le _, Nat.zero_le _⟩ hS (AC_le hS.1) (fun H locs hP hS hk1 => ?_)
      refine lv_if_eq (tgt := 61) hx hb dX6_saysWithPremises_54 (by decide) (fun c30 => ?_) (fun c30 => ?_)
      · have hm := (if_pos c30).symm.trans hm
        exact L_61 s29 _ _ _ hP hS (lv_sub hl [0] rfl) hm
      · have hm := (if_neg c30).symm.trans hm
        exact L_57 s29 _ _ _ hP hS (lv_sub hl [0] rfl) hm
  unfold mX6_saysWithPremises at hm
  refine lv_aload_n hx hb dX6_saysWithPremises_0 rfl (lv_at hl 0 rfl) ?_
  refine gfX6_images hx hb h_X6 hown hK hP l_f30 dX6_saysWithPremises_1 ?_
  refine lv_iconst (v := (-1)) hx hb dX6_saysWithPremises_4 (by decide) ?_
  obtain ⟨s32, h31, hm⟩ := ok_bind hm
  refine calS_v (As := [.ref (a 25), .int (-1)]) (rest := []) ⟨hx, hb, hml, hown, hts⟩ (kJ7_fill_53178 l D y a t hI _ σ s32 (-1) h31) (va_cwS 2 hts (gAS aM_X6_45 aT_J7_fill_53178 aN_J7 aC_J7_fill_53178) rfl rfl rfl eJ7_fill_53178 ⟨Nat.le_of_ble_eq_true rfl, Nat.le_of_ble_eq_true rfl⟩) (preS_W hK hP hF hS) rfl hl.1 rfl (Nat.le_of_ble_eq_true rfl) dX6_saysWithPremises_5 ⟨Nat.zero_le _, Nat.zero_le _⟩ hS (AC_le hS.1) (fun H locs hP hS hk1 => ?_)
  refine lv_aload_n hx hb dX6_saysWithPremises_8 rfl (lv_at hl 0 rfl) ?_
  refine lv_aload_n hx hb dX6_saysWithPremises_9 rfl (lv_at hl 0 rfl) ?_
  refine lv_iload_n hx hb dX6_saysWithPremises_10 rfl (lv_at hl 1 rfl) ?_
  obtain ⟨r33, h34, hm⟩ := ok_bind hm
  refine calV_i (As := [.int p1]) (rest := [.ref (a 4)]) ⟨hx, hb, hml, hown, hts⟩ (kX6_conclusion l D y a t hI _ s32 p1 r33 h34) (cwV 1 hts (gAV aM_X6_51 aI_X6_conclusion aS_X6_conclusion aN_X6 aC_X6_conclusion) rfl rfl rfl eX6_conclusion ⟨Nat.le_of_ble_eq_true rfl, Nat.le_of_ble_eq_true rfl⟩) (preV_W (ci := 6) (q := (RX6, TX6, 9)) hK hP hF hS rfl (wC_4 y a s32)) rfl hl.1 rfl (Nat.le_of_ble_eq_true rfl) dX6_saysWithPremises_11 ⟨Nat.zero_le _, Nat.zero_le _⟩ hS (AC_le hS.1) (fun H locs hP hS hk1 => ?_)
  refine lv_iload_n hx hb dX6_saysWithPremises_14 rfl (lv_at hl 2 rfl) ?_
  obtain ⟨⟨r35, s37⟩, h36, hm⟩ := ok_bind hm
  refine calV_i (As := [.int r33, .int p2]) (rest := []) ⟨hx, hb, hml, hown, hts⟩ (kX6_becomes l D y a t hI _ s32 s37 r33 p2 r35 h36) (cwV 2 hts (gAV aM_X6_55 aI_X6_becomes aS_X6_becomes aN_X6 aC_X6_becomes) rfl rfl rfl eX6_becomes ⟨Nat.le_of_ble_eq_true rfl, Nat.le_of_ble_eq_true rfl⟩) (preV_W (ci := 6) (q := (RX6, TX6, 9)) hK hP hF hS rfl (wC_4 y a s32)) rfl hl.1 rfl (Nat.le_of_ble_eq_true rfl) dX6_saysWithPremises_15 ⟨Nat.zero_le _, Nat.zero_le _⟩ hS (AC_le hS.1) (fun H locs hP hS hk1 => ?_)
  refine lv_if_eq (tgt := 61) hx hb dX6_saysWithPremises_18 (by decide) (fun c38 => ?_) (fun c38 => ?_)
  · have hm := (if_pos c38).symm.trans hm
    exact L_61 s37 _ _ _ hP hS (lv_sub hl [0] rfl) hm
  · have hm := (if_neg c38).symm.trans hm
    refine lv_iload_n hx hb dX6_saysWithPremises_21 rfl (lv_at hl 3 rfl) ?_
    refine lv_if_lt (tgt := 38) hx hb dX6_saysWithPremises_22 (by decide) (fun c39 => ?_) (fun c39 => ?_)
    · have hm := (if_pos c39).symm.trans hm
      exact L_38 s37 p1 p4 _ _ _ hP hS (lv_sub hl [0, 1, 4] rfl) hm
    · have hm := (if_neg c39).symm.trans hm
      refine lv_aload_n hx hb dX6_saysWithPremises_25 rfl (lv_at hl 0 rfl) ?_
      refine lv_aload_n hx hb dX6_saysWithPremises_26 rfl (lv_at hl 0 rfl) ?_
      refine lv_iload_n hx hb dX6_saysWithPremises_27 rfl (lv_at hl 1 rfl) ?_
      obtain ⟨r40, h41, hm⟩ := ok_bind hm
      refine calV_i (As := [.int p1]) (rest := [.ref (a 4)]) ⟨hx, hb, hml, hown, hts⟩ (kX6_firstPremise l D y a t hI _ s37 p1 r40 h41) (cwV 1 hts (gAV aM_X6_59 aI_X6_firstPremise aS_X6_firstPremise aN_X6 aC_X6_firstPremise) rfl rfl rfl eX6_firstPremise ⟨Nat.le_of_ble_eq_true rfl, Nat.le_of_ble_eq_true rfl⟩) (preV_W (ci := 6) (q := (RX6, TX6, 9)) hK hP hF hS rfl (wC_4 y a s37)) rfl hl.1 rfl (Nat.le_of_ble_eq_true rfl) dX6_saysWithPremises_28 ⟨Nat.zero_le _, Nat.zero_le _⟩ hS (AC_le hS.1) (fun H locs hP hS hk1 => ?_)
      refine lv_iload_n hx hb dX6_saysWithPremises_31 rfl (lv_at hl 3 rfl) ?_
      obtain ⟨⟨r42, s44⟩, h43, hm⟩ := ok_bind hm
      refine calV_i (As := [.int r40, .int p3]) (rest := []) ⟨hx, hb, hml, hown, hts⟩ (kX6_becomes l D y a t hI _ s37 s44 r40 p3 r42 h43) (cwV 2 hts (gAV aM_X6_55 aI_X6_becomes aS_X6_becomes aN_X6 aC_X6_becomes) rfl rfl rfl eX6_becomes ⟨Nat.le_of_ble_eq_true rfl, Nat.le_of_ble_eq_true rfl⟩) (preV_W (ci := 6) (q := (RX6, TX6, 9)) hK hP hF hS rfl (wC_4 y a s37)) rfl hl.1 rfl (Nat.le_of_ble_eq_true rfl) dX6_saysWithPremises_32 ⟨Nat.zero_le _, Nat.zero_le _⟩ hS (AC_le hS.1) (fun H locs hP hS hk1 => ?_)
      refine lv_if_eq (tgt := 61) hx hb dX6_saysWithPremises_35 (by decide) (fun c45 => ?_) (fun c45 => ?_)
      · have hm := (if_pos c45).symm.trans hm
        exact L_61 s44 _ _ _ hP hS (lv_sub hl [0] rfl) hm
      · have hm := (if_neg c45).symm.trans hm
        exact L_38 s44 p1 p4 _ _ _ hP hS (lv_sub hl [0, 1, 4] rfl) hm
theorem eX6_concludes : yX6_concludes.cls = RX6 ∧ yX6_concludes.cls ≠ "java/lang/invoke/MethodHandle" ∧ yX6_concludes.cls ≠ "java/lang/invoke/VarHandle" ∧ (parseMethodDescriptor yX6_concludes.desc).map (fun d => d.parameters.length) = some 2 := by decide +kernel
def mX6_concludes (σ : St) (p1 : Int32) (p2 : Int32) : Option (Int32 × St) :=
(mX6_saysWithPremises σ p1 p2 (-1) (-1)).bind fun ⟨r1, s3⟩ =>
chkZ r1 (some (r1, s3))
set_option maxHeartbeats 4000000 in
set_option maxRecDepth 100000 in
theorem kX6_concludes (l : Launch) (D : va_G) (y : Nat → ClassId) (a t : Nat → Nat) (hI : AI a 37) (sz : Nat) (σ τ : St) (p1 : Int32) (p2 : Int32) (r : Int32) (hm : mX6_concludes σ p1 p2 = some (r, τ)) : Met l yX6_concludes zX6_concludes { frames := 3, cells := 0, slots := 0, locals := 71 } (va_Pc [.ref (a 4), .int p1, .int p2] (preW (wC y a) a 37 D y t σ sz)) (va_Qi (fun r' u => r' = r ∧ u = τ) (posW (wC y a) D) (AC a 37 sz)) 0 0 (AC a 37 sz) := by
  refine Met.ofW (cc := cX6_concludes) (maxL := 3) (ret := (some .boolean)) (by decide) rfl ?_
  intro p e s m args below meth c s₁ B hml hv
  obtain ⟨rfl, hsz, hP, hK, hF⟩ := hv
  have hx := B.exec
  have hb := B.bytes
  have hr := B.returns
  have hts := atoms_spec (ws := zX6_concludes) B.pre
  have hown : s.vm.findClass RX6 = some m.cls := findClass_of_methodNamed B.named
  have hlocks := B.notSynchronized
  subst hsz
  have hS : va_S (AC a 37 s.heap.size) s.heap s.heap [] := va_S.rf
  have hl := lv_entry ([.ref (a 4), .int p1, .int p2]) (n := 3) (Nat.le_of_ble_eq_true rfl)
  rw [lg_entry_eq]
  generalize (lg_sl ([.ref (a 4), .int p1, .int p2]) ++ List.replicate (3 - (lg_sl ([.ref (a 4), .int p1, .int p2])).length) Slot.unset).toArray = ls at hl ⊢
  have hl : lv_has ls 3 [(0, .ref (a 4)), (1, .int p1), (2, .int p2)] := hl
  unfold mX6_concludes at hm
  refine lv_aload_n hx hb dX6_concludes_0 rfl (lv_at hl 0 rfl) ?_
  refine lv_iload_n hx hb dX6_concludes_1 rfl (lv_at hl 1 rfl) ?_
  refine lv_iload_n hx hb dX6_concludes_2 rfl (lv_at hl 2 rfl) ?_
  refine lv_iconst (v := (-1)) hx hb dX6_concludes_3 (by decide) ?_
  refine lv_iconst (v := (-1)) hx hb dX6_concludes_4 (by decide) ?_
  obtain ⟨⟨r1, s3⟩, h2, hm⟩ := ok_bind hm
  refine calV_i (As := [.int p1, .int p2, .int (-1), .int (-1)]) (rest := []) ⟨hx, hb, hml, hown, hts⟩ (kX6_saysWithPremises l D y a t hI _ σ s3 p1 p2 (-1) (-1) r1 h2) (cwV 4 hts (gAV aM_X6_41 aI_X6_saysWithPremises aS_X6_saysWithPremises aN_X6 aC_X6_saysWithPremises) rfl rfl rfl eX6_saysWithPremises ⟨Nat.le_of_ble_eq_true rfl, Nat.le_of_ble_eq_true rfl⟩) (preV_W (ci := 6) (q := (RX6, TX6, 9)) hK hP hF hS rfl (wC_4 y a σ)) rfl hl.1 rfl (Nat.le_of_ble_eq_true rfl) dX6_concludes_5 ⟨Nat.zero_le _, Nat.zero_le _⟩ hS (AC_le hS.1) (fun H locs hP hS hk1 => ?_)
  obtain ⟨hz, hm⟩ := ok_Z hm
  exact W.zret (v := r1) hx hb hr hz (fun T hT hW => ⟨⟨r1, s3, rfl, ⟨congrArg Prod.fst (Option.some.inj hm), congrArg Prod.snd (Option.some.inj hm)⟩, by rw [posW, hT]; exact hP⟩, hS.F hT⟩) hS.2.2 dX6_concludes_8
theorem eX6_imageOfLetter : yX6_imageOfLetter.cls = RX6 ∧ yX6_imageOfLetter.cls ≠ "java/lang/invoke/MethodHandle" ∧ yX6_imageOfLetter.cls ≠ "java/lang/invoke/VarHandle" ∧ (parseMethodDescriptor yX6_imageOfLetter.desc).map (fun d => d.parameters.length) = some 1 := by decide +kernel
def mX6_imageOfLetter (σ : St) (p1 : Int32) : Option Int32 :=
(mX1_find σ 0 p1 (-1)).bind fun r1 =>
if r1 < 0 then (
some (-1))
else (
if 240 ≤ r1 then (
some (-1))
else (
chkI r1 240 (
some (σ.1 28 r1.toNatClampNeg))))
set_option maxHeartbeats 4000000 in
set_option maxRecDepth 100000 in
theorem kX6_imageOfLetter (l : Launch) (D : va_G) (y : Nat → ClassId) (a t : Nat → Nat) (hI : AI a 37) (sz : Nat) (σ : St) (p1 : Int32) (r : Int32) (hm : mX6_imageOfLetter σ p1 = some r) : Met l yX6_imageOfLetter zX6_imageOfLetter { frames := 1, cells := 0, slots := 0, locals := 24 } (va_Pc [.ref (a 4), .int p1] (preW (wC y a) a 37 D y t σ sz)) (va_Qi (fun r' u => r' = r ∧ u = σ) (posW (wC y a) D) (AC a 37 sz)) 0 0 (AC a 37 sz) := by
  refine Met.ofW (cc := cX6_imageOfLetter) (maxL := 3) (ret := (some .int)) (by decide) rfl ?_
  intro p e s m args below meth c s₁ B hml hv
  obtain ⟨rfl, hsz, hP, hK, hF⟩ := hv
  have hx := B.exec
  have hb := B.bytes
  have hr := B.returns
  have hts := atoms_spec (ws := zX6_imageOfLetter) B.pre
  have hown : s.vm.findClass RX6 = some m.cls := findClass_of_methodNamed B.named
  have hlocks := B.notSynchronized
  subst hsz
  have l_f33 := hts _ (List.mem_cons_of_mem _ aF_X6_33)
  have l_f30 := hts _ (List.mem_cons_of_mem _ aF_X6_30)
  have h_X6 : ∀ w ∈ wsX60, w.before _ s = true := fun w hw => hts w (List.mem_cons_of_mem _ (hwX6 w hw))
  have hS : va_S (AC a 37 s.heap.size) s.heap s.heap [] := va_S.rf
  have hl := lv_entry ([.ref (a 4), .int p1]) (n := 3) (Nat.le_of_ble_eq_true rfl)
  rw [lg_entry_eq]
  generalize (lg_sl ([.ref (a 4), .int p1]) ++ List.replicate (3 - (lg_sl ([.ref (a 4), .int p1])).length) Slot.unset).toArray = ls at hl ⊢
  have hl : lv_has ls 3 [(0, .ref (a 4)), (1, .int p1)] := hl
  unfold mX6_imageOfLetter at hm
  refine lv_aload_n hx hb dX6_imageOfLetter_0 rfl (lv_at hl 0 rfl) ?_
  refine gfX6_formulas hx hb h_X6 hown hK hP l_f33 dX6_imageOfLetter_1 ?_
  refine lv_iconst (v := 0) hx hb dX6_imageOfLetter_4 (by decide) ?_
  refine lv_iload_n hx hb dX6_imageOfLetter_5 rfl (lv_at hl 1 rfl) ?_
  refine lv_iconst (v := (-1)) hx hb dX6_imageOfLetter_6 (by decide) ?_
  obtain ⟨r1, h2, hm⟩ := ok_bind hm
  refine calV_i (As := [.int 0, .int p1, .int (-1)]) (rest := []) ⟨hx, hb, hml, hown, hts⟩ (kX1_find l D y a t hI _ σ 0 p1 (-1) r1 h2) (cwV 3 hts (gAV aM_X6_68 aI_X1_find aS_X1_find aN_X1 aC_X1_find) rfl rfl rfl eX1_find ⟨Nat.le_of_ble_eq_true rfl, Nat.le_of_ble_eq_true rfl⟩) (preV_W (ci := 1) (q := (RX1, TX1, 8)) hK hP hF hS rfl (wC_1 y a σ)) rfl hl.1 rfl (Nat.le_of_ble_eq_true rfl) dX6_imageOfLetter_7 ⟨Nat.zero_le _, Nat.zero_le _⟩ hS (AC_le hS.1) (fun H locs hP hS hk1 => ?_)
  refine lv_istore_n (lv' := [(2, .int r1), (0, .ref (a 4)), (1, .int p1)]) hx hb dX6_imageOfLetter_10 rfl hl (by decide) rfl (fun ls hl => ?_)
  refine lv_iload_n hx hb dX6_imageOfLetter_11 rfl (lv_at hl 0 rfl) ?_
  refine lv_if_lt (tgt := 31) hx hb dX6_imageOfLetter_12 (by decide) (fun c3 => ?_) (fun c3 => ?_)
  · have hm := (if_pos c3).symm.trans hm
    refine lv_iconst (v := (-1)) hx hb dX6_imageOfLetter_31 (by decide) ?_
    exact W.iret (v := (-1)) hx hb hr (fun T hT hW => ⟨⟨(-1), σ, rfl, ⟨Option.some.inj hm, rfl⟩, by rw [posW, hT]; exact hP⟩, hS.F hT⟩) hS.2.2 dX6_imageOfLetter_32
  · have hm := (if_neg c3).symm.trans hm
    refine lv_iload_n hx hb dX6_imageOfLetter_15 rfl (lv_at hl 0 rfl) ?_
    refine lv_sipush (v := 240) hx hb dX6_imageOfLetter_16 (by decide) ?_
    refine lv_icmp_ge (tgt := 31) hx hb dX6_imageOfLetter_19 (by decide) (fun c4 => ?_) (fun c4 => ?_)
    · have hm := (if_pos c4).symm.trans hm
      refine lv_iconst (v := (-1)) hx hb dX6_imageOfLetter_31 (by decide) ?_
      exact W.iret (v := (-1)) hx hb hr (fun T hT hW => ⟨⟨(-1), σ, rfl, ⟨Option.some.inj hm, rfl⟩, by rw [posW, hT]; exact hP⟩, hS.F hT⟩) hS.2.2 dX6_imageOfLetter_32
    · have hm := (if_neg c4).symm.trans hm
      refine lv_aload_n hx hb dX6_imageOfLetter_22 rfl (lv_at hl 1 rfl) ?_
      refine gfX6_images hx hb h_X6 hown hK hP l_f30 dX6_imageOfLetter_23 ?_
      refine lv_iload_n hx hb dX6_imageOfLetter_26 rfl (lv_at hl 0 rfl) ?_
      obtain ⟨hi, hm⟩ := ok_I hm
      refine ldC_25 hx hb hK hP hi dX6_imageOfLetter_27 ?_
      refine lv_goto (tgt := 32) hx hb dX6_imageOfLetter_28 (by decide) ?_
      exact W.iret (v := σ.1 28 r1.toNatClampNeg) hx hb hr (fun T hT hW => ⟨⟨σ.1 28 r1.toNatClampNeg, σ, rfl, ⟨Option.some.inj hm, rfl⟩, by rw [posW, hT]; exact hP⟩, hS.F hT⟩) hS.2.2 dX6_imageOfLetter_32
