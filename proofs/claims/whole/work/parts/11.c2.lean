theorem eX2_size : yX2_size.cls = RX2 ∧ yX2_size.cls ≠ "java/lang/invoke/MethodHandle" ∧ yX2_size.cls ≠ "java/lang/invoke/VarHandle" ∧ (parseMethodDescriptor yX2_size.desc).map (fun d => d.parameters.length) = some 0 := by decide +kernel
def mX2_size (σ : St) : Option Int32 :=
some (σ.1 5 0)
set_option maxHeartbeats 4000000 in
set_option maxRecDepth 100000 in
theorem kX2_size (l : Launch) (D : va_G) (y : Nat → ClassId) (a t : Nat → Nat) (hI : AI a 37) (sz : Nat) (σ : St) (r : Int32) (hm : mX2_size σ = some r) : Met l yX2_size zX2_size { frames := 0, cells := 0, slots := 0, locals := 0 } (va_Pc [.ref (a 3)] (preW (wC y a) a 37 D y t σ sz)) (va_Qi (fun r' u => r' = r ∧ u = σ) (posW (wC y a) D) (AC a 37 sz)) 0 0 (AC a 37 sz) := by
  refine Met.ofW (cc := cX2_size) (maxL := 1) (ret := (some .int)) (by decide) rfl ?_
  intro p e s m args below meth c s₁ B hml hv
  obtain ⟨rfl, hsz, hP, hK, hF⟩ := hv
  have hx := B.exec
  have hb := B.bytes
  have hr := B.returns
  have hts := atoms_spec (ws := zX2_size) B.pre
  have hown : s.vm.findClass RX2 = some m.cls := findClass_of_methodNamed B.named
  have hlocks := B.notSynchronized
  subst hsz
  have l_f26 := hts _ (List.mem_cons_of_mem _ aF_X2_26)
  have h_X2 : ∀ w ∈ wsX20, w.before _ s = true := fun w hw => hts w (List.mem_cons_of_mem _ (hwX2 w hw))
  have hS : va_S (AC a 37 s.heap.size) s.heap s.heap [] := va_S.rf
  have hl := lv_entry ([.ref (a 3)]) (n := 1) (Nat.le_of_ble_eq_true rfl)
  rw [lg_entry_eq]
  generalize (lg_sl ([.ref (a 3)]) ++ List.replicate (1 - (lg_sl ([.ref (a 3)])).length) Slot.unset).toArray = ls at hl ⊢
  have hl : lv_has ls 1 [(0, .ref (a 3))] := hl
  unfold mX2_size at hm
  refine lv_aload_n hx hb dX2_size_0 rfl (lv_at hl 0 rfl) ?_
  refine gfX2_size hx hb h_X2 hown hK hP l_f26 dX2_size_1 ?_
  exact W.iret (v := σ.1 5 0) hx hb hr (fun T hT hW => ⟨⟨σ.1 5 0, σ, rfl, ⟨Option.some.inj hm, rfl⟩, by rw [posW, hT]; exact hP⟩, hS.F hT⟩) hS.2.2 dX2_size_4
theorem eX2_at : yX2_at.cls = RX2 ∧ yX2_at.cls ≠ "java/lang/invoke/MethodHandle" ∧ yX2_at.cls ≠ "java/lang/invoke/VarHandle" ∧ (parseMethodDescriptor yX2_at.desc).map (fun d => d.parameters.length) = some 1 := by decide +kernel
def mX2_at (σ : St) (p1 : Int32) : Option Int32 :=
if p1 < 0 then (
some 0)
else (
if (σ.1 5 0) ≤ p1 then (
some 0)
else (
chkI p1 400 (
some (σ.1 19 p1.toNatClampNeg))))
set_option maxHeartbeats 4000000 in
set_option maxRecDepth 100000 in
theorem kX2_at (l : Launch) (D : va_G) (y : Nat → ClassId) (a t : Nat → Nat) (hI : AI a 37) (sz : Nat) (σ : St) (p1 : Int32) (r : Int32) (hm : mX2_at σ p1 = some r) : Met l yX2_at zX2_at { frames := 0, cells := 0, slots := 0, locals := 0 } (va_Pc [.ref (a 3), .int p1] (preW (wC y a) a 37 D y t σ sz)) (va_Qi (fun r' u => r' = r ∧ u = σ) (posW (wC y a) D) (AC a 37 sz)) 0 0 (AC a 37 sz) := by
  refine Met.ofW (cc := cX2_at) (maxL := 2) (ret := (some .int)) (by decide) rfl ?_
  intro p e s m args below meth c s₁ B hml hv
  obtain ⟨rfl, hsz, hP, hK, hF⟩ := hv
  have hx := B.exec
  have hb := B.bytes
  have hr := B.returns
  have hts := atoms_spec (ws := zX2_at) B.pre
  have hown : s.vm.findClass RX2 = some m.cls := findClass_of_methodNamed B.named
  have hlocks := B.notSynchronized
  subst hsz
  have l_f26 := hts _ (List.mem_cons_of_mem _ aF_X2_26)
  have l_f9 := hts _ (List.mem_cons_of_mem _ aF_X2_9)
  have h_X2 : ∀ w ∈ wsX20, w.before _ s = true := fun w hw => hts w (List.mem_cons_of_mem _ (hwX2 w hw))
  have hS : va_S (AC a 37 s.heap.size) s.heap s.heap [] := va_S.rf
  have hl := lv_entry ([.ref (a 3), .int p1]) (n := 2) (Nat.le_of_ble_eq_true rfl)
  rw [lg_entry_eq]
  generalize (lg_sl ([.ref (a 3), .int p1]) ++ List.replicate (2 - (lg_sl ([.ref (a 3), .int p1])).length) Slot.unset).toArray = ls at hl ⊢
  have hl : lv_has ls 2 [(0, .ref (a 3)), (1, .int p1)] := hl
  unfold mX2_at at hm
  refine lv_iload_n hx hb dX2_at_0 rfl (lv_at hl 1 rfl) ?_
  refine lv_if_lt (tgt := 21) hx hb dX2_at_1 (by decide) (fun c1 => ?_) (fun c1 => ?_)
  · have hm := (if_pos c1).symm.trans hm
    refine lv_iconst (v := 0) hx hb dX2_at_21 (by decide) ?_
    exact W.iret (v := 0) hx hb hr (fun T hT hW => ⟨⟨0, σ, rfl, ⟨Option.some.inj hm, rfl⟩, by rw [posW, hT]; exact hP⟩, hS.F hT⟩) hS.2.2 dX2_at_22
  · have hm := (if_neg c1).symm.trans hm
    refine lv_iload_n hx hb dX2_at_4 rfl (lv_at hl 1 rfl) ?_
    refine lv_aload_n hx hb dX2_at_5 rfl (lv_at hl 0 rfl) ?_
    refine gfX2_size hx hb h_X2 hown hK hP l_f26 dX2_at_6 ?_
    refine lv_icmp_ge (tgt := 21) hx hb dX2_at_9 (by decide) (fun c2 => ?_) (fun c2 => ?_)
    · have hm := (if_pos c2).symm.trans hm
      refine lv_iconst (v := 0) hx hb dX2_at_21 (by decide) ?_
      exact W.iret (v := 0) hx hb hr (fun T hT hW => ⟨⟨0, σ, rfl, ⟨Option.some.inj hm, rfl⟩, by rw [posW, hT]; exact hP⟩, hS.F hT⟩) hS.2.2 dX2_at_22
    · have hm := (if_neg c2).symm.trans hm
      refine lv_aload_n hx hb dX2_at_12 rfl (lv_at hl 0 rfl) ?_
      refine gfX2_bytes hx hb h_X2 hown hK hP l_f9 dX2_at_13 ?_
      refine lv_iload_n hx hb dX2_at_16 rfl (lv_at hl 1 rfl) ?_
      obtain ⟨hi, hm⟩ := ok_I hm
      refine ldC_16 hx hb hK hP hi dX2_at_17 ?_
      refine lv_goto (tgt := 22) hx hb dX2_at_18 (by decide) ?_
      exact W.iret (v := σ.1 19 p1.toNatClampNeg) hx hb hr (fun T hT hW => ⟨⟨σ.1 19 p1.toNatClampNeg, σ, rfl, ⟨Option.some.inj hm, rfl⟩, by rw [posW, hT]; exact hP⟩, hS.F hT⟩) hS.2.2 dX2_at_22
theorem eX2_addWaiting : yX2_addWaiting.cls = RX2 ∧ yX2_addWaiting.cls ≠ "java/lang/invoke/MethodHandle" ∧ yX2_addWaiting.cls ≠ "java/lang/invoke/VarHandle" ∧ (parseMethodDescriptor yX2_addWaiting.desc).map (fun d => d.parameters.length) = some 2 := by decide +kernel
def mX2_addWaiting (σ : St) (p1 : Int32) (p2 : Int32) : Option St :=
if (σ.1 4 0) < 0 then (
some σ)
else (
if 400 ≤ (σ.1 4 0) then (
some σ)
else (
chkI (σ.1 4 0) 400 (
bnd (su σ 20 (upd (σ.1 20) (σ.1 4 0).toNatClampNeg p1)) fun s3 =>
chkI (s3.1 4 0) 400 (
bnd (su s3 21 (upd (s3.1 21) (s3.1 4 0).toNatClampNeg p2)) fun s4 =>
bnd (su s4 4 (fun _ => (s4.1 4 0) + 1)) fun s5 =>
some s5))))
set_option maxHeartbeats 4000000 in
set_option maxRecDepth 100000 in
theorem kX2_addWaiting (l : Launch) (D : va_G) (y : Nat → ClassId) (a t : Nat → Nat) (hI : AI a 37) (sz : Nat) (σ τ : St) (p1 : Int32) (p2 : Int32) (hm : mX2_addWaiting σ p1 p2 = some τ) : Met l yX2_addWaiting zX2_addWaiting { frames := 0, cells := 0, slots := 0, locals := 0 } (va_Pc [.ref (a 3), .int p1, .int p2] (preW (wC y a) a 37 D y t σ sz)) (va_Qv (fun u => u = τ) (posW (wC y a) D) (AC a 37 sz)) 0 0 (AC a 37 sz) := by
  refine Met.ofW (cc := cX2_addWaiting) (maxL := 3) (ret := none) (by decide) rfl ?_
  intro p e s m args below meth c s₁ B hml hv
  obtain ⟨rfl, hsz, hP, hK, hF⟩ := hv
  have hx := B.exec
  have hb := B.bytes
  have hr := B.returns
  have hts := atoms_spec (ws := zX2_addWaiting) B.pre
  have hown : s.vm.findClass RX2 = some m.cls := findClass_of_methodNamed B.named
  have hlocks := B.notSynchronized
  subst hsz
  have l_f42 := hts _ (List.mem_cons_of_mem _ aF_X2_42)
  have l_f15 := hts _ (List.mem_cons_of_mem _ aF_X2_15)
  have l_f19 := hts _ (List.mem_cons_of_mem _ aF_X2_19)
  have h_X2 : ∀ w ∈ wsX20, w.before _ s = true := fun w hw => hts w (List.mem_cons_of_mem _ (hwX2 w hw))
  have hS : va_S (AC a 37 s.heap.size) s.heap s.heap [] := va_S.rf
  have hl := lv_entry ([.ref (a 3), .int p1, .int p2]) (n := 3) (Nat.le_of_ble_eq_true rfl)
  rw [lg_entry_eq]
  generalize (lg_sl ([.ref (a 3), .int p1, .int p2]) ++ List.replicate (3 - (lg_sl ([.ref (a 3), .int p1, .int p2])).length) Slot.unset).toArray = ls at hl ⊢
  have hl : lv_has ls 3 [(0, .ref (a 3)), (1, .int p1), (2, .int p2)] := hl
  unfold mX2_addWaiting at hm
  refine lv_aload_n hx hb dX2_addWaiting_0 rfl (lv_at hl 0 rfl) ?_
  refine gfX2_waitingCount hx hb h_X2 hown hK hP l_f42 dX2_addWaiting_1 ?_
  refine lv_if_lt (tgt := 47) hx hb dX2_addWaiting_4 (by decide) (fun c1 => ?_) (fun c1 => ?_)
  · have hm := (if_pos c1).symm.trans hm
    exact W.vret hx hb hr (fun T hT hW => ⟨⟨σ, rfl, Option.some.inj hm, by rw [posW, hT]; exact hP⟩, hS.F hT⟩) hS.2.2 dX2_addWaiting_47
  · have hm := (if_neg c1).symm.trans hm
    refine lv_aload_n hx hb dX2_addWaiting_7 rfl (lv_at hl 0 rfl) ?_
    refine gfX2_waitingCount hx hb h_X2 hown hK hP l_f42 dX2_addWaiting_8 ?_
    refine lv_sipush (v := 400) hx hb dX2_addWaiting_11 (by decide) ?_
    refine lv_icmp_ge (tgt := 47) hx hb dX2_addWaiting_14 (by decide) (fun c2 => ?_) (fun c2 => ?_)
    · have hm := (if_pos c2).symm.trans hm
      exact W.vret hx hb hr (fun T hT hW => ⟨⟨σ, rfl, Option.some.inj hm, by rw [posW, hT]; exact hP⟩, hS.F hT⟩) hS.2.2 dX2_addWaiting_47
    · have hm := (if_neg c2).symm.trans hm
      refine lv_aload_n hx hb dX2_addWaiting_17 rfl (lv_at hl 0 rfl) ?_
      refine gfX2_waiting hx hb h_X2 hown hK hP l_f15 dX2_addWaiting_18 ?_
      refine lv_aload_n hx hb dX2_addWaiting_21 rfl (lv_at hl 0 rfl) ?_
      refine gfX2_waitingCount hx hb h_X2 hown hK hP l_f42 dX2_addWaiting_22 ?_
      refine lv_iload_n hx hb dX2_addWaiting_25 rfl (lv_at hl 1 rfl) ?_
      obtain ⟨hi, hm⟩ := ok_I hm
      refine stC_17 hx hb hK hP hI AC_in hS hi dX2_addWaiting_26 (fun H locs hP hS => ?_)
      generalize es3 : su σ 20 (upd (σ.1 20) (σ.1 4 0).toNatClampNeg p1) = s3 at hP
      have hm := bnd_x es3.symm hm
      refine lv_aload_n hx hb dX2_addWaiting_27 rfl (lv_at hl 0 rfl) ?_
      refine gfX2_places hx hb h_X2 hown hK hP l_f19 dX2_addWaiting_28 ?_
      refine lv_aload_n hx hb dX2_addWaiting_31 rfl (lv_at hl 0 rfl) ?_
      refine gfX2_waitingCount hx hb h_X2 hown hK hP l_f42 dX2_addWaiting_32 ?_
      refine lv_iload_n hx hb dX2_addWaiting_35 rfl (lv_at hl 2 rfl) ?_
      obtain ⟨hi, hm⟩ := ok_I hm
      refine stC_18 hx hb hK hP hI AC_in hS hi dX2_addWaiting_36 (fun H locs hP hS => ?_)
      generalize es4 : su s3 21 (upd (s3.1 21) (s3.1 4 0).toNatClampNeg p2) = s4 at hP
      have hm := bnd_x es4.symm hm
      refine lv_aload_n hx hb dX2_addWaiting_37 rfl (lv_at hl 0 rfl) ?_
      refine lv_dup hx hb dX2_addWaiting_38 rfl ?_
      refine gfX2_waitingCount hx hb h_X2 hown hK hP l_f42 dX2_addWaiting_39 ?_
      refine lv_iconst (v := 1) hx hb dX2_addWaiting_42 (by decide) ?_
      refine lv_iadd hx hb dX2_addWaiting_43 ?_
      refine pfX2_waitingCount hx hb h_X2 hown hK hP hI AC_in hS l_f42 dX2_addWaiting_44 (fun H locs hP hS => ?_)
      generalize es5 : su s4 4 (fun _ => (s4.1 4 0) + 1) = s5 at hP
      have hm := bnd_x es5.symm hm
      exact W.vret hx hb hr (fun T hT hW => ⟨⟨s5, rfl, Option.some.inj hm, by rw [posW, hT]; exact hP⟩, hS.F hT⟩) hS.2.2 dX2_addWaiting_47
theorem eX2_set : yX2_set.cls = RX2 ∧ yX2_set.cls ≠ "java/lang/invoke/MethodHandle" ∧ yX2_set.cls ≠ "java/lang/invoke/VarHandle" ∧ (parseMethodDescriptor yX2_set.desc).map (fun d => d.parameters.length) = some 2 := by decide +kernel
def mX2_set (σ : St) (p1 : Int32) (p2 : Int32) : Option St :=
if p1 < 0 then (
some σ)
else (
if 400 ≤ p1 then (
some σ)
else (
chkI p1 400 (
bnd (su σ 19 (upd (σ.1 19) p1.toNatClampNeg (vp_nar .byte p2.toInt8.toInt32))) fun s3 =>
some s3)))
set_option maxHeartbeats 4000000 in
set_option maxRecDepth 100000 in
theorem kX2_set (l : Launch) (D : va_G) (y : Nat → ClassId) (a t : Nat → Nat) (hI : AI a 37) (sz : Nat) (σ τ : St) (p1 : Int32) (p2 : Int32) (hm : mX2_set σ p1 p2 = some τ) : Met l yX2_set zX2_set { frames := 0, cells := 0, slots := 0, locals := 0 } (va_Pc [.ref (a 3), .int p1, .int p2] (preW (wC y a) a 37 D y t σ sz)) (va_Qv (fun u => u = τ) (posW (wC y a) D) (AC a 37 sz)) 0 0 (AC a 37 sz) := by
  refine Met.ofW (cc := cX2_set) (maxL := 3) (ret := none) (by decide) rfl ?_
  intro p e s m args below meth c s₁ B hml hv
  obtain ⟨rfl, hsz, hP, hK, hF⟩ := hv
  have hx := B.exec
  have hb := B.bytes
  have hr := B.returns
  have hts := atoms_spec (ws := zX2_set) B.pre
  have hown : s.vm.findClass RX2 = some m.cls := findClass_of_methodNamed B.named
  have hlocks := B.notSynchronized
  subst hsz
  have l_f9 := hts _ (List.mem_cons_of_mem _ aF_X2_9)
  have h_X2 : ∀ w ∈ wsX20, w.before _ s = true := fun w hw => hts w (List.mem_cons_of_mem _ (hwX2 w hw))
  have hS : va_S (AC a 37 s.heap.size) s.heap s.heap [] := va_S.rf
  have hl := lv_entry ([.ref (a 3), .int p1, .int p2]) (n := 3) (Nat.le_of_ble_eq_true rfl)
  rw [lg_entry_eq]
  generalize (lg_sl ([.ref (a 3), .int p1, .int p2]) ++ List.replicate (3 - (lg_sl ([.ref (a 3), .int p1, .int p2])).length) Slot.unset).toArray = ls at hl ⊢
  have hl : lv_has ls 3 [(0, .ref (a 3)), (1, .int p1), (2, .int p2)] := hl
  unfold mX2_set at hm
  refine lv_iload_n hx hb dX2_set_0 rfl (lv_at hl 1 rfl) ?_
  refine lv_if_lt (tgt := 19) hx hb dX2_set_1 (by decide) (fun c1 => ?_) (fun c1 => ?_)
  · have hm := (if_pos c1).symm.trans hm
    exact W.vret hx hb hr (fun T hT hW => ⟨⟨σ, rfl, Option.some.inj hm, by rw [posW, hT]; exact hP⟩, hS.F hT⟩) hS.2.2 dX2_set_19
  · have hm := (if_neg c1).symm.trans hm
    refine lv_iload_n hx hb dX2_set_4 rfl (lv_at hl 1 rfl) ?_
    refine lv_sipush (v := 400) hx hb dX2_set_5 (by decide) ?_
    refine lv_icmp_ge (tgt := 19) hx hb dX2_set_8 (by decide) (fun c2 => ?_) (fun c2 => ?_)
    · have hm := (if_pos c2).symm.trans hm
      exact W.vret hx hb hr (fun T hT hW => ⟨⟨σ, rfl, Option.some.inj hm, by rw [posW, hT]; exact hP⟩, hS.F hT⟩) hS.2.2 dX2_set_19
    · have hm := (if_neg c2).symm.trans hm
      refine lv_aload_n hx hb dX2_set_11 rfl (lv_at hl 0 rfl) ?_
      refine gfX2_bytes hx hb h_X2 hown hK hP l_f9 dX2_set_12 ?_
      refine lv_iload_n hx hb dX2_set_15 rfl (lv_at hl 1 rfl) ?_
      refine lv_iload_n hx hb dX2_set_16 rfl (lv_at hl 2 rfl) ?_
      refine lv_i2b (v := p2.toInt8.toInt32) hx hb dX2_set_17 rfl ?_
      obtain ⟨hi, hm⟩ := ok_I hm
      refine stC_16 hx hb hK hP hI AC_in hS hi dX2_set_18 (fun H locs hP hS => ?_)
      generalize es3 : su σ 19 (upd (σ.1 19) p1.toNatClampNeg (vp_nar .byte p2.toInt8.toInt32)) = s3 at hP
      have hm := bnd_x es3.symm hm
      exact W.vret hx hb hr (fun T hT hW => ⟨⟨s3, rfl, Option.some.inj hm, by rw [posW, hT]; exact hP⟩, hS.F hT⟩) hS.2.2 dX2_set_19
theorem eX2_putPart : yX2_putPart.cls = RX2 ∧ yX2_putPart.cls ≠ "java/lang/invoke/MethodHandle" ∧ yX2_putPart.cls ≠ "java/lang/invoke/VarHandle" ∧ (parseMethodDescriptor yX2_putPart.desc).map (fun d => d.parameters.length) = some 4 := by decide +kernel
def mX2_putPart (σ : St) (p1 : Int32) (p2 : Int32) (p3 : Int32) (p4 : Int32) : Option (Int32 × St) :=
(mX1_width σ p2).bind fun r1 =>
(mX1_sort σ p2).bind fun r3 =>
(mX1_needsBrackets σ p1 r3 p4).bind fun r5 =>
if r5 = 0 then (
(mX2_addWaiting σ p2 p3).bind fun s15 =>
some (p3 + r1, s15))
else (
(mX2_set σ p3 40).bind fun s9 =>
(mX2_addWaiting s9 p2 (p3 + 1)).bind fun s11 =>
(mX2_set s11 ((p3 + 1) + r1) 41).bind fun s13 =>
some ((p3 + r1) + 2, s13))
set_option maxHeartbeats 4000000 in
set_option maxRecDepth 100000 in
theorem kX2_putPart (l : Launch) (D : va_G) (y : Nat → ClassId) (a t : Nat → Nat) (hI : AI a 37) (sz : Nat) (σ τ : St) (p1 : Int32) (p2 : Int32) (p3 : Int32) (p4 : Int32) (r : Int32) (hm : mX2_putPart σ p1 p2 p3 p4 = some (r, τ)) : Met l yX2_putPart zX2_putPart { frames := 1, cells := 0, slots := 0, locals := 22 } (va_Pc [.ref (a 3), .int p1, .int p2, .int p3, .int p4] (preW (wC y a) a 37 D y t σ sz)) (va_Qi (fun r' u => r' = r ∧ u = τ) (posW (wC y a) D) (AC a 37 sz)) 0 0 (AC a 37 sz) := by
  refine Met.ofW (cc := cX2_putPart) (maxL := 6) (ret := (some .int)) (by decide) rfl ?_
  intro p e s m args below meth c s₁ B hml hv
  obtain ⟨rfl, hsz, hP, hK, hF⟩ := hv
  have hx := B.exec
  have hb := B.bytes
  have hr := B.returns
  have hts := atoms_spec (ws := zX2_putPart) B.pre
  have hown : s.vm.findClass RX2 = some m.cls := findClass_of_methodNamed B.named
  have hlocks := B.notSynchronized
  subst hsz
  have l_f22 := hts _ (List.mem_cons_of_mem _ aF_X2_22)
  have h_X2 : ∀ w ∈ wsX20, w.before _ s = true := fun w hw => hts w (List.mem_cons_of_mem _ (hwX2 w hw))
  have hS : va_S (AC a 37 s.heap.size) s.heap s.heap [] := va_S.rf
  have hl := lv_entry ([.ref (a 3), .int p1, .int p2, .int p3, .int p4]) (n := 6) (Nat.le_of_ble_eq_true rfl)
  rw [lg_entry_eq]
  generalize (lg_sl ([.ref (a 3), .int p1, .int p2, .int p3, .int p4]) ++ List.replicate (6 - (lg_sl ([.ref (a 3), .int p1, .int p2, .int p3, .int p4])).length) Slot.unset).toArray = ls at hl ⊢
  have hl : lv_has ls 6 [(0, .ref (a 3)), (1, .int p1), (2, .int p2), (3, .int p3), (4, .int p4)] := hl
  unfold mX2_putPart at hm
  refine lv_aload_n hx hb dX2_putPart_0 rfl (lv_at hl 0 rfl) ?_
  refine gfX2_formulas hx hb h_X2 hown hK hP l_f22 dX2_putPart_1 ?_
  refine lv_iload_n hx hb dX2_putPart_4 rfl (lv_at hl 2 rfl) ?_
  obtain ⟨r1, h2, hm⟩ := ok_bind hm
  refine calV_i (As := [.int p2]) (rest := []) ⟨hx, hb, hml, hown, hts⟩ (kX1_width l D y a t hI _ σ p2 r1 h2) (cwV 1 hts (gAV aM_X2_30 aI_X1_width aS_X1_width aN_X1 aC_X1_width) rfl rfl rfl eX1_width ⟨Nat.le_of_ble_eq_true rfl, Nat.le_of_ble_eq_true rfl⟩) (preV_W (ci := 1) (q := (RX1, TX1, 8)) hK hP hF hS rfl (wC_1 y a σ)) rfl hl.1 rfl (Nat.le_of_ble_eq_true rfl) dX2_putPart_5 ⟨Nat.zero_le _, Nat.zero_le _⟩ hS (AC_le hS.1) (fun H locs hP hS hk1 => ?_)
  refine lv_istore (lv' := [(5, .int r1), (0, .ref (a 3)), (1, .int p1), (2, .int p2), (3, .int p3), (4, .int p4)]) hx hb dX2_putPart_8 hl (by decide) rfl (fun ls hl => ?_)
  refine lv_iload_n hx hb dX2_putPart_10 rfl (lv_at hl 2 rfl) ?_
  refine lv_aload_n hx hb dX2_putPart_11 rfl (lv_at hl 1 rfl) ?_
  refine gfX2_formulas hx hb h_X2 hown hK hP l_f22 dX2_putPart_12 ?_
  refine lv_iload_n hx hb dX2_putPart_15 rfl (lv_at hl 3 rfl) ?_
  obtain ⟨r3, h4, hm⟩ := ok_bind hm
  refine calV_i (As := [.int p2]) (rest := [.int p1]) ⟨hx, hb, hml, hown, hts⟩ (kX1_sort l D y a t hI _ σ p2 r3 h4) (cwV 1 hts (gAV aM_X2_52 aI_X1_sort aS_X1_sort aN_X1 aC_X1_sort) rfl rfl rfl eX1_sort ⟨Nat.le_of_ble_eq_true rfl, Nat.le_of_ble_eq_true rfl⟩) (preV_W (ci := 1) (q := (RX1, TX1, 8)) hK hP hF hS rfl (wC_1 y a σ)) rfl hl.1 rfl (Nat.le_of_ble_eq_true rfl) dX2_putPart_16 ⟨Nat.zero_le _, Nat.zero_le _⟩ hS (AC_le hS.1) (fun H locs hP hS hk1 => ?_)
  refine lv_iload hx hb dX2_putPart_19 (lv_at hl 5 rfl) ?_
  obtain ⟨r5, h6, hm⟩ := ok_bind hm
  refine calS_i (As := [.int p1, .int r3, .int p4]) (rest := []) ⟨hx, hb, hml, hown, hts⟩ (kX1_needsBrackets l D y a t hI _ σ p1 r3 p4 r5 h6) (va_cwS 3 hts (gAS aM_X2_71 aT_X1_needsBrackets aN_X1 aC_X1_needsBrackets) rfl rfl rfl eX1_needsBrackets ⟨Nat.le_of_ble_eq_true rfl, Nat.le_of_ble_eq_true rfl⟩) (preS_W hK hP hF hS) rfl hl.1 rfl (Nat.le_of_ble_eq_true rfl) dX2_putPart_21 ⟨Nat.zero_le _, Nat.zero_le _⟩ hS (AC_le hS.1) (fun H locs hP hS hk1 => ?_)
  refine lv_if_ne (tgt := 38) hx hb dX2_putPart_24 (by decide) (fun c7 => ?_) (fun c7 => ?_)
  · have hm := (if_neg c7).symm.trans hm
    refine lv_aload_n hx hb dX2_putPart_38 rfl (lv_at hl 1 rfl) ?_
    refine lv_iload_n hx hb dX2_putPart_39 rfl (lv_at hl 4 rfl) ?_
    refine lv_bipush (v := 40) hx hb dX2_putPart_40 (by decide) ?_
    obtain ⟨s9, h8, hm⟩ := ok_bind hm
    refine calV_v (As := [.int p3, .int 40]) (rest := []) ⟨hx, hb, hml, hown, hts⟩ (kX2_set l D y a t hI _ σ s9 p3 40 h8) (cwV 2 hts (gAV aM_X2_58 aI_X2_set aS_X2_set aN_X2 aC_X2_set) rfl rfl rfl eX2_set ⟨Nat.le_of_ble_eq_true rfl, Nat.le_of_ble_eq_true rfl⟩) (preV_W (ci := 2) (q := (RX2, TX2, 6)) hK hP hF hS rfl (wC_3 y a σ)) rfl hl.1 rfl (Nat.le_of_ble_eq_true rfl) dX2_putPart_42 ⟨Nat.zero_le _, Nat.zero_le _⟩ hS (AC_le hS.1) (fun H locs hP hS hk1 => ?_)
    refine lv_aload_n hx hb dX2_putPart_45 rfl (lv_at hl 1 rfl) ?_
    refine lv_iload_n hx hb dX2_putPart_46 rfl (lv_at hl 3 rfl) ?_
    refine lv_iload_n hx hb dX2_putPart_47 rfl (lv_at hl 4 rfl) ?_
    refine lv_iconst (v := 1) hx hb dX2_putPart_48 (by decide) ?_
    refine lv_iadd hx hb dX2_putPart_49 ?_
    obtain ⟨s11, h10, hm⟩ := ok_bind hm
    refine calV_v (As := [.int p2, .int (p3 + 1)]) (rest := []) ⟨hx, hb, hml, hown, hts⟩ (kX2_addWaiting l D y a t hI _ s9 s11 p2 (p3 + 1) h10) (cwV 2 hts (gAV aM_X2_45 aI_X2_addWaiting aS_X2_addWaiting aN_X2 aC_X2_addWaiting) rfl rfl rfl eX2_addWaiting ⟨Nat.le_of_ble_eq_true rfl, Nat.le_of_ble_eq_true rfl⟩) (preV_W (ci := 2) (q := (RX2, TX2, 6)) hK hP hF hS rfl (wC_3 y a s9)) rfl hl.1 rfl (Nat.le_of_ble_eq_true rfl) dX2_putPart_50 ⟨Nat.zero_le _, Nat.zero_le _⟩ hS (AC_le hS.1) (fun H locs hP hS hk1 => ?_)
    refine lv_aload_n hx hb dX2_putPart_53 rfl (lv_at hl 1 rfl) ?_
    refine lv_iload_n hx hb dX2_putPart_54 rfl (lv_at hl 4 rfl) ?_
    refine lv_iconst (v := 1) hx hb dX2_putPart_55 (by decide) ?_
    refine lv_iadd hx hb dX2_putPart_56 ?_
    refine lv_iload hx hb dX2_putPart_57 (lv_at hl 0 rfl) ?_
    refine lv_iadd hx hb dX2_putPart_59 ?_
    refine lv_bipush (v := 41) hx hb dX2_putPart_60 (by decide) ?_
    obtain ⟨s13, h12, hm⟩ := ok_bind hm
    refine calV_v (As := [.int ((p3 + 1) + r1), .int 41]) (rest := []) ⟨hx, hb, hml, hown, hts⟩ (kX2_set l D y a t hI _ s11 s13 ((p3 + 1) + r1) 41 h12) (cwV 2 hts (gAV aM_X2_58 aI_X2_set aS_X2_set aN_X2 aC_X2_set) rfl rfl rfl eX2_set ⟨Nat.le_of_ble_eq_true rfl, Nat.le_of_ble_eq_true rfl⟩) (preV_W (ci := 2) (q := (RX2, TX2, 6)) hK hP hF hS rfl (wC_3 y a s11)) rfl hl.1 rfl (Nat.le_of_ble_eq_true rfl) dX2_putPart_62 ⟨Nat.zero_le _, Nat.zero_le _⟩ hS (AC_le hS.1) (fun H locs hP hS hk1 => ?_)
    refine lv_iload_n hx hb dX2_putPart_65 rfl (lv_at hl 4 rfl) ?_
    refine lv_iload hx hb dX2_putPart_66 (lv_at hl 0 rfl) ?_
    refine lv_iadd hx hb dX2_putPart_68 ?_
    refine lv_iconst (v := 2) hx hb dX2_putPart_69 (by decide) ?_
    refine lv_iadd hx hb dX2_putPart_70 ?_
    exact W.iret (v := (p3 + r1) + 2) hx hb hr (fun T hT hW => ⟨⟨(p3 + r1) + 2, s13, rfl, ⟨congrArg Prod.fst (Option.some.inj hm), congrArg Prod.snd (Option.some.inj hm)⟩, by rw [posW, hT]; exact hP⟩, hS.F hT⟩) hS.2.2 dX2_putPart_71
  · have hm := (if_pos c7).symm.trans hm
    refine lv_aload_n hx hb dX2_putPart_27 rfl (lv_at hl 1 rfl) ?_
    refine lv_iload_n hx hb dX2_putPart_28 rfl (lv_at hl 3 rfl) ?_
    refine lv_iload_n hx hb dX2_putPart_29 rfl (lv_at hl 4 rfl) ?_
    obtain ⟨s15, h14, hm⟩ := ok_bind hm
    refine calV_v (As := [.int p2, .int p3]) (rest := []) ⟨hx, hb, hml, hown, hts⟩ (kX2_addWaiting l D y a t hI _ σ s15 p2 p3 h14) (cwV 2 hts (gAV aM_X2_45 aI_X2_addWaiting aS_X2_addWaiting aN_X2 aC_X2_addWaiting) rfl rfl rfl eX2_addWaiting ⟨Nat.le_of_ble_eq_true rfl, Nat.le_of_ble_eq_true rfl⟩) (preV_W (ci := 2) (q := (RX2, TX2, 6)) hK hP hF hS rfl (wC_3 y a σ)) rfl hl.1 rfl (Nat.le_of_ble_eq_true rfl) dX2_putPart_30 ⟨Nat.zero_le _, Nat.zero_le _⟩ hS (AC_le hS.1) (fun H locs hP hS hk1 => ?_)
    refine lv_iload_n hx hb dX2_putPart_33 rfl (lv_at hl 4 rfl) ?_
    refine lv_iload hx hb dX2_putPart_34 (lv_at hl 0 rfl) ?_
    refine lv_iadd hx hb dX2_putPart_36 ?_
    exact W.iret (v := p3 + r1) hx hb hr (fun T hT hW => ⟨⟨p3 + r1, s15, rfl, ⟨congrArg Prod.fst (Option.some.inj hm), congrArg Prod.snd (Option.some.inj hm)⟩, by rw [posW, hT]; exact hP⟩, hS.F hT⟩) hS.2.2 dX2_putPart_37
theorem eX2_putOne : yX2_putOne.cls = RX2 ∧ yX2_putOne.cls ≠ "java/lang/invoke/MethodHandle" ∧ yX2_putOne.cls ≠ "java/lang/invoke/VarHandle" ∧ (parseMethodDescriptor yX2_putOne.desc).map (fun d => d.parameters.length) = some 2 := by decide +kernel
def mX2_putOne_135 (s6 : St) (v1 : Int32) (v2 : Int32) (v3 : Int32) (v4 : Int32) (v5 : Int32) : Option St :=
(mX2_set s6 v5 v4).bind fun s8 =>
(mX1_second s8 v1).bind fun r9 =>
(mX2_putPart s8 v2 r9 (v3 + 1) 1).bind fun ⟨r11, s13⟩ =>
some s13
def mX2_putOne (σ : St) (p1 : Int32) (p2 : Int32) : Option St :=
(mX1_sort σ p1).bind fun r14 =>
if r14 = 0 then (
(mX1_first σ p1).bind fun r17 =>
(mX2_set σ p2 (97 + r17)).bind fun s20 =>
some s20)
else (
if r14 = 1 then (
(mX2_set σ p2 35).bind fun s23 =>
some s23)
else (
if r14 = 2 then (
(mX2_set σ p2 45).bind fun s26 =>
(mX1_left s26 p1).bind fun r27 =>
(mX2_putPart s26 r14 r27 (p2 + 1) 0).bind fun ⟨r29, s31⟩ =>
some s31)
else (
(mX1_left σ p1).bind fun r32 =>
(mX2_putPart σ r14 r32 p2 0).bind fun ⟨r34, s36⟩ =>
if r14 = 3 then (
mX2_putOne_135 s36 p1 r14 r34 38 r34)
else (
if r14 = 4 then (
mX2_putOne_135 s36 p1 r14 r34 124 r34)
else (
mX2_putOne_135 s36 p1 r14 r34 62 r34)))))
set_option maxHeartbeats 4000000 in
set_option maxRecDepth 100000 in
theorem kX2_putOne (l : Launch) (D : va_G) (y : Nat → ClassId) (a t : Nat → Nat) (hI : AI a 37) (sz : Nat) (σ τ : St) (p1 : Int32) (p2 : Int32) (hm : mX2_putOne σ p1 p2 = some τ) : Met l yX2_putOne zX2_putOne { frames := 2, cells := 0, slots := 0, locals := 47 } (va_Pc [.ref (a 3), .int p1, .int p2] (preW (wC y a) a 37 D y t σ sz)) (va_Qv (fun u => u = τ) (posW (wC y a) D) (AC a 37 sz)) 0 0 (AC a 37 sz) := by
  refine Met.ofW (cc := cX2_putOne) (maxL := 5) (ret := none) (by decide) rfl ?_
  intro p e s m args below meth c s₁ B hml hv
  obtain ⟨rfl, hsz, hP, hK, hF⟩ := hv
  have hx := B.exec
  have hb := B.bytes
  have hr := B.returns
  have hts := atoms_spec (ws := zX2_putOne) B.pre
  have hown : s.vm.findClass RX2 = some m.cls := findClass_of_methodNamed B.named
  have hlocks := B.notSynchronized
  subst hsz
  have l_f22 := hts _ (List.mem_cons_of_mem _ aF_X2_22)
  have h_X2 : ∀ w ∈ wsX20, w.before _ s = true := fun w hw => hts w (List.mem_cons_of_mem _ (hwX2 w hw))
  have hS : va_S (AC a 37 s.heap.size) s.heap s.heap [] := va_S.rf
  have hl := lv_entry ([.ref (a 3), .int p1, .int p2]) (n := 5) (Nat.le_of_ble_eq_true rfl)
  rw [lg_entry_eq]
  generalize (lg_sl ([.ref (a 3), .int p1, .int p2]) ++ List.replicate (5 - (lg_sl ([.ref (a 3), .int p1, .int p2])).length) Slot.unset).toArray = ls at hl ⊢
  have hl : lv_has ls 5 [(0, .ref (a 3)), (1, .int p1), (2, .int p2)] := hl
  have L_135 : ∀ (s6 : St) (v1 : Int32) (v2 : Int32) (v3 : Int32) (v4 : Int32) (v5 : Int32) (H : Heap) (locs : List Loc) (ls : Array Slot), va_P D vwCl (wC y a s6) H → va_S (AC a 37 s.heap.size) s.heap H locs → lv_has ls 5 [(0, .ref (a 3)), (1, .int v1), (3, .int v2), (4, .int v3)] → mX2_putOne_135 s6 v1 v2 v3 v4 v5 = some τ → W p l e (headSpec zX2_putOne ({ frames := 2, cells := 0, slots := 0, locals := 47 })).room s m ([.ref (a 3), .int p1, .int p2] : List Value).toArray below meth c H locs 0 0 (MQ below (va_Qv (fun u => u = τ) (posW (wC y a) D) (AC a 37 s.heap.size)) ([.ref (a 3), .int p1, .int p2] : List Value).toArray s 0 0 (AC a 37 s.heap.size)) (F0 m 135 ls [.int v4, .int v5, .ref (a 3)]) := by
    intro s6 v1 v2 v3 v4 v5 H locs ls hP hS hl hm
    unfold mX2_putOne_135 at hm
    obtain ⟨s8, h7, hm⟩ := ok_bind hm
    refine calV_v (As := [.int v5, .int v4]) (rest := []) ⟨hx, hb, hml, hown, hts⟩ (kX2_set l D y a t hI _ s6 s8 v5 v4 h7) (cwV 2 hts (gAV aM_X2_58 aI_X2_set aS_X2_set aN_X2 aC_X2_set) rfl rfl rfl eX2_set ⟨Nat.le_of_ble_eq_true rfl, Nat.le_of_ble_eq_true rfl⟩) (preV_W (ci := 2) (q := (RX2, TX2, 6)) hK hP hF hS rfl (wC_3 y a s6)) rfl hl.1 rfl (Nat.le_of_ble_eq_true rfl) dX2_putOne_135 ⟨Nat.zero_le _, Nat.zero_le _⟩ hS (AC_le hS.1) (fun H locs hP hS hk1 => ?_)
    refine lv_aload_n hx hb dX2_putOne_138 rfl (lv_at hl 0 rfl) ?_
    refine lv_iload_n hx hb dX2_putOne_139 rfl (lv_at hl 2 rfl) ?_
    refine lv_aload_n hx hb dX2_putOne_140 rfl (lv_at hl 0 rfl) ?_
    refine gfX2_formulas hx hb h_X2 hown hK hP l_f22 dX2_putOne_141 ?_
    refine lv_iload_n hx hb dX2_putOne_144 rfl (lv_at hl 1 rfl) ?_
    obtain ⟨r9, h10, hm⟩ := ok_bind hm
    refine calV_i (As := [.int v1]) (rest := [.int v2, .ref (a 3)]) ⟨hx, hb, hml, hown, hts⟩ (kX1_second l D y a t hI _ s8 v1 r9 h10) (cwV 1 hts (gAV aM_X2_68 aI_X1_second aS_X1_second aN_X1 aC_X1_second) rfl rfl rfl eX1_second ⟨Nat.le_of_ble_eq_true rfl, Nat.le_of_ble_eq_true rfl⟩) (preV_W (ci := 1) (q := (RX1, TX1, 8)) hK hP hF hS rfl (wC_1 y a s8)) rfl hl.1 rfl (Nat.le_of_ble_eq_true rfl) dX2_putOne_145 ⟨Nat.zero_le _, Nat.zero_le _⟩ hS (AC_le hS.1) (fun H locs hP hS hk1 => ?_)
    refine lv_iload hx hb dX2_putOne_148 (lv_at hl 3 rfl) ?_
    refine lv_iconst (v := 1) hx hb dX2_putOne_150 (by decide) ?_
    refine lv_iadd hx hb dX2_putOne_151 ?_
    refine lv_iconst (v := 1) hx hb dX2_putOne_152 (by decide) ?_
    obtain ⟨⟨r11, s13⟩, h12, hm⟩ := ok_bind hm
    refine calV_i (As := [.int v2, .int r9, .int (v3 + 1), .int 1]) (rest := []) ⟨hx, hb, hml, hown, hts⟩ (kX2_putPart l D y a t hI _ s8 s13 v2 r9 (v3 + 1) 1 r11 h12) (cwV 4 hts (gAV aM_X2_64 aI_X2_putPart aS_X2_putPart aN_X2 aC_X2_putPart) rfl rfl rfl eX2_putPart ⟨Nat.le_of_ble_eq_true rfl, Nat.le_of_ble_eq_true rfl⟩) (preV_W (ci := 2) (q := (RX2, TX2, 6)) hK hP hF hS rfl (wC_3 y a s8)) rfl hl.1 rfl (Nat.le_of_ble_eq_true rfl) dX2_putOne_153 ⟨Nat.zero_le _, Nat.zero_le _⟩ hS (AC_le hS.1) (fun H locs hP hS hk1 => ?_)
    refine lv_pop hx hb dX2_putOne_156 rfl ?_
    exact W.vret hx hb hr (fun T hT hW => ⟨⟨s13, rfl, Option.some.inj hm, by rw [posW, hT]; exact hP⟩, hS.F hT⟩) hS.2.2 dX2_putOne_157
  unfold mX2_putOne at hm
  refine lv_aload_n hx hb dX2_putOne_0 rfl (lv_at hl 0 rfl) ?_
  refine gfX2_formulas hx hb h_X2 hown hK hP l_f22 dX2_putOne_1 ?_
  refine lv_iload_n hx hb dX2_putOne_4 rfl (lv_at hl 1 rfl) ?_
  obtain ⟨r14, h15, hm⟩ := ok_bind hm
  refine calV_i (As := [.int p1]) (rest := []) ⟨hx, hb, hml, hown, hts⟩ (kX1_sort l D y a t hI _ σ p1 r14 h15) (cwV 1 hts (gAV aM_X2_52 aI_X1_sort aS_X1_sort aN_X1 aC_X1_sort) rfl rfl rfl eX1_sort ⟨Nat.le_of_ble_eq_true rfl, Nat.le_of_ble_eq_true rfl⟩) (preV_W (ci := 1) (q := (RX1, TX1, 8)) hK hP hF hS rfl (wC_1 y a σ)) rfl hl.1 rfl (Nat.le_of_ble_eq_true rfl) dX2_putOne_5 ⟨Nat.zero_le _, Nat.zero_le _⟩ hS (AC_le hS.1) (fun H locs hP hS hk1 => ?_)
  refine lv_istore_n (lv' := [(3, .int r14), (0, .ref (a 3)), (1, .int p1), (2, .int p2)]) hx hb dX2_putOne_8 rfl hl (by decide) rfl (fun ls hl => ?_)
  refine lv_iload_n hx hb dX2_putOne_9 rfl (lv_at hl 0 rfl) ?_
  by_cases c16 : r14 = 0
  · have hm := (if_pos c16).symm.trans hm
    refine lv_tableIn (tgt := 36) hx hb dX2_putOne_10 (by rw [c16]; decide) (by rw [c16]; decide) (by rw [c16]; rfl) (by decide) ?_
    refine lv_aload_n hx hb dX2_putOne_36 rfl (lv_at hl 1 rfl) ?_
    refine lv_iload_n hx hb dX2_putOne_37 rfl (lv_at hl 3 rfl) ?_
    refine lv_bipush (v := 97) hx hb dX2_putOne_38 (by decide) ?_
    refine lv_aload_n hx hb dX2_putOne_40 rfl (lv_at hl 1 rfl) ?_
    refine gfX2_formulas hx hb h_X2 hown hK hP l_f22 dX2_putOne_41 ?_
    refine lv_iload_n hx hb dX2_putOne_44 rfl (lv_at hl 2 rfl) ?_
    obtain ⟨r17, h18, hm⟩ := ok_bind hm
    refine calV_i (As := [.int p1]) (rest := [.int 97, .int p2, .ref (a 3)]) ⟨hx, hb, hml, hown, hts⟩ (kX1_first l D y a t hI _ σ p1 r17 h18) (cwV 1 hts (gAV aM_X2_55 aI_X1_first aS_X1_first aN_X1 aC_X1_first) rfl rfl rfl eX1_first ⟨Nat.le_of_ble_eq_true rfl, Nat.le_of_ble_eq_true rfl⟩) (preV_W (ci := 1) (q := (RX1, TX1, 8)) hK hP hF hS rfl (wC_1 y a σ)) rfl hl.1 rfl (Nat.le_of_ble_eq_true rfl) dX2_putOne_45 ⟨Nat.zero_le _, Nat.zero_le _⟩ hS (AC_le hS.1) (fun H locs hP hS hk1 => ?_)
    refine lv_iadd hx hb dX2_putOne_48 ?_
    obtain ⟨s20, h19, hm⟩ := ok_bind hm
    refine calV_v (As := [.int p2, .int (97 + r17)]) (rest := []) ⟨hx, hb, hml, hown, hts⟩ (kX2_set l D y a t hI _ σ s20 p2 (97 + r17) h19) (cwV 2 hts (gAV aM_X2_58 aI_X2_set aS_X2_set aN_X2 aC_X2_set) rfl rfl rfl eX2_set ⟨Nat.le_of_ble_eq_true rfl, Nat.le_of_ble_eq_true rfl⟩) (preV_W (ci := 2) (q := (RX2, TX2, 6)) hK hP hF hS rfl (wC_3 y a σ)) rfl hl.1 rfl (Nat.le_of_ble_eq_true rfl) dX2_putOne_49 ⟨Nat.zero_le _, Nat.zero_le _⟩ hS (AC_le hS.1) (fun H locs hP hS hk1 => ?_)
    refine lv_goto (tgt := 157) hx hb dX2_putOne_52 (by decide) ?_
    exact W.vret hx hb hr (fun T hT hW => ⟨⟨s20, rfl, Option.some.inj hm, by rw [posW, hT]; exact hP⟩, hS.F hT⟩) hS.2.2 dX2_putOne_157
  · have hm := (if_neg c16).symm.trans hm
    have sc16 := sw_ne (k := 0) c16 rfl
    by_cases c21 : r14 = 1
    · have hm := (if_pos c21).symm.trans hm
      refine lv_tableIn (tgt := 55) hx hb dX2_putOne_10 (by rw [c21]; decide) (by rw [c21]; decide) (by rw [c21]; rfl) (by decide) ?_
      refine lv_aload_n hx hb dX2_putOne_55 rfl (lv_at hl 1 rfl) ?_
      refine lv_iload_n hx hb dX2_putOne_56 rfl (lv_at hl 3 rfl) ?_
      refine lv_bipush (v := 35) hx hb dX2_putOne_57 (by decide) ?_
      obtain ⟨s23, h22, hm⟩ := ok_bind hm
      refine calV_v (As := [.int p2, .int 35]) (rest := []) ⟨hx, hb, hml, hown, hts⟩ (kX2_set l D y a t hI _ σ s23 p2 35 h22) (cwV 2 hts (gAV aM_X2_58 aI_X2_set aS_X2_set aN_X2 aC_X2_set) rfl rfl rfl eX2_set ⟨Nat.le_of_ble_eq_true rfl, Nat.le_of_ble_eq_true rfl⟩) (preV_W (ci := 2) (q := (RX2, TX2, 6)) hK hP hF hS rfl (wC_3 y a σ)) rfl hl.1 rfl (Nat.le_of_ble_eq_true rfl) dX2_putOne_59 ⟨Nat.zero_le _, Nat.zero_le _⟩ hS (AC_le hS.1) (fun H locs hP hS hk1 => ?_)
      refine lv_goto (tgt := 157) hx hb dX2_putOne_62 (by decide) ?_
      exact W.vret hx hb hr (fun T hT hW => ⟨⟨s23, rfl, Option.some.inj hm, by rw [posW, hT]; exact hP⟩, hS.F hT⟩) hS.2.2 dX2_putOne_157
    · have hm := (if_neg c21).symm.trans hm
      have sc21 := sw_ne (k := 1) c21 rfl
      by_cases c24 : r14 = 2
      · have hm := (if_pos c24).symm.trans hm
        refine lv_tableIn (tgt := 65) hx hb dX2_putOne_10 (by rw [c24]; decide) (by rw [c24]; decide) (by rw [c24]; rfl) (by decide) ?_
        refine lv_aload_n hx hb dX2_putOne_65 rfl (lv_at hl 1 rfl) ?_
        refine lv_iload_n hx hb dX2_putOne_66 rfl (lv_at hl 3 rfl) ?_
        refine lv_bipush (v := 45) hx hb dX2_putOne_67 (by decide) ?_
        obtain ⟨s26, h25, hm⟩ := ok_bind hm
        refine calV_v (As := [.int p2, .int 45]) (rest := []) ⟨hx, hb, hml, hown, hts⟩ (kX2_set l D y a t hI _ σ s26 p2 45 h25) (cwV 2 hts (gAV aM_X2_58 aI_X2_set aS_X2_set aN_X2 aC_X2_set) rfl rfl rfl eX2_set ⟨Nat.le_of_ble_eq_true rfl, Nat.le_of_ble_eq_true rfl⟩) (preV_W (ci := 2) (q := (RX2, TX2, 6)) hK hP hF hS rfl (wC_3 y a σ)) rfl hl.1 rfl (Nat.le_of_ble_eq_true rfl) dX2_putOne_69 ⟨Nat.zero_le _, Nat.zero_le _⟩ hS (AC_le hS.1) (fun H locs hP hS hk1 => ?_)
        refine lv_aload_n hx hb dX2_putOne_72 rfl (lv_at hl 1 rfl) ?_
        refine lv_iload_n hx hb dX2_putOne_73 rfl (lv_at hl 0 rfl) ?_
        refine lv_aload_n hx hb dX2_putOne_74 rfl (lv_at hl 1 rfl) ?_
        refine gfX2_formulas hx hb h_X2 hown hK hP l_f22 dX2_putOne_75 ?_
        refine lv_iload_n hx hb dX2_putOne_78 rfl (lv_at hl 2 rfl) ?_
        obtain ⟨r27, h28, hm⟩ := ok_bind hm
        refine calV_i (As := [.int p1]) (rest := [.int r14, .ref (a 3)]) ⟨hx, hb, hml, hown, hts⟩ (kX1_left l D y a t hI _ s26 p1 r27 h28) (cwV 1 hts (gAV aM_X2_61 aI_X1_left aS_X1_left aN_X1 aC_X1_left) rfl rfl rfl eX1_left ⟨Nat.le_of_ble_eq_true rfl, Nat.le_of_ble_eq_true rfl⟩) (preV_W (ci := 1) (q := (RX1, TX1, 8)) hK hP hF hS rfl (wC_1 y a s26)) rfl hl.1 rfl (Nat.le_of_ble_eq_true rfl) dX2_putOne_79 ⟨Nat.zero_le _, Nat.zero_le _⟩ hS (AC_le hS.1) (fun H locs hP hS hk1 => ?_)
        refine lv_iload_n hx hb dX2_putOne_82 rfl (lv_at hl 3 rfl) ?_
        refine lv_iconst (v := 1) hx hb dX2_putOne_83 (by decide) ?_
        refine lv_iadd hx hb dX2_putOne_84 ?_
        refine lv_iconst (v := 0) hx hb dX2_putOne_85 (by decide) ?_
        obtain ⟨⟨r29, s31⟩, h30, hm⟩ := ok_bind hm
        refine calV_i (As := [.int r14, .int r27, .int (p2 + 1), .int 0]) (rest := []) ⟨hx, hb, hml, hown, hts⟩ (kX2_putPart l D y a t hI _ s26 s31 r14 r27 (p2 + 1) 0 r29 h30) (cwV 4 hts (gAV aM_X2_64 aI_X2_putPart aS_X2_putPart aN_X2 aC_X2_putPart) rfl rfl rfl eX2_putPart ⟨Nat.le_of_ble_eq_true rfl, Nat.le_of_ble_eq_true rfl⟩) (preV_W (ci := 2) (q := (RX2, TX2, 6)) hK hP hF hS rfl (wC_3 y a s26)) rfl hl.1 rfl (Nat.le_of_ble_eq_true rfl) dX2_putOne_86 ⟨Nat.zero_le _, Nat.zero_le _⟩ hS (AC_le hS.1) (fun H locs hP hS hk1 => ?_)
        refine lv_pop hx hb dX2_putOne_89 rfl ?_
        refine lv_goto (tgt := 157) hx hb dX2_putOne_90 (by decide) ?_
        exact W.vret hx hb hr (fun T hT hW => ⟨⟨s31, rfl, Option.some.inj hm, by rw [posW, hT]; exact hP⟩, hS.F hT⟩) hS.2.2 dX2_putOne_157
      · have hm := (if_neg c24).symm.trans hm
        have sc24 := sw_ne (k := 2) c24 rfl
        refine lv_tableOut (tgt := 93) hx hb dX2_putOne_10 (by omega) (by decide) ?_
        refine lv_aload_n hx hb dX2_putOne_93 rfl (lv_at hl 1 rfl) ?_
        refine lv_iload_n hx hb dX2_putOne_94 rfl (lv_at hl 0 rfl) ?_
        refine lv_aload_n hx hb dX2_putOne_95 rfl (lv_at hl 1 rfl) ?_
        refine gfX2_formulas hx hb h_X2 hown hK hP l_f22 dX2_putOne_96 ?_
        refine lv_iload_n hx hb dX2_putOne_99 rfl (lv_at hl 2 rfl) ?_
        obtain ⟨r32, h33, hm⟩ := ok_bind hm
        refine calV_i (As := [.int p1]) (rest := [.int r14, .ref (a 3)]) ⟨hx, hb, hml, hown, hts⟩ (kX1_left l D y a t hI _ σ p1 r32 h33) (cwV 1 hts (gAV aM_X2_61 aI_X1_left aS_X1_left aN_X1 aC_X1_left) rfl rfl rfl eX1_left ⟨Nat.le_of_ble_eq_true rfl, Nat.le_of_ble_eq_true rfl⟩) (preV_W (ci := 1) (q := (RX1, TX1, 8)) hK hP hF hS rfl (wC_1 y a σ)) rfl hl.1 rfl (Nat.le_of_ble_eq_true rfl) dX2_putOne_100 ⟨Nat.zero_le _, Nat.zero_le _⟩ hS (AC_le hS.1) (fun H locs hP hS hk1 => ?_)
        refine lv_iload_n hx hb dX2_putOne_103 rfl (lv_at hl 3 rfl) ?_
        refine lv_iconst (v := 0) hx hb dX2_putOne_104 (by decide) ?_
        obtain ⟨⟨r34, s36⟩, h35, hm⟩ := ok_bind hm
        refine calV_i (As := [.int r14, .int r32, .int p2, .int 0]) (rest := []) ⟨hx, hb, hml, hown, hts⟩ (kX2_putPart l D y a t hI _ σ s36 r14 r32 p2 0 r34 h35) (cwV 4 hts (gAV aM_X2_64 aI_X2_putPart aS_X2_putPart aN_X2 aC_X2_putPart) rfl rfl rfl eX2_putPart ⟨Nat.le_of_ble_eq_true rfl, Nat.le_of_ble_eq_true rfl⟩) (preV_W (ci := 2) (q := (RX2, TX2, 6)) hK hP hF hS rfl (wC_3 y a σ)) rfl hl.1 rfl (Nat.le_of_ble_eq_true rfl) dX2_putOne_105 ⟨Nat.zero_le _, Nat.zero_le _⟩ hS (AC_le hS.1) (fun H locs hP hS hk1 => ?_)
        refine lv_istore (lv' := [(4, .int r34), (3, .int r14), (0, .ref (a 3)), (1, .int p1), (2, .int p2)]) hx hb dX2_putOne_108 hl (by decide) rfl (fun ls hl => ?_)
        refine lv_aload_n hx hb dX2_putOne_110 rfl (lv_at hl 2 rfl) ?_
        refine lv_iload hx hb dX2_putOne_111 (lv_at hl 0 rfl) ?_
        refine lv_iload_n hx hb dX2_putOne_113 rfl (lv_at hl 1 rfl) ?_
        refine lv_iconst (v := 3) hx hb dX2_putOne_114 (by decide) ?_
        refine lv_icmp_ne (tgt := 123) hx hb dX2_putOne_115 (by decide) (fun c37 => ?_) (fun c37 => ?_)
        · have hm := (if_neg c37).symm.trans hm
          refine lv_iload_n hx hb dX2_putOne_123 rfl (lv_at hl 1 rfl) ?_
          refine lv_iconst (v := 4) hx hb dX2_putOne_124 (by decide) ?_
          refine lv_icmp_ne (tgt := 133) hx hb dX2_putOne_125 (by decide) (fun c38 => ?_) (fun c38 => ?_)
          · have hm := (if_neg c38).symm.trans hm
            refine lv_bipush (v := 62) hx hb dX2_putOne_133 (by decide) ?_
            exact L_135 s36 p1 r14 r34 62 r34 _ _ _ hP hS (lv_sub hl [2, 3, 1, 0] rfl) hm
          · have hm := (if_pos c38).symm.trans hm
            refine lv_bipush (v := 124) hx hb dX2_putOne_128 (by decide) ?_
            refine lv_goto (tgt := 135) hx hb dX2_putOne_130 (by decide) ?_
            exact L_135 s36 p1 r14 r34 124 r34 _ _ _ hP hS (lv_sub hl [2, 3, 1, 0] rfl) hm
        · have hm := (if_pos c37).symm.trans hm
          refine lv_bipush (v := 38) hx hb dX2_putOne_118 (by decide) ?_
          refine lv_goto (tgt := 135) hx hb dX2_putOne_120 (by decide) ?_
          exact L_135 s36 p1 r14 r34 38 r34 _ _ _ hP hS (lv_sub hl [2, 3, 1, 0] rfl) hm
theorem eX2_put : yX2_put.cls = RX2 ∧ yX2_put.cls ≠ "java/lang/invoke/MethodHandle" ∧ yX2_put.cls ≠ "java/lang/invoke/VarHandle" ∧ (parseMethodDescriptor yX2_put.desc).map (fun d => d.parameters.length) = some 1 := by decide +kernel
def bX2_put_31 (kh31 : St → Int32 → Option St) (s2 : St) (v1 : Int32) : Option St :=
if 400 ≤ v1 then (
some s2)
else (
if (s2.1 4 0) ≤ 0 then (
some s2)
else (
bnd (su s2 4 (fun _ => (s2.1 4 0) - 1)) fun s5 =>
chkI (s5.1 4 0) 400 (
chkI (s5.1 4 0) 400 (
(mX2_putOne s5 (s5.1 20 (s5.1 4 0).toNatClampNeg) (s5.1 21 (s5.1 4 0).toNatClampNeg)).bind fun s7 =>
bnd (v1 + 1) fun x8 =>
kh31 s7 x8))))
abbrev mX2_put_31 (n : Nat) : St → Int32 → Option St := fx (fun _ _ => none) (bX2_put_31) n
def mX2_put (σ : St) (p1 : Int32) : Option St :=
(mX1_width σ p1).bind fun r9 =>
bnd (su σ 5 (fun _ => if r9 < (400 : Int32) then r9 else 400)) fun s11 =>
bnd (su s11 4 (fun _ => 0)) fun s12 =>
(mX2_addWaiting s12 p1 0).bind fun s14 =>
mX2_put_31 NF s14 0
set_option maxHeartbeats 4000000 in
set_option maxRecDepth 100000 in
theorem kX2_put (l : Launch) (D : va_G) (y : Nat → ClassId) (a t : Nat → Nat) (hI : AI a 37) (sz : Nat) (σ τ : St) (p1 : Int32) (hm : mX2_put σ p1 = some τ) : Met l yX2_put zX2_put { frames := 3, cells := 0, slots := 0, locals := 71 } (va_Pc [.ref (a 3), .int p1] (preW (wC y a) a 37 D y t σ sz)) (va_Qv (fun u => u = τ) (posW (wC y a) D) (AC a 37 sz)) 0 0 (AC a 37 sz) := by
  refine Met.ofW (cc := cX2_put) (maxL := 3) (ret := none) (by decide) rfl ?_
  intro p e s m args below meth c s₁ B hml hv
  obtain ⟨rfl, hsz, hP, hK, hF⟩ := hv
  have hx := B.exec
  have hb := B.bytes
  have hr := B.returns
  have hts := atoms_spec (ws := zX2_put) B.pre
  have hown : s.vm.findClass RX2 = some m.cls := findClass_of_methodNamed B.named
  have hlocks := B.notSynchronized
  subst hsz
  have l_f22 := hts _ (List.mem_cons_of_mem _ aF_X2_22)
  have l_ml36 := hts _ (List.mem_cons_of_mem _ aM_X2_36)
  have l_msmin := hts _ (List.mem_cons_of_mem _ aT_J9_min_7cf53)
  have l_mi := hts _ (List.mem_cons_of_mem _ aN_J9)
  have l_mcmin := hts _ (List.mem_cons_of_mem _ aC_J9_min_7cf53)
  have l_f26 := hts _ (List.mem_cons_of_mem _ aF_X2_26)
  have l_f42 := hts _ (List.mem_cons_of_mem _ aF_X2_42)
  have l_f15 := hts _ (List.mem_cons_of_mem _ aF_X2_15)
  have l_f19 := hts _ (List.mem_cons_of_mem _ aF_X2_19)
  have h_X2 : ∀ w ∈ wsX20, w.before _ s = true := fun w hw => hts w (List.mem_cons_of_mem _ (hwX2 w hw))
  have hS : va_S (AC a 37 s.heap.size) s.heap s.heap [] := va_S.rf
  have hl := lv_entry ([.ref (a 3), .int p1]) (n := 3) (Nat.le_of_ble_eq_true rfl)
  rw [lg_entry_eq]
  generalize (lg_sl ([.ref (a 3), .int p1]) ++ List.replicate (3 - (lg_sl ([.ref (a 3), .int p1])).length) Slot.unset).toArray = ls at hl ⊢
  have hl : lv_has ls 3 [(0, .ref (a 3)), (1, .int p1)] := hl
  have L_31 : ∀ (n : Nat) (s2 : St) (v1 : Int32) (H : Heap) (locs : List Loc) (ls : Array Slot), va_P D vwCl (wC y a s2) H → va_S (AC a 37 s.heap.size) s.heap H locs → lv_has ls 3 [(0, .ref (a 3)), (2, .int v1)] → mX2_put_31 n s2 v1 = some τ → W p l e (headSpec zX2_put ({ frames := 3, cells := 0, slots := 0, locals := 71 })).room s m ([.ref (a 3), .int p1] : List Value).toArray below meth c H locs 0 0 (MQ below (va_Qv (fun u => u = τ) (posW (wC y a) D) (AC a 37 s.heap.size)) ([.ref (a 3), .int p1] : List Value).toArray s 0 0 (AC a 37 s.heap.size)) (F0 m 31 ls []) := by
    intro n
    induction n with
    | zero =>
      intro s2 v1 H locs ls hP hS hl hm
      exact absurd (show (none : Option St) = some τ from hm) (by intro h; cases h)
    | succ n ih31 =>
      obtain ⟨kh31, ekh31⟩ : ∃ z, z = mX2_put_31 n := ⟨_, rfl⟩
      have ih31 : ∀ (s2 : St) (v1 : Int32) (H : Heap) (locs : List Loc) (ls : Array Slot), va_P D vwCl (wC y a s2) H → va_S (AC a 37 s.heap.size) s.heap H locs → lv_has ls 3 [(0, .ref (a 3)), (2, .int v1)] → kh31 s2 v1 = some τ → W p l e (headSpec zX2_put ({ frames := 3, cells := 0, slots := 0, locals := 71 })).room s m ([.ref (a 3), .int p1] : List Value).toArray below meth c H locs 0 0 (MQ below (va_Qv (fun u => u = τ) (posW (wC y a) D) (AC a 37 s.heap.size)) ([.ref (a 3), .int p1] : List Value).toArray s 0 0 (AC a 37 s.heap.size)) (F0 m 31 ls []) := by rw [ekh31]; exact ih31
      intro s2 v1 H locs ls hP hS hl hm
      have hm : bX2_put_31 (mX2_put_31 n) s2 v1 = some τ := hm
      rw [← ekh31] at hm
      unfold bX2_put_31 at hm
      refine lv_iload_n hx hb dX2_put_31 rfl (lv_at hl 1 rfl) ?_
      refine lv_sipush (v := 400) hx hb dX2_put_32 (by decide) ?_
      refine lv_icmp_ge (tgt := 83) hx hb dX2_put_35 (by decide) (fun c3 => ?_) (fun c3 => ?_)
      · have hm := (if_pos c3).symm.trans hm
        exact W.vret hx hb hr (fun T hT hW => ⟨⟨s2, rfl, Option.some.inj hm, by rw [posW, hT]; exact hP⟩, hS.F hT⟩) hS.2.2 dX2_put_83
      · have hm := (if_neg c3).symm.trans hm
        refine lv_aload_n hx hb dX2_put_38 rfl (lv_at hl 0 rfl) ?_
        refine gfX2_waitingCount hx hb h_X2 hown hK hP l_f42 dX2_put_39 ?_
        refine lv_if_le (tgt := 83) hx hb dX2_put_42 (by decide) (fun c4 => ?_) (fun c4 => ?_)
        · have hm := (if_pos c4).symm.trans hm
          exact W.vret hx hb hr (fun T hT hW => ⟨⟨s2, rfl, Option.some.inj hm, by rw [posW, hT]; exact hP⟩, hS.F hT⟩) hS.2.2 dX2_put_83
        · have hm := (if_neg c4).symm.trans hm
          refine lv_aload_n hx hb dX2_put_45 rfl (lv_at hl 0 rfl) ?_
          refine lv_dup hx hb dX2_put_46 rfl ?_
          refine gfX2_waitingCount hx hb h_X2 hown hK hP l_f42 dX2_put_47 ?_
          refine lv_iconst (v := 1) hx hb dX2_put_50 (by decide) ?_
          refine lv_isub hx hb dX2_put_51 ?_
          refine pfX2_waitingCount hx hb h_X2 hown hK hP hI AC_in hS l_f42 dX2_put_52 (fun H locs hP hS => ?_)
          generalize es5 : su s2 4 (fun _ => (s2.1 4 0) - 1) = s5 at hP
          have hm := bnd_x es5.symm hm
          refine lv_aload_n hx hb dX2_put_55 rfl (lv_at hl 0 rfl) ?_
          refine lv_aload_n hx hb dX2_put_56 rfl (lv_at hl 0 rfl) ?_
          refine gfX2_waiting hx hb h_X2 hown hK hP l_f15 dX2_put_57 ?_
          refine lv_aload_n hx hb dX2_put_60 rfl (lv_at hl 0 rfl) ?_
          refine gfX2_waitingCount hx hb h_X2 hown hK hP l_f42 dX2_put_61 ?_
          obtain ⟨hi, hm⟩ := ok_I hm
          refine ldC_17 hx hb hK hP hi dX2_put_64 ?_
          refine lv_aload_n hx hb dX2_put_65 rfl (lv_at hl 0 rfl) ?_
          refine gfX2_places hx hb h_X2 hown hK hP l_f19 dX2_put_66 ?_
          refine lv_aload_n hx hb dX2_put_69 rfl (lv_at hl 0 rfl) ?_
          refine gfX2_waitingCount hx hb h_X2 hown hK hP l_f42 dX2_put_70 ?_
          obtain ⟨hi, hm⟩ := ok_I hm
          refine ldC_18 hx hb hK hP hi dX2_put_73 ?_
          obtain ⟨s7, h6, hm⟩ := ok_bind hm
          refine calV_v (As := [.int (s5.1 20 (s5.1 4 0).toNatClampNeg), .int (s5.1 21 (s5.1 4 0).toNatClampNeg)]) (rest := []) ⟨hx, hb, hml, hown, hts⟩ (kX2_putOne l D y a t hI _ s5 s7 (s5.1 20 (s5.1 4 0).toNatClampNeg) (s5.1 21 (s5.1 4 0).toNatClampNeg) h6) (cwV 2 hts (gAV aM_X2_49 aI_X2_putOne aS_X2_putOne aN_X2 aC_X2_putOne) rfl rfl rfl eX2_putOne ⟨Nat.le_of_ble_eq_true rfl, Nat.le_of_ble_eq_true rfl⟩) (preV_W (ci := 2) (q := (RX2, TX2, 6)) hK hP hF hS rfl (wC_3 y a s5)) rfl hl.1 rfl (Nat.le_of_ble_eq_true rfl) dX2_put_74 ⟨Nat.zero_le _, Nat.zero_le _⟩ hS (AC_le hS.1) (fun H locs hP hS hk1 => ?_)
          obtain ⟨x8, ex8⟩ : ∃ z : Int32, z = v1 + 1 := ⟨_, rfl⟩
          have hm := bnd_x ex8 hm
          refine lv_iinc (v := x8) (lv' := [(2, .int x8), (0, .ref (a 3))]) hx hb dX2_put_77 hl (k := 1) rfl (by rw [ex8]; rfl) (by decide) rfl (fun ls hl => ?_)
          refine lv_goto (tgt := 31) hx hb dX2_put_80 (by decide) ?_
          exact ih31 s7 x8 _ _ _ hP hS (lv_sub hl [1, 0] rfl) hm
  unfold mX2_put at hm
  refine lv_aload_n hx hb dX2_put_0 rfl (lv_at hl 0 rfl) ?_
  refine lv_sipush (v := 400) hx hb dX2_put_1 (by decide) ?_
  refine lv_aload_n hx hb dX2_put_4 rfl (lv_at hl 0 rfl) ?_
  refine gfX2_formulas hx hb h_X2 hown hK hP l_f22 dX2_put_5 ?_
  refine lv_iload_n hx hb dX2_put_8 rfl (lv_at hl 1 rfl) ?_
  obtain ⟨r9, h10, hm⟩ := ok_bind hm
  refine calV_i (As := [.int p1]) (rest := [.int 400, .ref (a 3)]) ⟨hx, hb, hml, hown, hts⟩ (kX1_width l D y a t hI _ σ p1 r9 h10) (cwV 1 hts (gAV aM_X2_30 aI_X1_width aS_X1_width aN_X1 aC_X1_width) rfl rfl rfl eX1_width ⟨Nat.le_of_ble_eq_true rfl, Nat.le_of_ble_eq_true rfl⟩) (preV_W (ci := 1) (q := (RX1, TX1, 8)) hK hP hF hS rfl (wC_1 y a σ)) rfl hl.1 rfl (Nat.le_of_ble_eq_true rfl) dX2_put_9 ⟨Nat.zero_le _, Nat.zero_le _⟩ hS (AC_le hS.1) (fun H locs hP hS hk1 => ?_)
  refine va_mmin hx hb (hml.trans hl.1.symm) hown l_ml36 l_msmin l_mi l_mcmin (Nat.le_of_ble_eq_true rfl) (Nat.le_of_ble_eq_true rfl) (Nat.zero_le _) (Nat.zero_le _) dX2_put_12 ?_
  refine pfX2_size hx hb h_X2 hown hK hP hI AC_in hS l_f26 dX2_put_15 (fun H locs hP hS => ?_)
  generalize es11 : su σ 5 (fun _ => if r9 < (400 : Int32) then r9 else 400) = s11 at hP
  have hm := bnd_x es11.symm hm
  refine lv_aload_n hx hb dX2_put_18 rfl (lv_at hl 0 rfl) ?_
  refine lv_iconst (v := 0) hx hb dX2_put_19 (by decide) ?_
  refine pfX2_waitingCount hx hb h_X2 hown hK hP hI AC_in hS l_f42 dX2_put_20 (fun H locs hP hS => ?_)
  generalize es12 : su s11 4 (fun _ => 0) = s12 at hP
  have hm := bnd_x es12.symm hm
  refine lv_aload_n hx hb dX2_put_23 rfl (lv_at hl 0 rfl) ?_
  refine lv_iload_n hx hb dX2_put_24 rfl (lv_at hl 1 rfl) ?_
  refine lv_iconst (v := 0) hx hb dX2_put_25 (by decide) ?_
  obtain ⟨s14, h13, hm⟩ := ok_bind hm
  refine calV_v (As := [.int p1, .int 0]) (rest := []) ⟨hx, hb, hml, hown, hts⟩ (kX2_addWaiting l D y a t hI _ s12 s14 p1 0 h13) (cwV 2 hts (gAV aM_X2_45 aI_X2_addWaiting aS_X2_addWaiting aN_X2 aC_X2_addWaiting) rfl rfl rfl eX2_addWaiting ⟨Nat.le_of_ble_eq_true rfl, Nat.le_of_ble_eq_true rfl⟩) (preV_W (ci := 2) (q := (RX2, TX2, 6)) hK hP hF hS rfl (wC_3 y a s12)) rfl hl.1 rfl (Nat.le_of_ble_eq_true rfl) dX2_put_26 ⟨Nat.zero_le _, Nat.zero_le _⟩ hS (AC_le hS.1) (fun H locs hP hS hk1 => ?_)
  refine lv_iconst (v := 0) hx hb dX2_put_29 (by decide) ?_
  refine lv_istore_n (lv' := [(2, .int 0), (0, .ref (a 3)), (1, .int p1)]) hx hb dX2_put_30 rfl hl (by decide) rfl (fun ls hl => ?_)
  exact L_31 NF s14 0 _ _ _ hP hS (lv_sub hl [1, 0] rfl) hm
theorem eX5_size : yX5_size.cls = RX5 ∧ yX5_size.cls ≠ "java/lang/invoke/MethodHandle" ∧ yX5_size.cls ≠ "java/lang/invoke/VarHandle" ∧ (parseMethodDescriptor yX5_size.desc).map (fun d => d.parameters.length) = some 0 := by decide +kernel
def mX5_size (σ : St) : Option Int32 :=
some (σ.1 1 0)
set_option maxHeartbeats 4000000 in
set_option maxRecDepth 100000 in
theorem kX5_size (l : Launch) (D : va_G) (y : Nat → ClassId) (a t : Nat → Nat) (hI : AI a 37) (sz : Nat) (σ : St) (r : Int32) (hm : mX5_size σ = some r) : Met l yX5_size zX5_size { frames := 0, cells := 0, slots := 0, locals := 0 } (va_Pc [.ref (a 2)] (preW (wC y a) a 37 D y t σ sz)) (va_Qi (fun r' u => r' = r ∧ u = σ) (posW (wC y a) D) (AC a 37 sz)) 0 0 (AC a 37 sz) := by
  refine Met.ofW (cc := cX5_size) (maxL := 1) (ret := (some .int)) (by decide) rfl ?_
  intro p e s m args below meth c s₁ B hml hv
  obtain ⟨rfl, hsz, hP, hK, hF⟩ := hv
  have hx := B.exec
  have hb := B.bytes
  have hr := B.returns
  have hts := atoms_spec (ws := zX5_size) B.pre
  have hown : s.vm.findClass RX5 = some m.cls := findClass_of_methodNamed B.named
  have hlocks := B.notSynchronized
  subst hsz
  have l_f23 := hts _ (List.mem_cons_of_mem _ aF_X5_23)
  have h_X5 : ∀ w ∈ wsX50, w.before _ s = true := fun w hw => hts w (List.mem_cons_of_mem _ (hwX5 w hw))
  have hS : va_S (AC a 37 s.heap.size) s.heap s.heap [] := va_S.rf
  have hl := lv_entry ([.ref (a 2)]) (n := 1) (Nat.le_of_ble_eq_true rfl)
  rw [lg_entry_eq]
  generalize (lg_sl ([.ref (a 2)]) ++ List.replicate (1 - (lg_sl ([.ref (a 2)])).length) Slot.unset).toArray = ls at hl ⊢
  have hl : lv_has ls 1 [(0, .ref (a 2))] := hl
  unfold mX5_size at hm
  refine lv_aload_n hx hb dX5_size_0 rfl (lv_at hl 0 rfl) ?_
  refine gfX5_size hx hb h_X5 hown hK hP l_f23 dX5_size_1 ?_
  exact W.iret (v := σ.1 1 0) hx hb hr (fun T hT hW => ⟨⟨σ.1 1 0, σ, rfl, ⟨Option.some.inj hm, rfl⟩, by rw [posW, hT]; exact hP⟩, hS.F hT⟩) hS.2.2 dX5_size_4
theorem eX5_error : yX5_error.cls = RX5 ∧ yX5_error.cls ≠ "java/lang/invoke/MethodHandle" ∧ yX5_error.cls ≠ "java/lang/invoke/VarHandle" ∧ (parseMethodDescriptor yX5_error.desc).map (fun d => d.parameters.length) = some 0 := by decide +kernel
def mX5_error (σ : St) : Option Int32 :=
some (σ.1 3 0)
set_option maxHeartbeats 4000000 in
set_option maxRecDepth 100000 in
theorem kX5_error (l : Launch) (D : va_G) (y : Nat → ClassId) (a t : Nat → Nat) (hI : AI a 37) (sz : Nat) (σ : St) (r : Int32) (hm : mX5_error σ = some r) : Met l yX5_error zX5_error { frames := 0, cells := 0, slots := 0, locals := 0 } (va_Pc [.ref (a 2)] (preW (wC y a) a 37 D y t σ sz)) (va_Qi (fun r' u => r' = r ∧ u = σ) (posW (wC y a) D) (AC a 37 sz)) 0 0 (AC a 37 sz) := by
  refine Met.ofW (cc := cX5_error) (maxL := 1) (ret := (some .int)) (by decide) rfl ?_
  intro p e s m args below meth c s₁ B hml hv
  obtain ⟨rfl, hsz, hP, hK, hF⟩ := hv
  have hx := B.exec
  have hb := B.bytes
  have hr := B.returns
  have hts := atoms_spec (ws := zX5_error) B.pre
  have hown : s.vm.findClass RX5 = some m.cls := findClass_of_methodNamed B.named
  have hlocks := B.notSynchronized
  subst hsz
  have l_f15 := hts _ (List.mem_cons_of_mem _ aF_X5_15)
  have h_X5 : ∀ w ∈ wsX50, w.before _ s = true := fun w hw => hts w (List.mem_cons_of_mem _ (hwX5 w hw))
  have hS : va_S (AC a 37 s.heap.size) s.heap s.heap [] := va_S.rf
  have hl := lv_entry ([.ref (a 2)]) (n := 1) (Nat.le_of_ble_eq_true rfl)
  rw [lg_entry_eq]
  generalize (lg_sl ([.ref (a 2)]) ++ List.replicate (1 - (lg_sl ([.ref (a 2)])).length) Slot.unset).toArray = ls at hl ⊢
  have hl : lv_has ls 1 [(0, .ref (a 2))] := hl
  unfold mX5_error at hm
  refine lv_aload_n hx hb dX5_error_0 rfl (lv_at hl 0 rfl) ?_
  refine gfX5_error hx hb h_X5 hown hK hP l_f15 dX5_error_1 ?_
  exact W.iret (v := σ.1 3 0) hx hb hr (fun T hT hW => ⟨⟨σ.1 3 0, σ, rfl, ⟨Option.some.inj hm, rfl⟩, by rw [posW, hT]; exact hP⟩, hS.F hT⟩) hS.2.2 dX5_error_4
theorem eX5_append : yX5_append.cls = RX5 ∧ yX5_append.cls ≠ "java/lang/invoke/MethodHandle" ∧ yX5_append.cls ≠ "java/lang/invoke/VarHandle" ∧ (parseMethodDescriptor yX5_append.desc).map (fun d => d.parameters.length) = some 1 := by decide +kernel
def mX5_append_47 (kh3 : St → Int32 → Int32 → Option St) (s3 : St) (v1 : Int32) (v2 : Int32) : Option St :=
bnd (v2 + (-8)) fun x4 =>
kh3 s3 v1 x4
def bX5_append_3 (kh3 : St → Int32 → Int32 → Option St) (s7 : St) (v5 : Int32) (v6 : Int32) : Option St :=
if v6 < 0 then (
some s7)
else (
if (s7.1 1 0) < 0 then (
mX5_append_47 kh3 s7 v5 v6)
else (
if 400 ≤ (s7.1 1 0) then (
mX5_append_47 kh3 s7 v5 v6)
else (
chkI (s7.1 1 0) 400 (
bnd (su s7 18 (upd (s7.1 18) (s7.1 1 0).toNatClampNeg (vp_nar .byte ((v5 >>> (v6 &&& 31)).toInt8.toInt32)))) fun s11 =>
bnd (su s11 1 (fun _ => (s11.1 1 0) + 1)) fun s12 =>
mX5_append_47 kh3 s12 v5 v6))))
abbrev mX5_append_3 (n : Nat) : St → Int32 → Int32 → Option St := fx (fun _ _ _ => none) (bX5_append_3) n
def mX5_append (σ : St) (p1 : Int32) : Option St :=
mX5_append_3 NF σ p1 24
set_option maxHeartbeats 4000000 in
set_option maxRecDepth 100000 in
theorem kX5_append (l : Launch) (D : va_G) (y : Nat → ClassId) (a t : Nat → Nat) (hI : AI a 37) (sz : Nat) (σ τ : St) (p1 : Int32) (hm : mX5_append σ p1 = some τ) : Met l yX5_append zX5_append { frames := 0, cells := 0, slots := 0, locals := 0 } (va_Pc [.ref (a 2), .int p1] (preW (wC y a) a 37 D y t σ sz)) (va_Qv (fun u => u = τ) (posW (wC y a) D) (AC a 37 sz)) 0 0 (AC a 37 sz) := by
  refine Met.ofW (cc := cX5_append) (maxL := 3) (ret := none) (by decide) rfl ?_
  intro p e s m args below meth c s₁ B hml hv
  obtain ⟨rfl, hsz, hP, hK, hF⟩ := hv
  have hx := B.exec
  have hb := B.bytes
  have hr := B.returns
  have hts := atoms_spec (ws := zX5_append) B.pre
  have hown : s.vm.findClass RX5 = some m.cls := findClass_of_methodNamed B.named
  have hlocks := B.notSynchronized
  subst hsz
  have l_f23 := hts _ (List.mem_cons_of_mem _ aF_X5_23)
  have l_f9 := hts _ (List.mem_cons_of_mem _ aF_X5_9)
  have h_X5 : ∀ w ∈ wsX50, w.before _ s = true := fun w hw => hts w (List.mem_cons_of_mem _ (hwX5 w hw))
  have hS : va_S (AC a 37 s.heap.size) s.heap s.heap [] := va_S.rf
  have hl := lv_entry ([.ref (a 2), .int p1]) (n := 3) (Nat.le_of_ble_eq_true rfl)
  rw [lg_entry_eq]
  generalize (lg_sl ([.ref (a 2), .int p1]) ++ List.replicate (3 - (lg_sl ([.ref (a 2), .int p1])).length) Slot.unset).toArray = ls at hl ⊢
  have hl : lv_has ls 3 [(0, .ref (a 2)), (1, .int p1)] := hl
  have L_3 : ∀ (n : Nat) (s7 : St) (v5 : Int32) (v6 : Int32) (H : Heap) (locs : List Loc) (ls : Array Slot), va_P D vwCl (wC y a s7) H → va_S (AC a 37 s.heap.size) s.heap H locs → lv_has ls 3 [(0, .ref (a 2)), (1, .int v5), (2, .int v6)] → mX5_append_3 n s7 v5 v6 = some τ → W p l e (headSpec zX5_append ({ frames := 0, cells := 0, slots := 0, locals := 0 })).room s m ([.ref (a 2), .int p1] : List Value).toArray below meth c H locs 0 0 (MQ below (va_Qv (fun u => u = τ) (posW (wC y a) D) (AC a 37 s.heap.size)) ([.ref (a 2), .int p1] : List Value).toArray s 0 0 (AC a 37 s.heap.size)) (F0 m 3 ls []) := by
    intro n
    induction n with
    | zero =>
      intro s7 v5 v6 H locs ls hP hS hl hm
      exact absurd (show (none : Option St) = some τ from hm) (by intro h; cases h)
    | succ n ih3 =>
      obtain ⟨kh3, ekh3⟩ : ∃ z, z = mX5_append_3 n := ⟨_, rfl⟩
      have ih3 : ∀ (s7 : St) (v5 : Int32) (v6 : Int32) (H : Heap) (locs : List Loc) (ls : Array Slot), va_P D vwCl (wC y a s7) H → va_S (AC a 37 s.heap.size) s.heap H locs → lv_has ls 3 [(0, .ref (a 2)), (1, .int v5), (2, .int v6)] → kh3 s7 v5 v6 = some τ → W p l e (headSpec zX5_append ({ frames := 0, cells := 0, slots := 0, locals := 0 })).room s m ([.ref (a 2), .int p1] : List Value).toArray below meth c H locs 0 0 (MQ below (va_Qv (fun u => u = τ) (posW (wC y a) D) (AC a 37 s.heap.size)) ([.ref (a 2), .int p1] : List Value).toArray s 0 0 (AC a 37 s.heap.size)) (F0 m 3 ls []) := by rw [ekh3]; exact ih3
      have L_47 : ∀ (s3 : St) (v1 : Int32) (v2 : Int32) (H : Heap) (locs : List Loc) (ls : Array Slot), va_P D vwCl (wC y a s3) H → va_S (AC a 37 s.heap.size) s.heap H locs → lv_has ls 3 [(0, .ref (a 2)), (1, .int v1), (2, .int v2)] → mX5_append_47 kh3 s3 v1 v2 = some τ → W p l e (headSpec zX5_append ({ frames := 0, cells := 0, slots := 0, locals := 0 })).room s m ([.ref (a 2), .int p1] : List Value).toArray below meth c H locs 0 0 (MQ below (va_Qv (fun u => u = τ) (posW (wC y a) D) (AC a 37 s.heap.size)) ([.ref (a 2), .int p1] : List Value).toArray s 0 0 (AC a 37 s.heap.size)) (F0 m 47 ls []) := by
        intro s3 v1 v2 H locs ls hP hS hl hm
        unfold mX5_append_47 at hm
        obtain ⟨x4, ex4⟩ : ∃ z : Int32, z = v2 + (-8) := ⟨_, rfl⟩
        have hm := bnd_x ex4 hm
        refine lv_iinc (v := x4) (lv' := [(2, .int x4), (0, .ref (a 2)), (1, .int v1)]) hx hb dX5_append_47 hl (k := 2) rfl (by rw [ex4]; rfl) (by decide) rfl (fun ls hl => ?_)
        refine lv_goto (tgt := 3) hx hb dX5_append_50 (by decide) ?_
        exact ih3 s3 v1 x4 _ _ _ hP hS (lv_sub hl [1, 2, 0] rfl) hm
      intro s7 v5 v6 H locs ls hP hS hl hm
      have hm : bX5_append_3 (mX5_append_3 n) s7 v5 v6 = some τ := hm
      rw [← ekh3] at hm
      unfold bX5_append_3 at hm
      refine lv_iload_n hx hb dX5_append_3 rfl (lv_at hl 2 rfl) ?_
      refine lv_if_lt (tgt := 53) hx hb dX5_append_4 (by decide) (fun c8 => ?_) (fun c8 => ?_)
      · have hm := (if_pos c8).symm.trans hm
        exact W.vret hx hb hr (fun T hT hW => ⟨⟨s7, rfl, Option.some.inj hm, by rw [posW, hT]; exact hP⟩, hS.F hT⟩) hS.2.2 dX5_append_53
      · have hm := (if_neg c8).symm.trans hm
        refine lv_aload_n hx hb dX5_append_7 rfl (lv_at hl 0 rfl) ?_
        refine gfX5_size hx hb h_X5 hown hK hP l_f23 dX5_append_8 ?_
        refine lv_if_lt (tgt := 47) hx hb dX5_append_11 (by decide) (fun c9 => ?_) (fun c9 => ?_)
        · have hm := (if_pos c9).symm.trans hm
          exact L_47 s7 v5 v6 _ _ _ hP hS (lv_sub hl [0, 1, 2] rfl) hm
        · have hm := (if_neg c9).symm.trans hm
          refine lv_aload_n hx hb dX5_append_14 rfl (lv_at hl 0 rfl) ?_
          refine gfX5_size hx hb h_X5 hown hK hP l_f23 dX5_append_15 ?_
          refine lv_sipush (v := 400) hx hb dX5_append_18 (by decide) ?_
          refine lv_icmp_ge (tgt := 47) hx hb dX5_append_21 (by decide) (fun c10 => ?_) (fun c10 => ?_)
          · have hm := (if_pos c10).symm.trans hm
            exact L_47 s7 v5 v6 _ _ _ hP hS (lv_sub hl [0, 1, 2] rfl) hm
          · have hm := (if_neg c10).symm.trans hm
            refine lv_aload_n hx hb dX5_append_24 rfl (lv_at hl 0 rfl) ?_
            refine gfX5_bytes hx hb h_X5 hown hK hP l_f9 dX5_append_25 ?_
            refine lv_aload_n hx hb dX5_append_28 rfl (lv_at hl 0 rfl) ?_
            refine gfX5_size hx hb h_X5 hown hK hP l_f23 dX5_append_29 ?_
            refine lv_iload_n hx hb dX5_append_32 rfl (lv_at hl 1 rfl) ?_
            refine lv_iload_n hx hb dX5_append_33 rfl (lv_at hl 2 rfl) ?_
            refine lv_ishr hx hb dX5_append_34 ?_
            refine lv_i2b (v := (v5 >>> (v6 &&& 31)).toInt8.toInt32) hx hb dX5_append_35 rfl ?_
            obtain ⟨hi, hm⟩ := ok_I hm
            refine stC_15 hx hb hK hP hI AC_in hS hi dX5_append_36 (fun H locs hP hS => ?_)
            generalize es11 : su s7 18 (upd (s7.1 18) (s7.1 1 0).toNatClampNeg (vp_nar .byte ((v5 >>> (v6 &&& 31)).toInt8.toInt32))) = s11 at hP
            have hm := bnd_x es11.symm hm
            refine lv_aload_n hx hb dX5_append_37 rfl (lv_at hl 0 rfl) ?_
            refine lv_dup hx hb dX5_append_38 rfl ?_
            refine gfX5_size hx hb h_X5 hown hK hP l_f23 dX5_append_39 ?_
            refine lv_iconst (v := 1) hx hb dX5_append_42 (by decide) ?_
            refine lv_iadd hx hb dX5_append_43 ?_
            refine pfX5_size hx hb h_X5 hown hK hP hI AC_in hS l_f23 dX5_append_44 (fun H locs hP hS => ?_)
            generalize es12 : su s11 1 (fun _ => (s11.1 1 0) + 1) = s12 at hP
            have hm := bnd_x es12.symm hm
            exact L_47 s12 v5 v6 _ _ _ hP hS (lv_sub hl [0, 1, 2] rfl) hm
  unfold mX5_append at hm
  refine lv_bipush (v := 24) hx hb dX5_append_0 (by decide) ?_
  refine lv_istore_n (lv' := [(2, .int 24), (0, .ref (a 2)), (1, .int p1)]) hx hb dX5_append_2 rfl hl (by decide) rfl (fun ls hl => ?_)
  exact L_3 NF σ p1 24 _ _ _ hP hS (lv_sub hl [1, 2, 0] rfl) hm
theorem eX5_shorten : yX5_shorten.cls = RX5 ∧ yX5_shorten.cls ≠ "java/lang/invoke/MethodHandle" ∧ yX5_shorten.cls ≠ "java/lang/invoke/VarHandle" ∧ (parseMethodDescriptor yX5_shorten.desc).map (fun d => d.parameters.length) = some 1 := by decide +kernel
def mX5_shorten (σ : St) (p1 : Int32) : Option St :=
if p1 < 0 then (
some σ)
else (
if (σ.1 1 0) ≤ p1 then (
some σ)
else (
bnd (su σ 1 (fun _ => p1)) fun s3 =>
some s3))
set_option maxHeartbeats 4000000 in
set_option maxRecDepth 100000 in
theorem kX5_shorten (l : Launch) (D : va_G) (y : Nat → ClassId) (a t : Nat → Nat) (hI : AI a 37) (sz : Nat) (σ τ : St) (p1 : Int32) (hm : mX5_shorten σ p1 = some τ) : Met l yX5_shorten zX5_shorten { frames := 0, cells := 0, slots := 0, locals := 0 } (va_Pc [.ref (a 2), .int p1] (preW (wC y a) a 37 D y t σ sz)) (va_Qv (fun u => u = τ) (posW (wC y a) D) (AC a 37 sz)) 0 0 (AC a 37 sz) := by
  refine Met.ofW (cc := cX5_shorten) (maxL := 2) (ret := none) (by decide) rfl ?_
  intro p e s m args below meth c s₁ B hml hv
  obtain ⟨rfl, hsz, hP, hK, hF⟩ := hv
  have hx := B.exec
  have hb := B.bytes
  have hr := B.returns
  have hts := atoms_spec (ws := zX5_shorten) B.pre
  have hown : s.vm.findClass RX5 = some m.cls := findClass_of_methodNamed B.named
  have hlocks := B.notSynchronized
  subst hsz
  have l_f23 := hts _ (List.mem_cons_of_mem _ aF_X5_23)
  have h_X5 : ∀ w ∈ wsX50, w.before _ s = true := fun w hw => hts w (List.mem_cons_of_mem _ (hwX5 w hw))
  have hS : va_S (AC a 37 s.heap.size) s.heap s.heap [] := va_S.rf
  have hl := lv_entry ([.ref (a 2), .int p1]) (n := 2) (Nat.le_of_ble_eq_true rfl)
  rw [lg_entry_eq]
  generalize (lg_sl ([.ref (a 2), .int p1]) ++ List.replicate (2 - (lg_sl ([.ref (a 2), .int p1])).length) Slot.unset).toArray = ls at hl ⊢
  have hl : lv_has ls 2 [(0, .ref (a 2)), (1, .int p1)] := hl
  unfold mX5_shorten at hm
  refine lv_iload_n hx hb dX5_shorten_0 rfl (lv_at hl 1 rfl) ?_
  refine lv_if_lt (tgt := 17) hx hb dX5_shorten_1 (by decide) (fun c1 => ?_) (fun c1 => ?_)
  · have hm := (if_pos c1).symm.trans hm
    exact W.vret hx hb hr (fun T hT hW => ⟨⟨σ, rfl, Option.some.inj hm, by rw [posW, hT]; exact hP⟩, hS.F hT⟩) hS.2.2 dX5_shorten_17
  · have hm := (if_neg c1).symm.trans hm
    refine lv_iload_n hx hb dX5_shorten_4 rfl (lv_at hl 1 rfl) ?_
    refine lv_aload_n hx hb dX5_shorten_5 rfl (lv_at hl 0 rfl) ?_
    refine gfX5_size hx hb h_X5 hown hK hP l_f23 dX5_shorten_6 ?_
    refine lv_icmp_ge (tgt := 17) hx hb dX5_shorten_9 (by decide) (fun c2 => ?_) (fun c2 => ?_)
    · have hm := (if_pos c2).symm.trans hm
      exact W.vret hx hb hr (fun T hT hW => ⟨⟨σ, rfl, Option.some.inj hm, by rw [posW, hT]; exact hP⟩, hS.F hT⟩) hS.2.2 dX5_shorten_17
    · have hm := (if_neg c2).symm.trans hm
      refine lv_aload_n hx hb dX5_shorten_12 rfl (lv_at hl 0 rfl) ?_
      refine lv_iload_n hx hb dX5_shorten_13 rfl (lv_at hl 1 rfl) ?_
      refine pfX5_size hx hb h_X5 hown hK hP hI AC_in hS l_f23 dX5_shorten_14 (fun H locs hP hS => ?_)
      generalize es3 : su σ 1 (fun _ => p1) = s3 at hP
      have hm := bnd_x es3.symm hm
      exact W.vret hx hb hr (fun T hT hW => ⟨⟨s3, rfl, Option.some.inj hm, by rw [posW, hT]; exact hP⟩, hS.F hT⟩) hS.2.2 dX5_shorten_17
theorem eX5_next : yX5_next.cls = RX5 ∧ yX5_next.cls ≠ "java/lang/invoke/MethodHandle" ∧ yX5_next.cls ≠ "java/lang/invoke/VarHandle" ∧ (parseMethodDescriptor yX5_next.desc).map (fun d => d.parameters.length) = some 0 := by decide +kernel
def mX5_next_38 (s1 : St) : Option (Int32 × St) :=
if (s1.1 1 0) ≤ (s1.1 2 0) then (
some ((-1), s1))
else (
chkI (s1.1 2 0) 400 (
some ((s1.1 18 (s1.1 2 0).toNatClampNeg) &&& 255, s1)))
def bX5_next_0 (kh0 : St → Option (Int32 × St)) (s3 : St) : Option (Int32 × St) :=
if (s3.1 1 0) ≤ (s3.1 2 0) then (
mX5_next_38 s3)
else (
chkI (s3.1 2 0) 400 (
if (s3.1 18 (s3.1 2 0).toNatClampNeg) = 32 then (
bnd (su s3 2 (fun _ => (s3.1 2 0) + 1)) fun s6 =>
kh0 s6)
else (
mX5_next_38 s3)))
abbrev mX5_next_0 (n : Nat) : St → Option (Int32 × St) := fx (fun _ => none) (bX5_next_0) n
def mX5_next (σ : St) : Option (Int32 × St) :=
mX5_next_0 NF σ
set_option maxHeartbeats 4000000 in
set_option maxRecDepth 100000 in
theorem kX5_next (l : Launch) (D : va_G) (y : Nat → ClassId) (a t : Nat → Nat) (hI : AI a 37) (sz : Nat) (σ τ : St) (r : Int32) (hm : mX5_next σ = some (r, τ)) : Met l yX5_next zX5_next { frames := 0, cells := 0, slots := 0, locals := 0 } (va_Pc [.ref (a 2)] (preW (wC y a) a 37 D y t σ sz)) (va_Qi (fun r' u => r' = r ∧ u = τ) (posW (wC y a) D) (AC a 37 sz)) 0 0 (AC a 37 sz) := by
  refine Met.ofW (cc := cX5_next) (maxL := 1) (ret := (some .int)) (by decide) rfl ?_
  intro p e s m args below meth c s₁ B hml hv
  obtain ⟨rfl, hsz, hP, hK, hF⟩ := hv
  have hx := B.exec
  have hb := B.bytes
  have hr := B.returns
  have hts := atoms_spec (ws := zX5_next) B.pre
  have hown : s.vm.findClass RX5 = some m.cls := findClass_of_methodNamed B.named
  have hlocks := B.notSynchronized
  subst hsz
  have l_f32 := hts _ (List.mem_cons_of_mem _ aF_X5_32)
  have l_f23 := hts _ (List.mem_cons_of_mem _ aF_X5_23)
  have l_f9 := hts _ (List.mem_cons_of_mem _ aF_X5_9)
  have h_X5 : ∀ w ∈ wsX50, w.before _ s = true := fun w hw => hts w (List.mem_cons_of_mem _ (hwX5 w hw))
  have hS : va_S (AC a 37 s.heap.size) s.heap s.heap [] := va_S.rf
  have hl := lv_entry ([.ref (a 2)]) (n := 1) (Nat.le_of_ble_eq_true rfl)
  rw [lg_entry_eq]
  generalize (lg_sl ([.ref (a 2)]) ++ List.replicate (1 - (lg_sl ([.ref (a 2)])).length) Slot.unset).toArray = ls at hl ⊢
  have hl : lv_has ls 1 [(0, .ref (a 2))] := hl
  have L_38 : ∀ (s1 : St) (H : Heap) (locs : List Loc) (ls : Array Slot), va_P D vwCl (wC y a s1) H → va_S (AC a 37 s.heap.size) s.heap H locs → lv_has ls 1 [(0, .ref (a 2))] → mX5_next_38 s1 = some (r, τ) → W p l e (headSpec zX5_next ({ frames := 0, cells := 0, slots := 0, locals := 0 })).room s m ([.ref (a 2)] : List Value).toArray below meth c H locs 0 0 (MQ below (va_Qi (fun r' u => r' = r ∧ u = τ) (posW (wC y a) D) (AC a 37 s.heap.size)) ([.ref (a 2)] : List Value).toArray s 0 0 (AC a 37 s.heap.size)) (F0 m 38 ls []) := by
    intro s1 H locs ls hP hS hl hm
    unfold mX5_next_38 at hm
    refine lv_aload_n hx hb dX5_next_38 rfl (lv_at hl 0 rfl) ?_
    refine gfX5_at hx hb h_X5 hown hK hP l_f32 dX5_next_39 ?_
    refine lv_aload_n hx hb dX5_next_42 rfl (lv_at hl 0 rfl) ?_
    refine gfX5_size hx hb h_X5 hown hK hP l_f23 dX5_next_43 ?_
    refine lv_icmp_ge (tgt := 65) hx hb dX5_next_46 (by decide) (fun c2 => ?_) (fun c2 => ?_)
    · have hm := (if_pos c2).symm.trans hm
      refine lv_iconst (v := (-1)) hx hb dX5_next_65 (by decide) ?_
      exact W.iret (v := (-1)) hx hb hr (fun T hT hW => ⟨⟨(-1), s1, rfl, ⟨congrArg Prod.fst (Option.some.inj hm), congrArg Prod.snd (Option.some.inj hm)⟩, by rw [posW, hT]; exact hP⟩, hS.F hT⟩) hS.2.2 dX5_next_66
    · have hm := (if_neg c2).symm.trans hm
      refine lv_aload_n hx hb dX5_next_49 rfl (lv_at hl 0 rfl) ?_
      refine gfX5_bytes hx hb h_X5 hown hK hP l_f9 dX5_next_50 ?_
      refine lv_aload_n hx hb dX5_next_53 rfl (lv_at hl 0 rfl) ?_
      refine gfX5_at hx hb h_X5 hown hK hP l_f32 dX5_next_54 ?_
      obtain ⟨hi, hm⟩ := ok_I hm
      refine ldC_15 hx hb hK hP hi dX5_next_57 ?_
      refine lv_sipush (v := 255) hx hb dX5_next_58 (by decide) ?_
      refine lv_iand hx hb dX5_next_61 ?_
      refine lv_goto (tgt := 66) hx hb dX5_next_62 (by decide) ?_
      exact W.iret (v := (s1.1 18 (s1.1 2 0).toNatClampNeg) &&& 255) hx hb hr (fun T hT hW => ⟨⟨(s1.1 18 (s1.1 2 0).toNatClampNeg) &&& 255, s1, rfl, ⟨congrArg Prod.fst (Option.some.inj hm), congrArg Prod.snd (Option.some.inj hm)⟩, by rw [posW, hT]; exact hP⟩, hS.F hT⟩) hS.2.2 dX5_next_66
  have L_0 : ∀ (n : Nat) (s3 : St) (H : Heap) (locs : List Loc) (ls : Array Slot), va_P D vwCl (wC y a s3) H → va_S (AC a 37 s.heap.size) s.heap H locs → lv_has ls 1 [(0, .ref (a 2))] → mX5_next_0 n s3 = some (r, τ) → W p l e (headSpec zX5_next ({ frames := 0, cells := 0, slots := 0, locals := 0 })).room s m ([.ref (a 2)] : List Value).toArray below meth c H locs 0 0 (MQ below (va_Qi (fun r' u => r' = r ∧ u = τ) (posW (wC y a) D) (AC a 37 s.heap.size)) ([.ref (a 2)] : List Value).toArray s 0 0 (AC a 37 s.heap.size)) (F0 m 0 ls []) := by
    intro n
    induction n with
    | zero =>
      intro s3 H locs ls hP hS hl hm
      exact absurd (show (none : Option (Int32 × St)) = some (r, τ) from hm) (by intro h; cases h)
    | succ n ih0 =>
      obtain ⟨kh0, ekh0⟩ : ∃ z, z = mX5_next_0 n := ⟨_, rfl⟩
      have ih0 : ∀ (s3 : St) (H : Heap) (locs : List Loc) (ls : Array Slot), va_P D vwCl (wC y a s3) H → va_S (AC a 37 s.heap.size) s.heap H locs → lv_has ls 1 [(0, .ref (a 2))] → kh0 s3 = some (r, τ) → W p l e (headSpec zX5_next ({ frames := 0, cells := 0, slots := 0, locals := 0 })).room s m ([.ref (a 2)] : List Value).toArray below meth c H locs 0 0 (MQ below (va_Qi (fun r' u => r' = r ∧ u = τ) (posW (wC y a) D) (AC a 37 s.heap.size)) ([.ref (a 2)] : List Value).toArray s 0 0 (AC a 37 s.heap.size)) (F0 m 0 ls []) := by rw [ekh0]; exact ih0
      intro s3 H locs ls hP hS hl hm
      have hm : bX5_next_0 (mX5_next_0 n) s3 = some (r, τ) := hm
      rw [← ekh0] at hm
      unfold bX5_next_0 at hm
      refine lv_aload_n hx hb dX5_next_0 rfl (lv_at hl 0 rfl) ?_
      refine gfX5_at hx hb h_X5 hown hK hP l_f32 dX5_next_1 ?_
      refine lv_aload_n hx hb dX5_next_4 rfl (lv_at hl 0 rfl) ?_
      refine gfX5_size hx hb h_X5 hown hK hP l_f23 dX5_next_5 ?_
      refine lv_icmp_ge (tgt := 38) hx hb dX5_next_8 (by decide) (fun c4 => ?_) (fun c4 => ?_)
      · have hm := (if_pos c4).symm.trans hm
        exact L_38 s3 _ _ _ hP hS (lv_sub hl [0] rfl) hm
      · have hm := (if_neg c4).symm.trans hm
        refine lv_aload_n hx hb dX5_next_11 rfl (lv_at hl 0 rfl) ?_
        refine gfX5_bytes hx hb h_X5 hown hK hP l_f9 dX5_next_12 ?_
        refine lv_aload_n hx hb dX5_next_15 rfl (lv_at hl 0 rfl) ?_
        refine gfX5_at hx hb h_X5 hown hK hP l_f32 dX5_next_16 ?_
        obtain ⟨hi, hm⟩ := ok_I hm
        refine ldC_15 hx hb hK hP hi dX5_next_19 ?_
        refine lv_bipush (v := 32) hx hb dX5_next_20 (by decide) ?_
        refine lv_icmp_ne (tgt := 38) hx hb dX5_next_22 (by decide) (fun c5 => ?_) (fun c5 => ?_)
        · have hm := (if_neg c5).symm.trans hm
          exact L_38 s3 _ _ _ hP hS (lv_sub hl [0] rfl) hm
        · have hm := (if_pos c5).symm.trans hm
          refine lv_aload_n hx hb dX5_next_25 rfl (lv_at hl 0 rfl) ?_
          refine lv_dup hx hb dX5_next_26 rfl ?_
          refine gfX5_at hx hb h_X5 hown hK hP l_f32 dX5_next_27 ?_
          refine lv_iconst (v := 1) hx hb dX5_next_30 (by decide) ?_
          refine lv_iadd hx hb dX5_next_31 ?_
          refine pfX5_at hx hb h_X5 hown hK hP hI AC_in hS l_f32 dX5_next_32 (fun H locs hP hS => ?_)
          generalize es6 : su s3 2 (fun _ => (s3.1 2 0) + 1) = s6 at hP
          have hm := bnd_x es6.symm hm
          refine lv_goto (tgt := 0) hx hb dX5_next_35 (by decide) ?_
          exact ih0 s6 _ _ _ hP hS (lv_sub hl [0] rfl) hm
  unfold mX5_next at hm
  exact L_0 NF σ _ _ _ hP hS (lv_sub hl [0] rfl) hm
theorem eX5_fail : yX5_fail.cls = RX5 ∧ yX5_fail.cls ≠ "java/lang/invoke/MethodHandle" ∧ yX5_fail.cls ≠ "java/lang/invoke/VarHandle" ∧ (parseMethodDescriptor yX5_fail.desc).map (fun d => d.parameters.length) = some 0 := by decide +kernel
def mX5_fail (σ : St) : Option (Int32 × St) :=
if 0 ≤ (σ.1 3 0) then (
some ((-1), σ))
else (
bnd (su σ 3 (fun _ => σ.1 2 0)) fun s2 =>
some ((-1), s2))
set_option maxHeartbeats 4000000 in
set_option maxRecDepth 100000 in
theorem kX5_fail (l : Launch) (D : va_G) (y : Nat → ClassId) (a t : Nat → Nat) (hI : AI a 37) (sz : Nat) (σ τ : St) (r : Int32) (hm : mX5_fail σ = some (r, τ)) : Met l yX5_fail zX5_fail { frames := 0, cells := 0, slots := 0, locals := 0 } (va_Pc [.ref (a 2)] (preW (wC y a) a 37 D y t σ sz)) (va_Qi (fun r' u => r' = r ∧ u = τ) (posW (wC y a) D) (AC a 37 sz)) 0 0 (AC a 37 sz) := by
  refine Met.ofW (cc := cX5_fail) (maxL := 1) (ret := (some .int)) (by decide) rfl ?_
  intro p e s m args below meth c s₁ B hml hv
  obtain ⟨rfl, hsz, hP, hK, hF⟩ := hv
  have hx := B.exec
  have hb := B.bytes
  have hr := B.returns
  have hts := atoms_spec (ws := zX5_fail) B.pre
  have hown : s.vm.findClass RX5 = some m.cls := findClass_of_methodNamed B.named
  have hlocks := B.notSynchronized
  subst hsz
  have l_f15 := hts _ (List.mem_cons_of_mem _ aF_X5_15)
  have l_f32 := hts _ (List.mem_cons_of_mem _ aF_X5_32)
  have h_X5 : ∀ w ∈ wsX50, w.before _ s = true := fun w hw => hts w (List.mem_cons_of_mem _ (hwX5 w hw))
  have hS : va_S (AC a 37 s.heap.size) s.heap s.heap [] := va_S.rf
  have hl := lv_entry ([.ref (a 2)]) (n := 1) (Nat.le_of_ble_eq_true rfl)
  rw [lg_entry_eq]
  generalize (lg_sl ([.ref (a 2)]) ++ List.replicate (1 - (lg_sl ([.ref (a 2)])).length) Slot.unset).toArray = ls at hl ⊢
  have hl : lv_has ls 1 [(0, .ref (a 2))] := hl
  unfold mX5_fail at hm
  refine lv_aload_n hx hb dX5_fail_0 rfl (lv_at hl 0 rfl) ?_
  refine gfX5_error hx hb h_X5 hown hK hP l_f15 dX5_fail_1 ?_
  refine lv_if_ge (tgt := 15) hx hb dX5_fail_4 (by decide) (fun c1 => ?_) (fun c1 => ?_)
  · have hm := (if_pos c1).symm.trans hm
    refine lv_iconst (v := (-1)) hx hb dX5_fail_15 (by decide) ?_
    exact W.iret (v := (-1)) hx hb hr (fun T hT hW => ⟨⟨(-1), σ, rfl, ⟨congrArg Prod.fst (Option.some.inj hm), congrArg Prod.snd (Option.some.inj hm)⟩, by rw [posW, hT]; exact hP⟩, hS.F hT⟩) hS.2.2 dX5_fail_16
  · have hm := (if_neg c1).symm.trans hm
    refine lv_aload_n hx hb dX5_fail_7 rfl (lv_at hl 0 rfl) ?_
    refine lv_aload_n hx hb dX5_fail_8 rfl (lv_at hl 0 rfl) ?_
    refine gfX5_at hx hb h_X5 hown hK hP l_f32 dX5_fail_9 ?_
    refine pfX5_error hx hb h_X5 hown hK hP hI AC_in hS l_f15 dX5_fail_12 (fun H locs hP hS => ?_)
    generalize es2 : su σ 3 (fun _ => σ.1 2 0) = s2 at hP
    have hm := bnd_x es2.symm hm
    refine lv_iconst (v := (-1)) hx hb dX5_fail_15 (by decide) ?_
    exact W.iret (v := (-1)) hx hb hr (fun T hT hW => ⟨⟨(-1), s2, rfl, ⟨congrArg Prod.fst (Option.some.inj hm), congrArg Prod.snd (Option.some.inj hm)⟩, by rw [posW, hT]; exact hP⟩, hS.F hT⟩) hS.2.2 dX5_fail_16
theorem eX5_takes : yX5_takes.cls = RX5 ∧ yX5_takes.cls ≠ "java/lang/invoke/MethodHandle" ∧ yX5_takes.cls ≠ "java/lang/invoke/VarHandle" ∧ (parseMethodDescriptor yX5_takes.desc).map (fun d => d.parameters.length) = some 1 := by decide +kernel
def mX5_takes (σ : St) (p1 : Int32) : Option (Int32 × St) :=
if 0 ≤ (σ.1 3 0) then (
some (0, σ))
else (
(mX5_next σ).bind fun ⟨r2, s4⟩ =>
if r2 = p1 then (
bnd (su s4 2 (fun _ => (s4.1 2 0) + 1)) fun s6 =>
some (1, s6))
else (
some (0, s4)))
set_option maxHeartbeats 4000000 in
set_option maxRecDepth 100000 in
theorem kX5_takes (l : Launch) (D : va_G) (y : Nat → ClassId) (a t : Nat → Nat) (hI : AI a 37) (sz : Nat) (σ τ : St) (p1 : Int32) (r : Int32) (hm : mX5_takes σ p1 = some (r, τ)) : Met l yX5_takes zX5_takes { frames := 1, cells := 0, slots := 0, locals := 20 } (va_Pc [.ref (a 2), .int p1] (preW (wC y a) a 37 D y t σ sz)) (va_Qi (fun r' u => r' = r ∧ u = τ) (posW (wC y a) D) (AC a 37 sz)) 0 0 (AC a 37 sz) := by
  refine Met.ofW (cc := cX5_takes) (maxL := 2) (ret := (some .boolean)) (by decide) rfl ?_
  intro p e s m args below meth c s₁ B hml hv
  obtain ⟨rfl, hsz, hP, hK, hF⟩ := hv
  have hx := B.exec
  have hb := B.bytes
  have hr := B.returns
  have hts := atoms_spec (ws := zX5_takes) B.pre
  have hown : s.vm.findClass RX5 = some m.cls := findClass_of_methodNamed B.named
  have hlocks := B.notSynchronized
  subst hsz
  have l_f15 := hts _ (List.mem_cons_of_mem _ aF_X5_15)
  have l_f32 := hts _ (List.mem_cons_of_mem _ aF_X5_32)
  have h_X5 : ∀ w ∈ wsX50, w.before _ s = true := fun w hw => hts w (List.mem_cons_of_mem _ (hwX5 w hw))
  have hS : va_S (AC a 37 s.heap.size) s.heap s.heap [] := va_S.rf
  have hl := lv_entry ([.ref (a 2), .int p1]) (n := 2) (Nat.le_of_ble_eq_true rfl)
  rw [lg_entry_eq]
  generalize (lg_sl ([.ref (a 2), .int p1]) ++ List.replicate (2 - (lg_sl ([.ref (a 2), .int p1])).length) Slot.unset).toArray = ls at hl ⊢
  have hl : lv_has ls 2 [(0, .ref (a 2)), (1, .int p1)] := hl
  unfold mX5_takes at hm
  refine lv_aload_n hx hb dX5_takes_0 rfl (lv_at hl 0 rfl) ?_
  refine gfX5_error hx hb h_X5 hown hK hP l_f15 dX5_takes_1 ?_
  refine lv_if_ge (tgt := 15) hx hb dX5_takes_4 (by decide) (fun c1 => ?_) (fun c1 => ?_)
  · have hm := (if_pos c1).symm.trans hm
    refine lv_iconst (v := 0) hx hb dX5_takes_15 (by decide) ?_
    exact W.zret (v := 0) hx hb hr rfl (fun T hT hW => ⟨⟨0, σ, rfl, ⟨congrArg Prod.fst (Option.some.inj hm), congrArg Prod.snd (Option.some.inj hm)⟩, by rw [posW, hT]; exact hP⟩, hS.F hT⟩) hS.2.2 dX5_takes_16
  · have hm := (if_neg c1).symm.trans hm
    refine lv_aload_n hx hb dX5_takes_7 rfl (lv_at hl 0 rfl) ?_
    obtain ⟨⟨r2, s4⟩, h3, hm⟩ := ok_bind hm
    refine calV_i (As := []) (rest := []) ⟨hx, hb, hml, hown, hts⟩ (kX5_next l D y a t hI _ σ s4 r2 h3) (cwV 0 hts (gAV aM_X5_39 aI_X5_next aS_X5_next aN_X5 aC_X5_next) rfl rfl rfl eX5_next ⟨Nat.le_of_ble_eq_true rfl, Nat.le_of_ble_eq_true rfl⟩) (preV_W (ci := 5) (q := (RX5, TX5, 5)) hK hP hF hS rfl (wC_2 y a σ)) rfl hl.1 rfl (Nat.le_of_ble_eq_true rfl) dX5_takes_8 ⟨Nat.zero_le _, Nat.zero_le _⟩ hS (AC_le hS.1) (fun H locs hP hS hk1 => ?_)
    refine lv_iload_n hx hb dX5_takes_11 rfl (lv_at hl 1 rfl) ?_
    refine lv_icmp_eq (tgt := 17) hx hb dX5_takes_12 (by decide) (fun c5 => ?_) (fun c5 => ?_)
    · have hm := (if_pos c5).symm.trans hm
      refine lv_aload_n hx hb dX5_takes_17 rfl (lv_at hl 0 rfl) ?_
      refine lv_dup hx hb dX5_takes_18 rfl ?_
      refine gfX5_at hx hb h_X5 hown hK hP l_f32 dX5_takes_19 ?_
      refine lv_iconst (v := 1) hx hb dX5_takes_22 (by decide) ?_
      refine lv_iadd hx hb dX5_takes_23 ?_
      refine pfX5_at hx hb h_X5 hown hK hP hI AC_in hS l_f32 dX5_takes_24 (fun H locs hP hS => ?_)
      generalize es6 : su s4 2 (fun _ => (s4.1 2 0) + 1) = s6 at hP
      have hm := bnd_x es6.symm hm
      refine lv_iconst (v := 1) hx hb dX5_takes_27 (by decide) ?_
      exact W.zret (v := 1) hx hb hr rfl (fun T hT hW => ⟨⟨1, s6, rfl, ⟨congrArg Prod.fst (Option.some.inj hm), congrArg Prod.snd (Option.some.inj hm)⟩, by rw [posW, hT]; exact hP⟩, hS.F hT⟩) hS.2.2 dX5_takes_28
    · have hm := (if_neg c5).symm.trans hm
      refine lv_iconst (v := 0) hx hb dX5_takes_15 (by decide) ?_
      exact W.zret (v := 0) hx hb hr rfl (fun T hT hW => ⟨⟨0, s4, rfl, ⟨congrArg Prod.fst (Option.some.inj hm), congrArg Prod.snd (Option.some.inj hm)⟩, by rw [posW, hT]; exact hP⟩, hS.F hT⟩) hS.2.2 dX5_takes_16
theorem eX5_both : yX5_both.cls = RX5 ∧ yX5_both.cls ≠ "java/lang/invoke/MethodHandle" ∧ yX5_both.cls ≠ "java/lang/invoke/VarHandle" ∧ (parseMethodDescriptor yX5_both.desc).map (fun d => d.parameters.length) = some 1 := by decide +kernel
theorem eX5_form : yX5_form.cls = RX5 ∧ yX5_form.cls ≠ "java/lang/invoke/MethodHandle" ∧ yX5_form.cls ≠ "java/lang/invoke/VarHandle" ∧ (parseMethodDescriptor yX5_form.desc).map (fun d => d.parameters.length) = some 1 := by decide +kernel
theorem eX5_plain : yX5_plain.cls = RX5 ∧ yX5_plain.cls ≠ "java/lang/invoke/MethodHandle" ∧ yX5_plain.cls ≠ "java/lang/invoke/VarHandle" ∧ (parseMethodDescriptor yX5_plain.desc).map (fun d => d.parameters.length) = some 1 := by decide +kernel
def bX5_both_8 (f_X5_both : St → Int32 → Option (Int32 × St)) (f_X5_form : St → Int32 → Option (Int32 × St)) (f_X5_plain : St → Int32 → Option (Int32 × St)) (kh8 : St → Int32 → Int32 → Int32 → Option (Int32 × St)) (s4 : St) (v1 : Int32) (v2 : Int32) (v3 : Int32) : Option (Int32 × St) :=
if 400 ≤ v3 then (
some (v2, s4))
else (
(mX5_takes s4 38).bind fun ⟨r6, s8⟩ =>
if r6 = 0 then (
some (v2, s8))
else (
(f_X5_plain s8 v1).bind fun ⟨r10, s12⟩ =>
(mX1_number s12 3 v2 r10).bind fun ⟨r13, s15⟩ =>
bnd (v3 + 1) fun x16 =>
kh8 s15 v1 r13 x16))
abbrev mX5_both_8 (f_X5_both : St → Int32 → Option (Int32 × St)) (f_X5_form : St → Int32 → Option (Int32 × St)) (f_X5_plain : St → Int32 → Option (Int32 × St)) (n : Nat) : St → Int32 → Int32 → Int32 → Option (Int32 × St) := fx (fun _ _ _ _ => none) (bX5_both_8 f_X5_both f_X5_form f_X5_plain) n
def bX5_both (f_X5_both : St → Int32 → Option (Int32 × St)) (f_X5_form : St → Int32 → Option (Int32 × St)) (f_X5_plain : St → Int32 → Option (Int32 × St)) (σ : St) (p1 : Int32) : Option (Int32 × St) :=
(f_X5_plain σ p1).bind fun ⟨r17, s19⟩ =>
mX5_both_8 f_X5_both f_X5_form f_X5_plain NF s19 p1 r17 0
def mX5_form_45 (f_X5_both : St → Int32 → Option (Int32 × St)) (f_X5_form : St → Int32 → Option (Int32 × St)) (f_X5_plain : St → Int32 → Option (Int32 × St)) (s3 : St) (v1 : Int32) (v2 : Int32) : Option (Int32 × St) :=
(mX5_takes s3 62).bind fun ⟨r4, s6⟩ =>
if r4 = 0 then (
some (v2, s6))
else (
(f_X5_form s6 (v1 + 1)).bind fun ⟨r8, s10⟩ =>
(mX1_number s10 5 v2 r8).bind fun ⟨r11, s13⟩ =>
some (r11, s13))
def bX5_form_8 (f_X5_both : St → Int32 → Option (Int32 × St)) (f_X5_form : St → Int32 → Option (Int32 × St)) (f_X5_plain : St → Int32 → Option (Int32 × St)) (kh8 : St → Int32 → Int32 → Int32 → Option (Int32 × St)) (s17 : St) (v14 : Int32) (v15 : Int32) (v16 : Int32) : Option (Int32 × St) :=
if 400 ≤ v16 then (
mX5_form_45 f_X5_both f_X5_form f_X5_plain s17 v14 v15)
else (
(mX5_takes s17 124).bind fun ⟨r19, s21⟩ =>
if r19 = 0 then (
mX5_form_45 f_X5_both f_X5_form f_X5_plain s21 v14 v15)
else (
(f_X5_both s21 v14).bind fun ⟨r23, s25⟩ =>
(mX1_number s25 4 v15 r23).bind fun ⟨r26, s28⟩ =>
bnd (v16 + 1) fun x29 =>
kh8 s28 v14 r26 x29))
abbrev mX5_form_8 (f_X5_both : St → Int32 → Option (Int32 × St)) (f_X5_form : St → Int32 → Option (Int32 × St)) (f_X5_plain : St → Int32 → Option (Int32 × St)) (n : Nat) : St → Int32 → Int32 → Int32 → Option (Int32 × St) := fx (fun _ _ _ _ => none) (bX5_form_8 f_X5_both f_X5_form f_X5_plain) n
def bX5_form (f_X5_both : St → Int32 → Option (Int32 × St)) (f_X5_form : St → Int32 → Option (Int32 × St)) (f_X5_plain : St → Int32 → Option (Int32 × St)) (σ : St) (p1 : Int32) : Option (Int32 × St) :=
(f_X5_both σ p1).bind fun ⟨r30, s32⟩ =>
mX5_form_8 f_X5_both f_X5_form f_X5_plain NF s32 p1 r30 0
def mX5_plain_18 (f_X5_both : St → Int32 → Option (Int32 × St)) (f_X5_form : St → Int32 → Option (Int32 × St)) (f_X5_plain : St → Int32 → Option (Int32 × St)) (s1 : St) : Option (Int32 × St) :=
(mX5_fail s1).bind fun ⟨r2, s4⟩ =>
some (r2, s4)
def mX5_plain_59 (f_X5_both : St → Int32 → Option (Int32 × St)) (f_X5_form : St → Int32 → Option (Int32 × St)) (f_X5_plain : St → Int32 → Option (Int32 × St)) (s6 : St) (v5 : Int32) : Option (Int32 × St) :=
(mX5_takes s6 35).bind fun ⟨r7, s9⟩ =>
if r7 = 0 then (
(mX5_takes s9 45).bind fun ⟨r11, s13⟩ =>
if r11 = 0 then (
(mX5_takes s13 40).bind fun ⟨r15, s17⟩ =>
if r15 = 0 then (
(mX5_fail s17).bind fun ⟨r19, s21⟩ =>
some (r19, s21))
else (
(f_X5_form s17 (v5 + 1)).bind fun ⟨r22, s24⟩ =>
(mX5_takes s24 41).bind fun ⟨r25, s27⟩ =>
if r25 = 0 then (
(mX5_fail s27).bind fun ⟨r29, s31⟩ =>
some (r29, s31))
else (
some (r22, s27))))
else (
(f_X5_plain s13 (v5 + 1)).bind fun ⟨r32, s34⟩ =>
(mX1_number s34 2 r32 (-1)).bind fun ⟨r35, s37⟩ =>
some (r35, s37)))
else (
(mX1_number s9 1 (-1) (-1)).bind fun ⟨r38, s40⟩ =>
some (r38, s40))
def bX5_plain (f_X5_both : St → Int32 → Option (Int32 × St)) (f_X5_form : St → Int32 → Option (Int32 × St)) (f_X5_plain : St → Int32 → Option (Int32 × St)) (σ : St) (p1 : Int32) : Option (Int32 × St) :=
(mX5_next σ).bind fun ⟨r41, s43⟩ =>
if 10 < p1 then (
mX5_plain_18 f_X5_both f_X5_form f_X5_plain s43)
else (
if (s43.1 3 0) < 0 then (
if r41 < 97 then (
mX5_plain_59 f_X5_both f_X5_form f_X5_plain s43 p1)
else (
if 105 ≤ r41 then (
mX5_plain_59 f_X5_both f_X5_form f_X5_plain s43 p1)
else (
bnd (su s43 2 (fun _ => (s43.1 2 0) + 1)) fun s48 =>
(mX1_number s48 0 (r41 - 97) (-1)).bind fun ⟨r49, s51⟩ =>
some (r49, s51))))
else (
mX5_plain_18 f_X5_both f_X5_form f_X5_plain s43))
def gX5_both (d : Nat) : (St → Int32 → Option (Int32 × St)) × (St → Int32 → Option (Int32 × St)) × (St → Int32 → Option (Int32 × St)) := fx ((fun _ _ => none), (fun _ _ => none), (fun _ _ => none)) (fun F => (bX5_both (F.1) (F.2.1) (F.2.2), bX5_form (F.1) (F.2.1) (F.2.2), bX5_plain (F.1) (F.2.1) (F.2.2))) d
abbrev mX5_both : St → Int32 → Option (Int32 × St) := (gX5_both 40).1
abbrev mX5_form : St → Int32 → Option (Int32 × St) := (gX5_both 40).2.1
abbrev mX5_plain : St → Int32 → Option (Int32 × St) := (gX5_both 40).2.2
set_option maxHeartbeats 4000000 in
set_option maxRecDepth 100000 in
theorem oX5_both (l : Launch) (D : va_G) (y : Nat → ClassId) (a t : Nat → Nat) (hI : AI a 37) (fr lo : Nat) (hfr : 3 ≤ fr) (hlo : 59 ≤ lo) (f_X5_both : St → Int32 → Option (Int32 × St)) (f_X5_form : St → Int32 → Option (Int32 × St)) (f_X5_plain : St → Int32 → Option (Int32 × St)) (c_X5_both : ∀ (sz : Nat) (σ τ : St) (p1 : Int32) (r : Int32), f_X5_both σ p1 = some (r, τ) → Met l yX5_both zX5_both { frames := fr, cells := 0, slots := 0, locals := lo } (va_Pc [.ref (a 2), .int p1] (preW (wC y a) a 37 D y t σ sz)) (va_Qi (fun r' u => r' = r ∧ u = τ) (posW (wC y a) D) (AC a 37 sz)) 0 0 (AC a 37 sz)) (c_X5_form : ∀ (sz : Nat) (σ τ : St) (p1 : Int32) (r : Int32), f_X5_form σ p1 = some (r, τ) → Met l yX5_form zX5_form { frames := fr, cells := 0, slots := 0, locals := lo } (va_Pc [.ref (a 2), .int p1] (preW (wC y a) a 37 D y t σ sz)) (va_Qi (fun r' u => r' = r ∧ u = τ) (posW (wC y a) D) (AC a 37 sz)) 0 0 (AC a 37 sz)) (c_X5_plain : ∀ (sz : Nat) (σ τ : St) (p1 : Int32) (r : Int32), f_X5_plain σ p1 = some (r, τ) → Met l yX5_plain zX5_plain { frames := fr, cells := 0, slots := 0, locals := lo } (va_Pc [.ref (a 2), .int p1] (preW (wC y a) a 37 D y t σ sz)) (va_Qi (fun r' u => r' = r ∧ u = τ) (posW (wC y a) D) (AC a 37 sz)) 0 0 (AC a 37 sz)) (sz : Nat) (σ τ : St) (p1 : Int32) (r : Int32) (hm : bX5_both f_X5_both f_X5_form f_X5_plain σ p1 = some (r, τ)) : Met l yX5_both zX5_both { frames := fr + 1, cells := 0, slots := 0, locals := lo + 23 } (va_Pc [.ref (a 2), .int p1] (preW (wC y a) a 37 D y t σ sz)) (va_Qi (fun r' u => r' = r ∧ u = τ) (posW (wC y a) D) (AC a 37 sz)) 0 0 (AC a 37 sz) := by
  refine Met.ofW (cc := cX5_both) (maxL := 4) (ret := (some .int)) (by decide) rfl ?_
  intro p e s m args below meth c s₁ B hml hv
  obtain ⟨rfl, hsz, hP, hK, hF⟩ := hv
  have hx := B.exec
  have hb := B.bytes
  have hr := B.returns
  have hts := atoms_spec (ws := zX5_both) B.pre
  have hown : s.vm.findClass RX5 = some m.cls := findClass_of_methodNamed B.named
  have hlocks := B.notSynchronized
  subst hsz
  have l_f19 := hts _ (List.mem_cons_of_mem _ aF_X5_19)
  have h_X5 : ∀ w ∈ wsX50, w.before _ s = true := fun w hw => hts w (List.mem_cons_of_mem _ (hwX5 w hw))
  have hS : va_S (AC a 37 s.heap.size) s.heap s.heap [] := va_S.rf
  have hl := lv_entry ([.ref (a 2), .int p1]) (n := 4) (Nat.le_of_ble_eq_true rfl)
  rw [lg_entry_eq]
  generalize (lg_sl ([.ref (a 2), .int p1]) ++ List.replicate (4 - (lg_sl ([.ref (a 2), .int p1])).length) Slot.unset).toArray = ls at hl ⊢
  have hl : lv_has ls 4 [(0, .ref (a 2)), (1, .int p1)] := hl
  have L_8 : ∀ (n : Nat) (s4 : St) (v1 : Int32) (v2 : Int32) (v3 : Int32) (H : Heap) (locs : List Loc) (ls : Array Slot), va_P D vwCl (wC y a s4) H → va_S (AC a 37 s.heap.size) s.heap H locs → lv_has ls 4 [(0, .ref (a 2)), (1, .int v1), (2, .int v2), (3, .int v3)] → mX5_both_8 f_X5_both f_X5_form f_X5_plain n s4 v1 v2 v3 = some (r, τ) → W p l e (headSpec zX5_both ({ frames := fr + 1, cells := 0, slots := 0, locals := lo + 23 })).room s m ([.ref (a 2), .int p1] : List Value).toArray below meth c H locs 0 0 (MQ below (va_Qi (fun r' u => r' = r ∧ u = τ) (posW (wC y a) D) (AC a 37 s.heap.size)) ([.ref (a 2), .int p1] : List Value).toArray s 0 0 (AC a 37 s.heap.size)) (F0 m 8 ls []) := by
    intro n
    induction n with
    | zero =>
      intro s4 v1 v2 v3 H locs ls hP hS hl hm
      exact absurd (show (none : Option (Int32 × St)) = some (r, τ) from hm) (by intro h; cases h)
    | succ n ih8 =>
      obtain ⟨kh8, ekh8⟩ : ∃ z, z = mX5_both_8 f_X5_both f_X5_form f_X5_plain n := ⟨_, rfl⟩
      have ih8 : ∀ (s4 : St) (v1 : Int32) (v2 : Int32) (v3 : Int32) (H : Heap) (locs : List Loc) (ls : Array Slot), va_P D vwCl (wC y a s4) H → va_S (AC a 37 s.heap.size) s.heap H locs → lv_has ls 4 [(0, .ref (a 2)), (1, .int v1), (2, .int v2), (3, .int v3)] → kh8 s4 v1 v2 v3 = some (r, τ) → W p l e (headSpec zX5_both ({ frames := fr + 1, cells := 0, slots := 0, locals := lo + 23 })).room s m ([.ref (a 2), .int p1] : List Value).toArray below meth c H locs 0 0 (MQ below (va_Qi (fun r' u => r' = r ∧ u = τ) (posW (wC y a) D) (AC a 37 s.heap.size)) ([.ref (a 2), .int p1] : List Value).toArray s 0 0 (AC a 37 s.heap.size)) (F0 m 8 ls []) := by rw [ekh8]; exact ih8
      intro s4 v1 v2 v3 H locs ls hP hS hl hm
      have hm : bX5_both_8 f_X5_both f_X5_form f_X5_plain (mX5_both_8 f_X5_both f_X5_form f_X5_plain n) s4 v1 v2 v3 = some (r, τ) := hm
      rw [← ekh8] at hm
      unfold bX5_both_8 at hm
      refine lv_iload_n hx hb dX5_both_8 rfl (lv_at hl 3 rfl) ?_
      refine lv_sipush (v := 400) hx hb dX5_both_9 (by decide) ?_
      refine lv_icmp_ge (tgt := 45) hx hb dX5_both_12 (by decide) (fun c5 => ?_) (fun c5 => ?_)
      · have hm := (if_pos c5).symm.trans hm
        refine lv_iload_n hx hb dX5_both_45 rfl (lv_at hl 2 rfl) ?_
        exact W.iret (v := v2) hx hb hr (fun T hT hW => ⟨⟨v2, s4, rfl, ⟨congrArg Prod.fst (Option.some.inj hm), congrArg Prod.snd (Option.some.inj hm)⟩, by rw [posW, hT]; exact hP⟩, hS.F hT⟩) hS.2.2 dX5_both_46
      · have hm := (if_neg c5).symm.trans hm
        refine lv_aload_n hx hb dX5_both_15 rfl (lv_at hl 0 rfl) ?_
        refine lv_bipush (v := 38) hx hb dX5_both_16 (by decide) ?_
        obtain ⟨⟨r6, s8⟩, h7, hm⟩ := ok_bind hm
        refine calV_i (As := [.int 38]) (rest := []) ⟨hx, hb, hml, hown, hts⟩ (kX5_takes l D y a t hI _ s4 s8 38 r6 h7) (cwV 1 hts (gAV aM_X5_52 aI_X5_takes aS_X5_takes aN_X5 aC_X5_takes) rfl rfl rfl eX5_takes ⟨by show 1 + 1 ≤ fr + 1; omega, by show 8 + (2 + 11) + 20 ≤ lo + 23; omega⟩) (preV_W (ci := 5) (q := (RX5, TX5, 5)) hK hP hF hS rfl (wC_2 y a s4)) rfl hl.1 rfl (Nat.le_of_ble_eq_true rfl) dX5_both_18 ⟨Nat.zero_le _, Nat.zero_le _⟩ hS (AC_le hS.1) (fun H locs hP hS hk1 => ?_)
        refine lv_if_eq (tgt := 45) hx hb dX5_both_21 (by decide) (fun c9 => ?_) (fun c9 => ?_)
        · have hm := (if_pos c9).symm.trans hm
          refine lv_iload_n hx hb dX5_both_45 rfl (lv_at hl 2 rfl) ?_
          exact W.iret (v := v2) hx hb hr (fun T hT hW => ⟨⟨v2, s8, rfl, ⟨congrArg Prod.fst (Option.some.inj hm), congrArg Prod.snd (Option.some.inj hm)⟩, by rw [posW, hT]; exact hP⟩, hS.F hT⟩) hS.2.2 dX5_both_46
        · have hm := (if_neg c9).symm.trans hm
          refine lv_aload_n hx hb dX5_both_24 rfl (lv_at hl 0 rfl) ?_
          refine gfX5_formulas hx hb h_X5 hown hK hP l_f19 dX5_both_25 ?_
          refine lv_iconst (v := 3) hx hb dX5_both_28 (by decide) ?_
          refine lv_iload_n hx hb dX5_both_29 rfl (lv_at hl 2 rfl) ?_
          refine lv_aload_n hx hb dX5_both_30 rfl (lv_at hl 0 rfl) ?_
          refine lv_iload_n hx hb dX5_both_31 rfl (lv_at hl 1 rfl) ?_
          obtain ⟨⟨r10, s12⟩, h11, hm⟩ := ok_bind hm
          refine calV_i (As := [.int v1]) (rest := [.int v2, .int 3, .ref (a 1)]) ⟨hx, hb, hml, hown, hts⟩ (c_X5_plain _ s8 s12 v1 r10 h11) (cwV 1 hts (gAV aM_X5_60 aI_X5_plain aS_X5_plain aN_X5 aC_X5_plain) rfl rfl rfl eX5_plain ⟨Nat.le_refl _, by show 8 + (4 + 11) + lo ≤ lo + 23; omega⟩) (preV_W (ci := 5) (q := (RX5, TX5, 5)) hK hP hF hS rfl (wC_2 y a s8)) rfl hl.1 rfl (Nat.le_of_ble_eq_true rfl) dX5_both_32 ⟨Nat.zero_le _, Nat.zero_le _⟩ hS (AC_le hS.1) (fun H locs hP hS hk1 => ?_)
          obtain ⟨⟨r13, s15⟩, h14, hm⟩ := ok_bind hm
          refine calV_i (As := [.int 3, .int v2, .int r10]) (rest := []) ⟨hx, hb, hml, hown, hts⟩ (kX1_number l D y a t hI _ s12 s15 3 v2 r10 r13 h14) (cwV 3 hts (gAV aM_X5_56 aI_X1_number aS_X1_number aN_X1 aC_X1_number) rfl rfl rfl eX1_number ⟨by show 2 + 1 ≤ fr + 1; omega, by show 8 + (7 + 11) + 51 ≤ lo + 23; omega⟩) (preV_W (ci := 1) (q := (RX1, TX1, 8)) hK hP hF hS rfl (wC_1 y a s12)) rfl hl.1 rfl (Nat.le_of_ble_eq_true rfl) dX5_both_35 ⟨Nat.zero_le _, Nat.zero_le _⟩ hS (AC_le hS.1) (fun H locs hP hS hk1 => ?_)
          refine lv_istore_n (lv' := [(2, .int r13), (0, .ref (a 2)), (1, .int v1), (3, .int v3)]) hx hb dX5_both_38 rfl hl (by decide) rfl (fun ls hl => ?_)
          obtain ⟨x16, ex16⟩ : ∃ z : Int32, z = v3 + 1 := ⟨_, rfl⟩
          have hm := bnd_x ex16 hm
          refine lv_iinc (v := x16) (lv' := [(3, .int x16), (2, .int r13), (0, .ref (a 2)), (1, .int v1)]) hx hb dX5_both_39 hl (k := 3) rfl (by rw [ex16]; rfl) (by decide) rfl (fun ls hl => ?_)
          refine lv_goto (tgt := 8) hx hb dX5_both_42 (by decide) ?_
          exact ih8 s15 v1 r13 x16 _ _ _ hP hS (lv_sub hl [2, 3, 1, 0] rfl) hm
  unfold bX5_both at hm
  refine lv_aload_n hx hb dX5_both_0 rfl (lv_at hl 0 rfl) ?_
  refine lv_iload_n hx hb dX5_both_1 rfl (lv_at hl 1 rfl) ?_
  obtain ⟨⟨r17, s19⟩, h18, hm⟩ := ok_bind hm
  refine calV_i (As := [.int p1]) (rest := []) ⟨hx, hb, hml, hown, hts⟩ (c_X5_plain _ σ s19 p1 r17 h18) (cwV 1 hts (gAV aM_X5_60 aI_X5_plain aS_X5_plain aN_X5 aC_X5_plain) rfl rfl rfl eX5_plain ⟨Nat.le_refl _, by show 8 + (4 + 11) + lo ≤ lo + 23; omega⟩) (preV_W (ci := 5) (q := (RX5, TX5, 5)) hK hP hF hS rfl (wC_2 y a σ)) rfl hl.1 rfl (Nat.le_of_ble_eq_true rfl) dX5_both_2 ⟨Nat.zero_le _, Nat.zero_le _⟩ hS (AC_le hS.1) (fun H locs hP hS hk1 => ?_)
  refine lv_istore_n (lv' := [(2, .int r17), (0, .ref (a 2)), (1, .int p1)]) hx hb dX5_both_5 rfl hl (by decide) rfl (fun ls hl => ?_)
  refine lv_iconst (v := 0) hx hb dX5_both_6 (by decide) ?_
  refine lv_istore_n (lv' := [(3, .int 0), (2, .int r17), (0, .ref (a 2)), (1, .int p1)]) hx hb dX5_both_7 rfl hl (by decide) rfl (fun ls hl => ?_)
  exact L_8 NF s19 p1 r17 0 _ _ _ hP hS (lv_sub hl [2, 3, 1, 0] rfl) hm
set_option maxHeartbeats 4000000 in
set_option maxRecDepth 100000 in
theorem oX5_form (l : Launch) (D : va_G) (y : Nat → ClassId) (a t : Nat → Nat) (hI : AI a 37) (fr lo : Nat) (hfr : 3 ≤ fr) (hlo : 59 ≤ lo) (f_X5_both : St → Int32 → Option (Int32 × St)) (f_X5_form : St → Int32 → Option (Int32 × St)) (f_X5_plain : St → Int32 → Option (Int32 × St)) (c_X5_both : ∀ (sz : Nat) (σ τ : St) (p1 : Int32) (r : Int32), f_X5_both σ p1 = some (r, τ) → Met l yX5_both zX5_both { frames := fr, cells := 0, slots := 0, locals := lo } (va_Pc [.ref (a 2), .int p1] (preW (wC y a) a 37 D y t σ sz)) (va_Qi (fun r' u => r' = r ∧ u = τ) (posW (wC y a) D) (AC a 37 sz)) 0 0 (AC a 37 sz)) (c_X5_form : ∀ (sz : Nat) (σ τ : St) (p1 : Int32) (r : Int32), f_X5_form σ p1 = some (r, τ) → Met l yX5_form zX5_form { frames := fr, cells := 0, slots := 0, locals := lo } (va_Pc [.ref (a 2), .int p1] (preW (wC y a) a 37 D y t σ sz)) (va_Qi (fun r' u => r' = r ∧ u = τ) (posW (wC y a) D) (AC a 37 sz)) 0 0 (AC a 37 sz)) (c_X5_plain : ∀ (sz : Nat) (σ τ : St) (p1 : Int32) (r : Int32), f_X5_plain σ p1 = some (r, τ) → Met l yX5_plain zX5_plain { frames := fr, cells := 0, slots := 0, locals := lo } (va_Pc [.ref (a 2), .int p1] (preW (wC y a) a 37 D y t σ sz)) (va_Qi (fun r' u => r' = r ∧ u = τ) (posW (wC y a) D) (AC a 37 sz)) 0 0 (AC a 37 sz)) (sz : Nat) (σ τ : St) (p1 : Int32) (r : Int32) (hm : bX5_form f_X5_both f_X5_form f_X5_plain σ p1 = some (r, τ)) : Met l yX5_form zX5_form { frames := fr + 1, cells := 0, slots := 0, locals := lo + 23 } (va_Pc [.ref (a 2), .int p1] (preW (wC y a) a 37 D y t σ sz)) (va_Qi (fun r' u => r' = r ∧ u = τ) (posW (wC y a) D) (AC a 37 sz)) 0 0 (AC a 37 sz) := by
  refine Met.ofW (cc := cX5_form) (maxL := 4) (ret := (some .int)) (by decide) rfl ?_
  intro p e s m args below meth c s₁ B hml hv
  obtain ⟨rfl, hsz, hP, hK, hF⟩ := hv
  have hx := B.exec
  have hb := B.bytes
  have hr := B.returns
  have hts := atoms_spec (ws := zX5_form) B.pre
  have hown : s.vm.findClass RX5 = some m.cls := findClass_of_methodNamed B.named
  have hlocks := B.notSynchronized
  subst hsz
  have l_f19 := hts _ (List.mem_cons_of_mem _ aF_X5_19)
  have h_X5 : ∀ w ∈ wsX50, w.before _ s = true := fun w hw => hts w (List.mem_cons_of_mem _ (hwX5 w hw))
  have hS : va_S (AC a 37 s.heap.size) s.heap s.heap [] := va_S.rf
  have hl := lv_entry ([.ref (a 2), .int p1]) (n := 4) (Nat.le_of_ble_eq_true rfl)
  rw [lg_entry_eq]
  generalize (lg_sl ([.ref (a 2), .int p1]) ++ List.replicate (4 - (lg_sl ([.ref (a 2), .int p1])).length) Slot.unset).toArray = ls at hl ⊢
  have hl : lv_has ls 4 [(0, .ref (a 2)), (1, .int p1)] := hl
  have L_45 : ∀ (s3 : St) (v1 : Int32) (v2 : Int32) (H : Heap) (locs : List Loc) (ls : Array Slot), va_P D vwCl (wC y a s3) H → va_S (AC a 37 s.heap.size) s.heap H locs → lv_has ls 4 [(0, .ref (a 2)), (1, .int v1), (2, .int v2)] → mX5_form_45 f_X5_both f_X5_form f_X5_plain s3 v1 v2 = some (r, τ) → W p l e (headSpec zX5_form ({ frames := fr + 1, cells := 0, slots := 0, locals := lo + 23 })).room s m ([.ref (a 2), .int p1] : List Value).toArray below meth c H locs 0 0 (MQ below (va_Qi (fun r' u => r' = r ∧ u = τ) (posW (wC y a) D) (AC a 37 s.heap.size)) ([.ref (a 2), .int p1] : List Value).toArray s 0 0 (AC a 37 s.heap.size)) (F0 m 45 ls []) := by
    intro s3 v1 v2 H locs ls hP hS hl hm
    unfold mX5_form_45 at hm
    refine lv_aload_n hx hb dX5_form_45 rfl (lv_at hl 0 rfl) ?_
    refine lv_bipush (v := 62) hx hb dX5_form_46 (by decide) ?_
    obtain ⟨⟨r4, s6⟩, h5, hm⟩ := ok_bind hm
    refine calV_i (As := [.int 62]) (rest := []) ⟨hx, hb, hml, hown, hts⟩ (kX5_takes l D y a t hI _ s3 s6 62 r4 h5) (cwV 1 hts (gAV aM_X5_52 aI_X5_takes aS_X5_takes aN_X5 aC_X5_takes) rfl rfl rfl eX5_takes ⟨by show 1 + 1 ≤ fr + 1; omega, by show 8 + (2 + 11) + 20 ≤ lo + 23; omega⟩) (preV_W (ci := 5) (q := (RX5, TX5, 5)) hK hP hF hS rfl (wC_2 y a s3)) rfl hl.1 rfl (Nat.le_of_ble_eq_true rfl) dX5_form_48 ⟨Nat.zero_le _, Nat.zero_le _⟩ hS (AC_le hS.1) (fun H locs hP hS hk1 => ?_)
    refine lv_if_eq (tgt := 73) hx hb dX5_form_51 (by decide) (fun c7 => ?_) (fun c7 => ?_)
    · have hm := (if_pos c7).symm.trans hm
      refine lv_iload_n hx hb dX5_form_73 rfl (lv_at hl 2 rfl) ?_
      exact W.iret (v := v2) hx hb hr (fun T hT hW => ⟨⟨v2, s6, rfl, ⟨congrArg Prod.fst (Option.some.inj hm), congrArg Prod.snd (Option.some.inj hm)⟩, by rw [posW, hT]; exact hP⟩, hS.F hT⟩) hS.2.2 dX5_form_74
    · have hm := (if_neg c7).symm.trans hm
      refine lv_aload_n hx hb dX5_form_54 rfl (lv_at hl 0 rfl) ?_
      refine gfX5_formulas hx hb h_X5 hown hK hP l_f19 dX5_form_55 ?_
      refine lv_iconst (v := 5) hx hb dX5_form_58 (by decide) ?_
      refine lv_iload_n hx hb dX5_form_59 rfl (lv_at hl 2 rfl) ?_
      refine lv_aload_n hx hb dX5_form_60 rfl (lv_at hl 0 rfl) ?_
      refine lv_iload_n hx hb dX5_form_61 rfl (lv_at hl 1 rfl) ?_
      refine lv_iconst (v := 1) hx hb dX5_form_62 (by decide) ?_
      refine lv_iadd hx hb dX5_form_63 ?_
      obtain ⟨⟨r8, s10⟩, h9, hm⟩ := ok_bind hm
      refine calV_i (As := [.int (v1 + 1)]) (rest := [.int v2, .int 5, .ref (a 1)]) ⟨hx, hb, hml, hown, hts⟩ (c_X5_form _ s6 s10 (v1 + 1) r8 h9) (cwV 1 hts (gAV aM_X5_35 aI_X5_form aS_X5_form aN_X5 aC_X5_form) rfl rfl rfl eX5_form ⟨Nat.le_refl _, by show 8 + (4 + 11) + lo ≤ lo + 23; omega⟩) (preV_W (ci := 5) (q := (RX5, TX5, 5)) hK hP hF hS rfl (wC_2 y a s6)) rfl hl.1 rfl (Nat.le_of_ble_eq_true rfl) dX5_form_64 ⟨Nat.zero_le _, Nat.zero_le _⟩ hS (AC_le hS.1) (fun H locs hP hS hk1 => ?_)
      obtain ⟨⟨r11, s13⟩, h12, hm⟩ := ok_bind hm
      refine calV_i (As := [.int 5, .int v2, .int r8]) (rest := []) ⟨hx, hb, hml, hown, hts⟩ (kX1_number l D y a t hI _ s10 s13 5 v2 r8 r11 h12) (cwV 3 hts (gAV aM_X5_56 aI_X1_number aS_X1_number aN_X1 aC_X1_number) rfl rfl rfl eX1_number ⟨by show 2 + 1 ≤ fr + 1; omega, by show 8 + (7 + 11) + 51 ≤ lo + 23; omega⟩) (preV_W (ci := 1) (q := (RX1, TX1, 8)) hK hP hF hS rfl (wC_1 y a s10)) rfl hl.1 rfl (Nat.le_of_ble_eq_true rfl) dX5_form_67 ⟨Nat.zero_le _, Nat.zero_le _⟩ hS (AC_le hS.1) (fun H locs hP hS hk1 => ?_)
      refine lv_goto (tgt := 74) hx hb dX5_form_70 (by decide) ?_
      exact W.iret (v := r11) hx hb hr (fun T hT hW => ⟨⟨r11, s13, rfl, ⟨congrArg Prod.fst (Option.some.inj hm), congrArg Prod.snd (Option.some.inj hm)⟩, by rw [posW, hT]; exact hP⟩, hS.F hT⟩) hS.2.2 dX5_form_74
  have L_8 : ∀ (n : Nat) (s17 : St) (v14 : Int32) (v15 : Int32) (v16 : Int32) (H : Heap) (locs : List Loc) (ls : Array Slot), va_P D vwCl (wC y a s17) H → va_S (AC a 37 s.heap.size) s.heap H locs → lv_has ls 4 [(0, .ref (a 2)), (1, .int v14), (2, .int v15), (3, .int v16)] → mX5_form_8 f_X5_both f_X5_form f_X5_plain n s17 v14 v15 v16 = some (r, τ) → W p l e (headSpec zX5_form ({ frames := fr + 1, cells := 0, slots := 0, locals := lo + 23 })).room s m ([.ref (a 2), .int p1] : List Value).toArray below meth c H locs 0 0 (MQ below (va_Qi (fun r' u => r' = r ∧ u = τ) (posW (wC y a) D) (AC a 37 s.heap.size)) ([.ref (a 2), .int p1] : List Value).toArray s 0 0 (AC a 37 s.heap.size)) (F0 m 8 ls []) := by
    intro n
    induction n with
    | zero =>
      intro s17 v14 v15 v16 H locs ls hP hS hl hm
      exact absurd (show (none : Option (Int32 × St)) = some (r, τ) from hm) (by intro h; cases h)
    | succ n ih8 =>
      obtain ⟨kh8, ekh8⟩ : ∃ z, z = mX5_form_8 f_X5_both f_X5_form f_X5_plain n := ⟨_, rfl⟩
      have ih8 : ∀ (s17 : St) (v14 : Int32) (v15 : Int32) (v16 : Int32) (H : Heap) (locs : List Loc) (ls : Array Slot), va_P D vwCl (wC y a s17) H → va_S (AC a 37 s.heap.size) s.heap H locs → lv_has ls 4 [(0, .ref (a 2)), (1, .int v14), (2, .int v15), (3, .int v16)] → kh8 s17 v14 v15 v16 = some (r, τ) → W p l e (headSpec zX5_form ({ frames := fr + 1, cells := 0, slots := 0, locals := lo + 23 })).room s m ([.ref (a 2), .int p1] : List Value).toArray below meth c H locs 0 0 (MQ below (va_Qi (fun r' u => r' = r ∧ u = τ) (posW (wC y a) D) (AC a 37 s.heap.size)) ([.ref (a 2), .int p1] : List Value).toArray s 0 0 (AC a 37 s.heap.size)) (F0 m 8 ls []) := by rw [ekh8]; exact ih8
      intro s17 v14 v15 v16 H locs ls hP hS hl hm
      have hm : bX5_form_8 f_X5_both f_X5_form f_X5_plain (mX5_form_8 f_X5_both f_X5_form f_X5_plain n) s17 v14 v15 v16 = some (r, τ) := hm
      rw [← ekh8] at hm
      unfold bX5_form_8 at hm
      refine lv_iload_n hx hb dX5_form_8 rfl (lv_at hl 3 rfl) ?_
      refine lv_sipush (v := 400) hx hb dX5_form_9 (by decide) ?_
      refine lv_icmp_ge (tgt := 45) hx hb dX5_form_12 (by decide) (fun c18 => ?_) (fun c18 => ?_)
      · have hm := (if_pos c18).symm.trans hm
        exact L_45 s17 v14 v15 _ _ _ hP hS (lv_sub hl [0, 1, 2] rfl) hm
      · have hm := (if_neg c18).symm.trans hm
        refine lv_aload_n hx hb dX5_form_15 rfl (lv_at hl 0 rfl) ?_
        refine lv_bipush (v := 124) hx hb dX5_form_16 (by decide) ?_
        obtain ⟨⟨r19, s21⟩, h20, hm⟩ := ok_bind hm
        refine calV_i (As := [.int 124]) (rest := []) ⟨hx, hb, hml, hown, hts⟩ (kX5_takes l D y a t hI _ s17 s21 124 r19 h20) (cwV 1 hts (gAV aM_X5_52 aI_X5_takes aS_X5_takes aN_X5 aC_X5_takes) rfl rfl rfl eX5_takes ⟨by show 1 + 1 ≤ fr + 1; omega, by show 8 + (2 + 11) + 20 ≤ lo + 23; omega⟩) (preV_W (ci := 5) (q := (RX5, TX5, 5)) hK hP hF hS rfl (wC_2 y a s17)) rfl hl.1 rfl (Nat.le_of_ble_eq_true rfl) dX5_form_18 ⟨Nat.zero_le _, Nat.zero_le _⟩ hS (AC_le hS.1) (fun H locs hP hS hk1 => ?_)
        refine lv_if_eq (tgt := 45) hx hb dX5_form_21 (by decide) (fun c22 => ?_) (fun c22 => ?_)
        · have hm := (if_pos c22).symm.trans hm
          exact L_45 s21 v14 v15 _ _ _ hP hS (lv_sub hl [0, 1, 2] rfl) hm
        · have hm := (if_neg c22).symm.trans hm
          refine lv_aload_n hx hb dX5_form_24 rfl (lv_at hl 0 rfl) ?_
          refine gfX5_formulas hx hb h_X5 hown hK hP l_f19 dX5_form_25 ?_
          refine lv_iconst (v := 4) hx hb dX5_form_28 (by decide) ?_
          refine lv_iload_n hx hb dX5_form_29 rfl (lv_at hl 2 rfl) ?_
          refine lv_aload_n hx hb dX5_form_30 rfl (lv_at hl 0 rfl) ?_
          refine lv_iload_n hx hb dX5_form_31 rfl (lv_at hl 1 rfl) ?_
          obtain ⟨⟨r23, s25⟩, h24, hm⟩ := ok_bind hm
          refine calV_i (As := [.int v14]) (rest := [.int v15, .int 4, .ref (a 1)]) ⟨hx, hb, hml, hown, hts⟩ (c_X5_both _ s21 s25 v14 r23 h24) (cwV 1 hts (gAV aM_X5_49 aI_X5_both aS_X5_both aN_X5 aC_X5_both) rfl rfl rfl eX5_both ⟨Nat.le_refl _, by show 8 + (4 + 11) + lo ≤ lo + 23; omega⟩) (preV_W (ci := 5) (q := (RX5, TX5, 5)) hK hP hF hS rfl (wC_2 y a s21)) rfl hl.1 rfl (Nat.le_of_ble_eq_true rfl) dX5_form_32 ⟨Nat.zero_le _, Nat.zero_le _⟩ hS (AC_le hS.1) (fun H locs hP hS hk1 => ?_)
          obtain ⟨⟨r26, s28⟩, h27, hm⟩ := ok_bind hm
          refine calV_i (As := [.int 4, .int v15, .int r23]) (rest := []) ⟨hx, hb, hml, hown, hts⟩ (kX1_number l D y a t hI _ s25 s28 4 v15 r23 r26 h27) (cwV 3 hts (gAV aM_X5_56 aI_X1_number aS_X1_number aN_X1 aC_X1_number) rfl rfl rfl eX1_number ⟨by show 2 + 1 ≤ fr + 1; omega, by show 8 + (7 + 11) + 51 ≤ lo + 23; omega⟩) (preV_W (ci := 1) (q := (RX1, TX1, 8)) hK hP hF hS rfl (wC_1 y a s25)) rfl hl.1 rfl (Nat.le_of_ble_eq_true rfl) dX5_form_35 ⟨Nat.zero_le _, Nat.zero_le _⟩ hS (AC_le hS.1) (fun H locs hP hS hk1 => ?_)
          refine lv_istore_n (lv' := [(2, .int r26), (0, .ref (a 2)), (1, .int v14), (3, .int v16)]) hx hb dX5_form_38 rfl hl (by decide) rfl (fun ls hl => ?_)
          obtain ⟨x29, ex29⟩ : ∃ z : Int32, z = v16 + 1 := ⟨_, rfl⟩
          have hm := bnd_x ex29 hm
          refine lv_iinc (v := x29) (lv' := [(3, .int x29), (2, .int r26), (0, .ref (a 2)), (1, .int v14)]) hx hb dX5_form_39 hl (k := 3) rfl (by rw [ex29]; rfl) (by decide) rfl (fun ls hl => ?_)
          refine lv_goto (tgt := 8) hx hb dX5_form_42 (by decide) ?_
          exact ih8 s28 v14 r26 x29 _ _ _ hP hS (lv_sub hl [2, 3, 1, 0] rfl) hm
  unfold bX5_form at hm
  refine lv_aload_n hx hb dX5_form_0 rfl (lv_at hl 0 rfl) ?_
  refine lv_iload_n hx hb dX5_form_1 rfl (lv_at hl 1 rfl) ?_
  obtain ⟨⟨r30, s32⟩, h31, hm⟩ := ok_bind hm
  refine calV_i (As := [.int p1]) (rest := []) ⟨hx, hb, hml, hown, hts⟩ (c_X5_both _ σ s32 p1 r30 h31) (cwV 1 hts (gAV aM_X5_49 aI_X5_both aS_X5_both aN_X5 aC_X5_both) rfl rfl rfl eX5_both ⟨Nat.le_refl _, by show 8 + (4 + 11) + lo ≤ lo + 23; omega⟩) (preV_W (ci := 5) (q := (RX5, TX5, 5)) hK hP hF hS rfl (wC_2 y a σ)) rfl hl.1 rfl (Nat.le_of_ble_eq_true rfl) dX5_form_2 ⟨Nat.zero_le _, Nat.zero_le _⟩ hS (AC_le hS.1) (fun H locs hP hS hk1 => ?_)
  refine lv_istore_n (lv' := [(2, .int r30), (0, .ref (a 2)), (1, .int p1)]) hx hb dX5_form_5 rfl hl (by decide) rfl (fun ls hl => ?_)
  refine lv_iconst (v := 0) hx hb dX5_form_6 (by decide) ?_
  refine lv_istore_n (lv' := [(3, .int 0), (2, .int r30), (0, .ref (a 2)), (1, .int p1)]) hx hb dX5_form_7 rfl hl (by decide) rfl (fun ls hl => ?_)
  exact L_8 NF s32 p1 r30 0 _ _ _ hP hS (lv_sub hl [2, 3, 1, 0] rfl) hm
set_option maxHeartbeats 4000000 in
set_option maxRecDepth 100000 in
theorem oX5_plain (l : Launch) (D : va_G) (y : Nat → ClassId) (a t : Nat → Nat) (hI : AI a 37) (fr lo : Nat) (hfr : 3 ≤ fr) (hlo : 59 ≤ lo) (f_X5_both : St → Int32 → Option (Int32 × St)) (f_X5_form : St → Int32 → Option (Int32 × St)) (f_X5_plain : St → Int32 → Option (Int32 × St)) (c_X5_both : ∀ (sz : Nat) (σ τ : St) (p1 : Int32) (r : Int32), f_X5_both σ p1 = some (r, τ) → Met l yX5_both zX5_both { frames := fr, cells := 0, slots := 0, locals := lo } (va_Pc [.ref (a 2), .int p1] (preW (wC y a) a 37 D y t σ sz)) (va_Qi (fun r' u => r' = r ∧ u = τ) (posW (wC y a) D) (AC a 37 sz)) 0 0 (AC a 37 sz)) (c_X5_form : ∀ (sz : Nat) (σ τ : St) (p1 : Int32) (r : Int32), f_X5_form σ p1 = some (r, τ) → Met l yX5_form zX5_form { frames := fr, cells := 0, slots := 0, locals := lo } (va_Pc [.ref (a 2), .int p1] (preW (wC y a) a 37 D y t σ sz)) (va_Qi (fun r' u => r' = r ∧ u = τ) (posW (wC y a) D) (AC a 37 sz)) 0 0 (AC a 37 sz)) (c_X5_plain : ∀ (sz : Nat) (σ τ : St) (p1 : Int32) (r : Int32), f_X5_plain σ p1 = some (r, τ) → Met l yX5_plain zX5_plain { frames := fr, cells := 0, slots := 0, locals := lo } (va_Pc [.ref (a 2), .int p1] (preW (wC y a) a 37 D y t σ sz)) (va_Qi (fun r' u => r' = r ∧ u = τ) (posW (wC y a) D) (AC a 37 sz)) 0 0 (AC a 37 sz)) (sz : Nat) (σ τ : St) (p1 : Int32) (r : Int32) (hm : bX5_plain f_X5_both f_X5_form f_X5_plain σ p1 = some (r, τ)) : Met l yX5_plain zX5_plain { frames := fr + 1, cells := 0, slots := 0, locals := lo + 23 } (va_Pc [.ref (a 2), .int p1] (preW (wC y a) a 37 D y t σ sz)) (va_Qi (fun r' u => r' = r ∧ u = τ) (posW (wC y a) D) (AC a 37 sz)) 0 0 (AC a 37 sz) := by
  refine Met.ofW (cc := cX5_plain) (maxL := 4) (ret := (some .int)) (by decide) rfl ?_
  intro p e s m args below meth c s₁ B hml hv
  obtain ⟨rfl, hsz, hP, hK, hF⟩ := hv
  have hx := B.exec
  have hb := B.bytes
  have hr := B.returns
  have hts := atoms_spec (ws := zX5_plain) B.pre
  have hown : s.vm.findClass RX5 = some m.cls := findClass_of_methodNamed B.named
  have hlocks := B.notSynchronized
  subst hsz
  have l_f15 := hts _ (List.mem_cons_of_mem _ aF_X5_15)
  have l_f32 := hts _ (List.mem_cons_of_mem _ aF_X5_32)
  have l_f19 := hts _ (List.mem_cons_of_mem _ aF_X5_19)
  have h_X5 : ∀ w ∈ wsX50, w.before _ s = true := fun w hw => hts w (List.mem_cons_of_mem _ (hwX5 w hw))
  have hS : va_S (AC a 37 s.heap.size) s.heap s.heap [] := va_S.rf
  have hl := lv_entry ([.ref (a 2), .int p1]) (n := 4) (Nat.le_of_ble_eq_true rfl)
  rw [lg_entry_eq]
  generalize (lg_sl ([.ref (a 2), .int p1]) ++ List.replicate (4 - (lg_sl ([.ref (a 2), .int p1])).length) Slot.unset).toArray = ls at hl ⊢
  have hl : lv_has ls 4 [(0, .ref (a 2)), (1, .int p1)] := hl
  have L_18 : ∀ (s1 : St) (H : Heap) (locs : List Loc) (ls : Array Slot), va_P D vwCl (wC y a s1) H → va_S (AC a 37 s.heap.size) s.heap H locs → lv_has ls 4 [(0, .ref (a 2))] → mX5_plain_18 f_X5_both f_X5_form f_X5_plain s1 = some (r, τ) → W p l e (headSpec zX5_plain ({ frames := fr + 1, cells := 0, slots := 0, locals := lo + 23 })).room s m ([.ref (a 2), .int p1] : List Value).toArray below meth c H locs 0 0 (MQ below (va_Qi (fun r' u => r' = r ∧ u = τ) (posW (wC y a) D) (AC a 37 s.heap.size)) ([.ref (a 2), .int p1] : List Value).toArray s 0 0 (AC a 37 s.heap.size)) (F0 m 18 ls []) := by
    intro s1 H locs ls hP hS hl hm
    unfold mX5_plain_18 at hm
    refine lv_aload_n hx hb dX5_plain_18 rfl (lv_at hl 0 rfl) ?_
    obtain ⟨⟨r2, s4⟩, h3, hm⟩ := ok_bind hm
    refine calV_i (As := []) (rest := []) ⟨hx, hb, hml, hown, hts⟩ (kX5_fail l D y a t hI _ s1 s4 r2 h3) (cwV 0 hts (gAV aM_X5_42 aI_X5_fail aS_X5_fail aN_X5 aC_X5_fail) rfl rfl rfl eX5_fail ⟨by show 0 + 1 ≤ fr + 1; omega, by show 8 + (1 + 11) + 0 ≤ lo + 23; omega⟩) (preV_W (ci := 5) (q := (RX5, TX5, 5)) hK hP hF hS rfl (wC_2 y a s1)) rfl hl.1 rfl (Nat.le_of_ble_eq_true rfl) dX5_plain_19 ⟨Nat.zero_le _, Nat.zero_le _⟩ hS (AC_le hS.1) (fun H locs hP hS hk1 => ?_)
    exact W.iret (v := r2) hx hb hr (fun T hT hW => ⟨⟨r2, s4, rfl, ⟨congrArg Prod.fst (Option.some.inj hm), congrArg Prod.snd (Option.some.inj hm)⟩, by rw [posW, hT]; exact hP⟩, hS.F hT⟩) hS.2.2 dX5_plain_22
  have L_59 : ∀ (s6 : St) (v5 : Int32) (H : Heap) (locs : List Loc) (ls : Array Slot), va_P D vwCl (wC y a s6) H → va_S (AC a 37 s.heap.size) s.heap H locs → lv_has ls 4 [(0, .ref (a 2)), (1, .int v5)] → mX5_plain_59 f_X5_both f_X5_form f_X5_plain s6 v5 = some (r, τ) → W p l e (headSpec zX5_plain ({ frames := fr + 1, cells := 0, slots := 0, locals := lo + 23 })).room s m ([.ref (a 2), .int p1] : List Value).toArray below meth c H locs 0 0 (MQ below (va_Qi (fun r' u => r' = r ∧ u = τ) (posW (wC y a) D) (AC a 37 s.heap.size)) ([.ref (a 2), .int p1] : List Value).toArray s 0 0 (AC a 37 s.heap.size)) (F0 m 59 ls []) := by
    intro s6 v5 H locs ls hP hS hl hm
    unfold mX5_plain_59 at hm
    refine lv_aload_n hx hb dX5_plain_59 rfl (lv_at hl 0 rfl) ?_
    refine lv_bipush (v := 35) hx hb dX5_plain_60 (by decide) ?_
    obtain ⟨⟨r7, s9⟩, h8, hm⟩ := ok_bind hm
    refine calV_i (As := [.int 35]) (rest := []) ⟨hx, hb, hml, hown, hts⟩ (kX5_takes l D y a t hI _ s6 s9 35 r7 h8) (cwV 1 hts (gAV aM_X5_52 aI_X5_takes aS_X5_takes aN_X5 aC_X5_takes) rfl rfl rfl eX5_takes ⟨by show 1 + 1 ≤ fr + 1; omega, by show 8 + (2 + 11) + 20 ≤ lo + 23; omega⟩) (preV_W (ci := 5) (q := (RX5, TX5, 5)) hK hP hF hS rfl (wC_2 y a s6)) rfl hl.1 rfl (Nat.le_of_ble_eq_true rfl) dX5_plain_62 ⟨Nat.zero_le _, Nat.zero_le _⟩ hS (AC_le hS.1) (fun H locs hP hS hk1 => ?_)
    refine lv_if_eq (tgt := 79) hx hb dX5_plain_65 (by decide) (fun c10 => ?_) (fun c10 => ?_)
    · have hm := (if_pos c10).symm.trans hm
      refine lv_aload_n hx hb dX5_plain_79 rfl (lv_at hl 0 rfl) ?_
      refine lv_bipush (v := 45) hx hb dX5_plain_80 (by decide) ?_
      obtain ⟨⟨r11, s13⟩, h12, hm⟩ := ok_bind hm
      refine calV_i (As := [.int 45]) (rest := []) ⟨hx, hb, hml, hown, hts⟩ (kX5_takes l D y a t hI _ s9 s13 45 r11 h12) (cwV 1 hts (gAV aM_X5_52 aI_X5_takes aS_X5_takes aN_X5 aC_X5_takes) rfl rfl rfl eX5_takes ⟨by show 1 + 1 ≤ fr + 1; omega, by show 8 + (2 + 11) + 20 ≤ lo + 23; omega⟩) (preV_W (ci := 5) (q := (RX5, TX5, 5)) hK hP hF hS rfl (wC_2 y a s9)) rfl hl.1 rfl (Nat.le_of_ble_eq_true rfl) dX5_plain_82 ⟨Nat.zero_le _, Nat.zero_le _⟩ hS (AC_le hS.1) (fun H locs hP hS hk1 => ?_)
      refine lv_if_eq (tgt := 105) hx hb dX5_plain_85 (by decide) (fun c14 => ?_) (fun c14 => ?_)
      · have hm := (if_pos c14).symm.trans hm
        refine lv_aload_n hx hb dX5_plain_105 rfl (lv_at hl 0 rfl) ?_
        refine lv_bipush (v := 40) hx hb dX5_plain_106 (by decide) ?_
        obtain ⟨⟨r15, s17⟩, h16, hm⟩ := ok_bind hm
        refine calV_i (As := [.int 40]) (rest := []) ⟨hx, hb, hml, hown, hts⟩ (kX5_takes l D y a t hI _ s13 s17 40 r15 h16) (cwV 1 hts (gAV aM_X5_52 aI_X5_takes aS_X5_takes aN_X5 aC_X5_takes) rfl rfl rfl eX5_takes ⟨by show 1 + 1 ≤ fr + 1; omega, by show 8 + (2 + 11) + 20 ≤ lo + 23; omega⟩) (preV_W (ci := 5) (q := (RX5, TX5, 5)) hK hP hF hS rfl (wC_2 y a s13)) rfl hl.1 rfl (Nat.le_of_ble_eq_true rfl) dX5_plain_108 ⟨Nat.zero_le _, Nat.zero_le _⟩ hS (AC_le hS.1) (fun H locs hP hS hk1 => ?_)
        refine lv_if_eq (tgt := 140) hx hb dX5_plain_111 (by decide) (fun c18 => ?_) (fun c18 => ?_)
        · have hm := (if_pos c18).symm.trans hm
          refine lv_aload_n hx hb dX5_plain_140 rfl (lv_at hl 0 rfl) ?_
          obtain ⟨⟨r19, s21⟩, h20, hm⟩ := ok_bind hm
          refine calV_i (As := []) (rest := []) ⟨hx, hb, hml, hown, hts⟩ (kX5_fail l D y a t hI _ s17 s21 r19 h20) (cwV 0 hts (gAV aM_X5_42 aI_X5_fail aS_X5_fail aN_X5 aC_X5_fail) rfl rfl rfl eX5_fail ⟨by show 0 + 1 ≤ fr + 1; omega, by show 8 + (1 + 11) + 0 ≤ lo + 23; omega⟩) (preV_W (ci := 5) (q := (RX5, TX5, 5)) hK hP hF hS rfl (wC_2 y a s17)) rfl hl.1 rfl (Nat.le_of_ble_eq_true rfl) dX5_plain_141 ⟨Nat.zero_le _, Nat.zero_le _⟩ hS (AC_le hS.1) (fun H locs hP hS hk1 => ?_)
          exact W.iret (v := r19) hx hb hr (fun T hT hW => ⟨⟨r19, s21, rfl, ⟨congrArg Prod.fst (Option.some.inj hm), congrArg Prod.snd (Option.some.inj hm)⟩, by rw [posW, hT]; exact hP⟩, hS.F hT⟩) hS.2.2 dX5_plain_144
        · have hm := (if_neg c18).symm.trans hm
          refine lv_aload_n hx hb dX5_plain_114 rfl (lv_at hl 0 rfl) ?_
          refine lv_iload_n hx hb dX5_plain_115 rfl (lv_at hl 1 rfl) ?_
          refine lv_iconst (v := 1) hx hb dX5_plain_116 (by decide) ?_
          refine lv_iadd hx hb dX5_plain_117 ?_
          obtain ⟨⟨r22, s24⟩, h23, hm⟩ := ok_bind hm
          refine calV_i (As := [.int (v5 + 1)]) (rest := []) ⟨hx, hb, hml, hown, hts⟩ (c_X5_form _ s17 s24 (v5 + 1) r22 h23) (cwV 1 hts (gAV aM_X5_35 aI_X5_form aS_X5_form aN_X5 aC_X5_form) rfl rfl rfl eX5_form ⟨Nat.le_refl _, by show 8 + (4 + 11) + lo ≤ lo + 23; omega⟩) (preV_W (ci := 5) (q := (RX5, TX5, 5)) hK hP hF hS rfl (wC_2 y a s17)) rfl hl.1 rfl (Nat.le_of_ble_eq_true rfl) dX5_plain_118 ⟨Nat.zero_le _, Nat.zero_le _⟩ hS (AC_le hS.1) (fun H locs hP hS hk1 => ?_)
          refine lv_istore_n (lv' := [(3, .int r22), (0, .ref (a 2)), (1, .int v5)]) hx hb dX5_plain_121 rfl hl (by decide) rfl (fun ls hl => ?_)
          refine lv_aload_n hx hb dX5_plain_122 rfl (lv_at hl 1 rfl) ?_
          refine lv_bipush (v := 41) hx hb dX5_plain_123 (by decide) ?_
          obtain ⟨⟨r25, s27⟩, h26, hm⟩ := ok_bind hm
          refine calV_i (As := [.int 41]) (rest := []) ⟨hx, hb, hml, hown, hts⟩ (kX5_takes l D y a t hI _ s24 s27 41 r25 h26) (cwV 1 hts (gAV aM_X5_52 aI_X5_takes aS_X5_takes aN_X5 aC_X5_takes) rfl rfl rfl eX5_takes ⟨by show 1 + 1 ≤ fr + 1; omega, by show 8 + (2 + 11) + 20 ≤ lo + 23; omega⟩) (preV_W (ci := 5) (q := (RX5, TX5, 5)) hK hP hF hS rfl (wC_2 y a s24)) rfl hl.1 rfl (Nat.le_of_ble_eq_true rfl) dX5_plain_125 ⟨Nat.zero_le _, Nat.zero_le _⟩ hS (AC_le hS.1) (fun H locs hP hS hk1 => ?_)
          refine lv_if_eq (tgt := 135) hx hb dX5_plain_128 (by decide) (fun c28 => ?_) (fun c28 => ?_)
          · have hm := (if_pos c28).symm.trans hm
            refine lv_aload_n hx hb dX5_plain_135 rfl (lv_at hl 1 rfl) ?_
            obtain ⟨⟨r29, s31⟩, h30, hm⟩ := ok_bind hm
            refine calV_i (As := []) (rest := []) ⟨hx, hb, hml, hown, hts⟩ (kX5_fail l D y a t hI _ s27 s31 r29 h30) (cwV 0 hts (gAV aM_X5_42 aI_X5_fail aS_X5_fail aN_X5 aC_X5_fail) rfl rfl rfl eX5_fail ⟨by show 0 + 1 ≤ fr + 1; omega, by show 8 + (1 + 11) + 0 ≤ lo + 23; omega⟩) (preV_W (ci := 5) (q := (RX5, TX5, 5)) hK hP hF hS rfl (wC_2 y a s27)) rfl hl.1 rfl (Nat.le_of_ble_eq_true rfl) dX5_plain_136 ⟨Nat.zero_le _, Nat.zero_le _⟩ hS (AC_le hS.1) (fun H locs hP hS hk1 => ?_)
            exact W.iret (v := r29) hx hb hr (fun T hT hW => ⟨⟨r29, s31, rfl, ⟨congrArg Prod.fst (Option.some.inj hm), congrArg Prod.snd (Option.some.inj hm)⟩, by rw [posW, hT]; exact hP⟩, hS.F hT⟩) hS.2.2 dX5_plain_139
          · have hm := (if_neg c28).symm.trans hm
            refine lv_iload_n hx hb dX5_plain_131 rfl (lv_at hl 0 rfl) ?_
            refine lv_goto (tgt := 139) hx hb dX5_plain_132 (by decide) ?_
            exact W.iret (v := r22) hx hb hr (fun T hT hW => ⟨⟨r22, s27, rfl, ⟨congrArg Prod.fst (Option.some.inj hm), congrArg Prod.snd (Option.some.inj hm)⟩, by rw [posW, hT]; exact hP⟩, hS.F hT⟩) hS.2.2 dX5_plain_139
      · have hm := (if_neg c14).symm.trans hm
        refine lv_aload_n hx hb dX5_plain_88 rfl (lv_at hl 0 rfl) ?_
        refine gfX5_formulas hx hb h_X5 hown hK hP l_f19 dX5_plain_89 ?_
        refine lv_iconst (v := 2) hx hb dX5_plain_92 (by decide) ?_
        refine lv_aload_n hx hb dX5_plain_93 rfl (lv_at hl 0 rfl) ?_
        refine lv_iload_n hx hb dX5_plain_94 rfl (lv_at hl 1 rfl) ?_
        refine lv_iconst (v := 1) hx hb dX5_plain_95 (by decide) ?_
        refine lv_iadd hx hb dX5_plain_96 ?_
        obtain ⟨⟨r32, s34⟩, h33, hm⟩ := ok_bind hm
        refine calV_i (As := [.int (v5 + 1)]) (rest := [.int 2, .ref (a 1)]) ⟨hx, hb, hml, hown, hts⟩ (c_X5_plain _ s13 s34 (v5 + 1) r32 h33) (cwV 1 hts (gAV aM_X5_60 aI_X5_plain aS_X5_plain aN_X5 aC_X5_plain) rfl rfl rfl eX5_plain ⟨Nat.le_refl _, by show 8 + (4 + 11) + lo ≤ lo + 23; omega⟩) (preV_W (ci := 5) (q := (RX5, TX5, 5)) hK hP hF hS rfl (wC_2 y a s13)) rfl hl.1 rfl (Nat.le_of_ble_eq_true rfl) dX5_plain_97 ⟨Nat.zero_le _, Nat.zero_le _⟩ hS (AC_le hS.1) (fun H locs hP hS hk1 => ?_)
        refine lv_iconst (v := (-1)) hx hb dX5_plain_100 (by decide) ?_
        obtain ⟨⟨r35, s37⟩, h36, hm⟩ := ok_bind hm
        refine calV_i (As := [.int 2, .int r32, .int (-1)]) (rest := []) ⟨hx, hb, hml, hown, hts⟩ (kX1_number l D y a t hI _ s34 s37 2 r32 (-1) r35 h36) (cwV 3 hts (gAV aM_X5_56 aI_X1_number aS_X1_number aN_X1 aC_X1_number) rfl rfl rfl eX1_number ⟨by show 2 + 1 ≤ fr + 1; omega, by show 8 + (7 + 11) + 51 ≤ lo + 23; omega⟩) (preV_W (ci := 1) (q := (RX1, TX1, 8)) hK hP hF hS rfl (wC_1 y a s34)) rfl hl.1 rfl (Nat.le_of_ble_eq_true rfl) dX5_plain_101 ⟨Nat.zero_le _, Nat.zero_le _⟩ hS (AC_le hS.1) (fun H locs hP hS hk1 => ?_)
        exact W.iret (v := r35) hx hb hr (fun T hT hW => ⟨⟨r35, s37, rfl, ⟨congrArg Prod.fst (Option.some.inj hm), congrArg Prod.snd (Option.some.inj hm)⟩, by rw [posW, hT]; exact hP⟩, hS.F hT⟩) hS.2.2 dX5_plain_104
    · have hm := (if_neg c10).symm.trans hm
      refine lv_aload_n hx hb dX5_plain_68 rfl (lv_at hl 0 rfl) ?_
      refine gfX5_formulas hx hb h_X5 hown hK hP l_f19 dX5_plain_69 ?_
      refine lv_iconst (v := 1) hx hb dX5_plain_72 (by decide) ?_
      refine lv_iconst (v := (-1)) hx hb dX5_plain_73 (by decide) ?_
      refine lv_iconst (v := (-1)) hx hb dX5_plain_74 (by decide) ?_
      obtain ⟨⟨r38, s40⟩, h39, hm⟩ := ok_bind hm
      refine calV_i (As := [.int 1, .int (-1), .int (-1)]) (rest := []) ⟨hx, hb, hml, hown, hts⟩ (kX1_number l D y a t hI _ s9 s40 1 (-1) (-1) r38 h39) (cwV 3 hts (gAV aM_X5_56 aI_X1_number aS_X1_number aN_X1 aC_X1_number) rfl rfl rfl eX1_number ⟨by show 2 + 1 ≤ fr + 1; omega, by show 8 + (7 + 11) + 51 ≤ lo + 23; omega⟩) (preV_W (ci := 1) (q := (RX1, TX1, 8)) hK hP hF hS rfl (wC_1 y a s9)) rfl hl.1 rfl (Nat.le_of_ble_eq_true rfl) dX5_plain_75 ⟨Nat.zero_le _, Nat.zero_le _⟩ hS (AC_le hS.1) (fun H locs hP hS hk1 => ?_)
      exact W.iret (v := r38) hx hb hr (fun T hT hW => ⟨⟨r38, s40, rfl, ⟨congrArg Prod.fst (Option.some.inj hm), congrArg Prod.snd (Option.some.inj hm)⟩, by rw [posW, hT]; exact hP⟩, hS.F hT⟩) hS.2.2 dX5_plain_78
  unfold bX5_plain at hm
  refine lv_aload_n hx hb dX5_plain_0 rfl (lv_at hl 0 rfl) ?_
  obtain ⟨⟨r41, s43⟩, h42, hm⟩ := ok_bind hm
  refine calV_i (As := []) (rest := []) ⟨hx, hb, hml, hown, hts⟩ (kX5_next l D y a t hI _ σ s43 r41 h42) (cwV 0 hts (gAV aM_X5_39 aI_X5_next aS_X5_next aN_X5 aC_X5_next) rfl rfl rfl eX5_next ⟨by show 0 + 1 ≤ fr + 1; omega, by show 8 + (1 + 11) + 0 ≤ lo + 23; omega⟩) (preV_W (ci := 5) (q := (RX5, TX5, 5)) hK hP hF hS rfl (wC_2 y a σ)) rfl hl.1 rfl (Nat.le_of_ble_eq_true rfl) dX5_plain_1 ⟨Nat.zero_le _, Nat.zero_le _⟩ hS (AC_le hS.1) (fun H locs hP hS hk1 => ?_)
  refine lv_istore_n (lv' := [(2, .int r41), (0, .ref (a 2)), (1, .int p1)]) hx hb dX5_plain_4 rfl hl (by decide) rfl (fun ls hl => ?_)
  refine lv_iload_n hx hb dX5_plain_5 rfl (lv_at hl 2 rfl) ?_
  refine lv_bipush (v := 10) hx hb dX5_plain_6 (by decide) ?_
  refine lv_icmp_gt (tgt := 18) hx hb dX5_plain_8 (by decide) (fun c44 => ?_) (fun c44 => ?_)
  · have hm := (if_pos c44).symm.trans hm
    exact L_18 s43 _ _ _ hP hS (lv_sub hl [1] rfl) hm
  · have hm := (if_neg c44).symm.trans hm
    refine lv_aload_n hx hb dX5_plain_11 rfl (lv_at hl 1 rfl) ?_
    refine gfX5_error hx hb h_X5 hown hK hP l_f15 dX5_plain_12 ?_
    refine lv_if_lt (tgt := 23) hx hb dX5_plain_15 (by decide) (fun c45 => ?_) (fun c45 => ?_)
    · have hm := (if_pos c45).symm.trans hm
      refine lv_iload_n hx hb dX5_plain_23 rfl (lv_at hl 0 rfl) ?_
      refine lv_bipush (v := 97) hx hb dX5_plain_24 (by decide) ?_
      refine lv_icmp_lt (tgt := 59) hx hb dX5_plain_26 (by decide) (fun c46 => ?_) (fun c46 => ?_)
      · have hm := (if_pos c46).symm.trans hm
        exact L_59 s43 p1 _ _ _ hP hS (lv_sub hl [1, 2] rfl) hm
      · have hm := (if_neg c46).symm.trans hm
        refine lv_iload_n hx hb dX5_plain_29 rfl (lv_at hl 0 rfl) ?_
        refine lv_bipush (v := 105) hx hb dX5_plain_30 (by decide) ?_
        refine lv_icmp_ge (tgt := 59) hx hb dX5_plain_32 (by decide) (fun c47 => ?_) (fun c47 => ?_)
        · have hm := (if_pos c47).symm.trans hm
          exact L_59 s43 p1 _ _ _ hP hS (lv_sub hl [1, 2] rfl) hm
        · have hm := (if_neg c47).symm.trans hm
          refine lv_aload_n hx hb dX5_plain_35 rfl (lv_at hl 1 rfl) ?_
          refine lv_dup hx hb dX5_plain_36 rfl ?_
          refine gfX5_at hx hb h_X5 hown hK hP l_f32 dX5_plain_37 ?_
          refine lv_iconst (v := 1) hx hb dX5_plain_40 (by decide) ?_
          refine lv_iadd hx hb dX5_plain_41 ?_
          refine pfX5_at hx hb h_X5 hown hK hP hI AC_in hS l_f32 dX5_plain_42 (fun H locs hP hS => ?_)
          generalize es48 : su s43 2 (fun _ => (s43.1 2 0) + 1) = s48 at hP
          have hm := bnd_x es48.symm hm
          refine lv_aload_n hx hb dX5_plain_45 rfl (lv_at hl 1 rfl) ?_
          refine gfX5_formulas hx hb h_X5 hown hK hP l_f19 dX5_plain_46 ?_
          refine lv_iconst (v := 0) hx hb dX5_plain_49 (by decide) ?_
          refine lv_iload_n hx hb dX5_plain_50 rfl (lv_at hl 0 rfl) ?_
          refine lv_bipush (v := 97) hx hb dX5_plain_51 (by decide) ?_
          refine lv_isub hx hb dX5_plain_53 ?_
          refine lv_iconst (v := (-1)) hx hb dX5_plain_54 (by decide) ?_
          obtain ⟨⟨r49, s51⟩, h50, hm⟩ := ok_bind hm
          refine calV_i (As := [.int 0, .int (r41 - 97), .int (-1)]) (rest := []) ⟨hx, hb, hml, hown, hts⟩ (kX1_number l D y a t hI _ s48 s51 0 (r41 - 97) (-1) r49 h50) (cwV 3 hts (gAV aM_X5_56 aI_X1_number aS_X1_number aN_X1 aC_X1_number) rfl rfl rfl eX1_number ⟨by show 2 + 1 ≤ fr + 1; omega, by show 8 + (7 + 11) + 51 ≤ lo + 23; omega⟩) (preV_W (ci := 1) (q := (RX1, TX1, 8)) hK hP hF hS rfl (wC_1 y a s48)) rfl hl.1 rfl (Nat.le_of_ble_eq_true rfl) dX5_plain_55 ⟨Nat.zero_le _, Nat.zero_le _⟩ hS (AC_le hS.1) (fun H locs hP hS hk1 => ?_)
          exact W.iret (v := r49) hx hb hr (fun T hT hW => ⟨⟨r49, s51, rfl, ⟨congrArg Prod.fst (Option.some.inj hm), congrArg Prod.snd (Option.some.inj hm)⟩, by rw [posW, hT]; exact hP⟩, hS.F hT⟩) hS.2.2 dX5_plain_58
    · have hm := (if_neg c45).symm.trans hm
      exact L_18 s43 _ _ _ hP hS (lv_sub hl [1] rfl) hm
set_option maxHeartbeats 4000000 in
set_option maxRecDepth 100000 in
theorem qX5_both (l : Launch) (D : va_G) (y : Nat → ClassId) (a t : Nat → Nat) (hI : AI a 37) : ∀ d : Nat, (∀ (sz : Nat) (σ τ : St) (p1 : Int32) (r : Int32), ((gX5_both d).1) σ p1 = some (r, τ) → Met l yX5_both zX5_both { frames := 3 + d, cells := 0, slots := 0, locals := 59 + 23 * d } (va_Pc [.ref (a 2), .int p1] (preW (wC y a) a 37 D y t σ sz)) (va_Qi (fun r' u => r' = r ∧ u = τ) (posW (wC y a) D) (AC a 37 sz)) 0 0 (AC a 37 sz)) ∧ (∀ (sz : Nat) (σ τ : St) (p1 : Int32) (r : Int32), ((gX5_both d).2.1) σ p1 = some (r, τ) → Met l yX5_form zX5_form { frames := 3 + d, cells := 0, slots := 0, locals := 59 + 23 * d } (va_Pc [.ref (a 2), .int p1] (preW (wC y a) a 37 D y t σ sz)) (va_Qi (fun r' u => r' = r ∧ u = τ) (posW (wC y a) D) (AC a 37 sz)) 0 0 (AC a 37 sz)) ∧ (∀ (sz : Nat) (σ τ : St) (p1 : Int32) (r : Int32), ((gX5_both d).2.2) σ p1 = some (r, τ) → Met l yX5_plain zX5_plain { frames := 3 + d, cells := 0, slots := 0, locals := 59 + 23 * d } (va_Pc [.ref (a 2), .int p1] (preW (wC y a) a 37 D y t σ sz)) (va_Qi (fun r' u => r' = r ∧ u = τ) (posW (wC y a) D) (AC a 37 sz)) 0 0 (AC a 37 sz)) := by
  intro d
  induction d with
  | zero => exact ⟨fun _ _ _ _ _ h => (by cases h), fun _ _ _ _ _ h => (by cases h), fun _ _ _ _ _ h => (by cases h)⟩
  | succ d ih =>
    obtain ⟨ih0, ih1, ih2⟩ := ih
    have q0 : ∀ (sz : Nat) (σ τ : St) (p1 : Int32) (r : Int32), ((gX5_both (d + 1)).1) σ p1 = some (r, τ) → Met l yX5_both zX5_both { frames := 3 + (d + 1), cells := 0, slots := 0, locals := 59 + 23 * (d + 1) } (va_Pc [.ref (a 2), .int p1] (preW (wC y a) a 37 D y t σ sz)) (va_Qi (fun r' u => r' = r ∧ u = τ) (posW (wC y a) D) (AC a 37 sz)) 0 0 (AC a 37 sz) := by
      intro sz σ τ p1 r hm
      rw [show 59 + 23 * (d + 1) = 59 + 23 * d + 23 by omega]
      exact oX5_both l D y a t hI (3 + d) (59 + 23 * d) (by omega) (by omega) ((gX5_both d).1) ((gX5_both d).2.1) ((gX5_both d).2.2) ih0 ih1 ih2 sz σ τ p1 r hm
    have q1 : ∀ (sz : Nat) (σ τ : St) (p1 : Int32) (r : Int32), ((gX5_both (d + 1)).2.1) σ p1 = some (r, τ) → Met l yX5_form zX5_form { frames := 3 + (d + 1), cells := 0, slots := 0, locals := 59 + 23 * (d + 1) } (va_Pc [.ref (a 2), .int p1] (preW (wC y a) a 37 D y t σ sz)) (va_Qi (fun r' u => r' = r ∧ u = τ) (posW (wC y a) D) (AC a 37 sz)) 0 0 (AC a 37 sz) := by
      intro sz σ τ p1 r hm
      rw [show 59 + 23 * (d + 1) = 59 + 23 * d + 23 by omega]
      exact oX5_form l D y a t hI (3 + d) (59 + 23 * d) (by omega) (by omega) ((gX5_both d).1) ((gX5_both d).2.1) ((gX5_both d).2.2) ih0 ih1 ih2 sz σ τ p1 r hm
    have q2 : ∀ (sz : Nat) (σ τ : St) (p1 : Int32) (r : Int32), ((gX5_both (d + 1)).2.2) σ p1 = some (r, τ) → Met l yX5_plain zX5_plain { frames := 3 + (d + 1), cells := 0, slots := 0, locals := 59 + 23 * (d + 1) } (va_Pc [.ref (a 2), .int p1] (preW (wC y a) a 37 D y t σ sz)) (va_Qi (fun r' u => r' = r ∧ u = τ) (posW (wC y a) D) (AC a 37 sz)) 0 0 (AC a 37 sz) := by
      intro sz σ τ p1 r hm
      rw [show 59 + 23 * (d + 1) = 59 + 23 * d + 23 by omega]
      exact oX5_plain l D y a t hI (3 + d) (59 + 23 * d) (by omega) (by omega) ((gX5_both d).1) ((gX5_both d).2.1) ((gX5_both d).2.2) ih0 ih1 ih2 sz σ τ p1 r hm
    exact ⟨q0, q1, q2⟩
theorem kX5_both (l : Launch) (D : va_G) (y : Nat → ClassId) (a t : Nat → Nat) (hI : AI a 37) : ∀ (sz : Nat) (σ τ : St) (p1 : Int32) (r : Int32), mX5_both σ p1 = some (r, τ) → Met l yX5_both zX5_both { frames := 43, cells := 0, slots := 0, locals := 979 } (va_Pc [.ref (a 2), .int p1] (preW (wC y a) a 37 D y t σ sz)) (va_Qi (fun r' u => r' = r ∧ u = τ) (posW (wC y a) D) (AC a 37 sz)) 0 0 (AC a 37 sz) := (qX5_both l D y a t hI 40).1
theorem kX5_form (l : Launch) (D : va_G) (y : Nat → ClassId) (a t : Nat → Nat) (hI : AI a 37) : ∀ (sz : Nat) (σ τ : St) (p1 : Int32) (r : Int32), mX5_form σ p1 = some (r, τ) → Met l yX5_form zX5_form { frames := 43, cells := 0, slots := 0, locals := 979 } (va_Pc [.ref (a 2), .int p1] (preW (wC y a) a 37 D y t σ sz)) (va_Qi (fun r' u => r' = r ∧ u = τ) (posW (wC y a) D) (AC a 37 sz)) 0 0 (AC a 37 sz) := (qX5_both l D y a t hI 40).2.1
theorem kX5_plain (l : Launch) (D : va_G) (y : Nat → ClassId) (a t : Nat → Nat) (hI : AI a 37) : ∀ (sz : Nat) (σ τ : St) (p1 : Int32) (r : Int32), mX5_plain σ p1 = some (r, τ) → Met l yX5_plain zX5_plain { frames := 43, cells := 0, slots := 0, locals := 979 } (va_Pc [.ref (a 2), .int p1] (preW (wC y a) a 37 D y t σ sz)) (va_Qi (fun r' u => r' = r ∧ u = τ) (posW (wC y a) D) (AC a 37 sz)) 0 0 (AC a 37 sz) := (qX5_both l D y a t hI 40).2.2
theorem eX5_parse : yX5_parse.cls = RX5 ∧ yX5_parse.cls ≠ "java/lang/invoke/MethodHandle" ∧ yX5_parse.cls ≠ "java/lang/invoke/VarHandle" ∧ (parseMethodDescriptor yX5_parse.desc).map (fun d => d.parameters.length) = some 0 := by decide +kernel
def mX5_parse_43 (s3 : St) (v1 : Int32) (v2 : Int32) : Option (Int32 × St) :=
bnd (su s3 1 (fun _ => 0)) fun s4 =>
if (s4.1 3 0) < 0 then (
if 0 ≤ v2 then (
some (v2, s4))
else (
(mX1_forgetFrom s4 v1).bind fun s8 =>
bnd (su s8 3 (fun _ => 0)) fun s9 =>
some ((-2), s9)))
else (
(mX1_forgetFrom s4 v1).bind fun s11 =>
some ((-1), s11))
def mX5_parse (σ : St) : Option (Int32 × St) :=
(mX1_known σ).bind fun r12 =>
bnd (su σ 2 (fun _ => 0)) fun s14 =>
bnd (su s14 3 (fun _ => (-1))) fun s15 =>
(mX5_form s15 0).bind fun ⟨r16, s18⟩ =>
if 0 ≤ (s18.1 3 0) then (
mX5_parse_43 s18 r12 r16)
else (
(mX5_next s18).bind fun ⟨r20, s22⟩ =>
if r20 < 0 then (
mX5_parse_43 s22 r12 r16)
else (
(mX5_fail s22).bind fun ⟨r24, s26⟩ =>
mX5_parse_43 s26 r12 r16))
set_option maxHeartbeats 4000000 in
set_option maxRecDepth 100000 in
theorem kX5_parse (l : Launch) (D : va_G) (y : Nat → ClassId) (a t : Nat → Nat) (hI : AI a 37) (sz : Nat) (σ τ : St) (r : Int32) (hm : mX5_parse σ = some (r, τ)) : Met l yX5_parse zX5_parse { frames := 44, cells := 0, slots := 0, locals := 1002 } (va_Pc [.ref (a 2)] (preW (wC y a) a 37 D y t σ sz)) (va_Qi (fun r' u => r' = r ∧ u = τ) (posW (wC y a) D) (AC a 37 sz)) 0 0 (AC a 37 sz) := by
  refine Met.ofW (cc := cX5_parse) (maxL := 3) (ret := (some .int)) (by decide) rfl ?_
  intro p e s m args below meth c s₁ B hml hv
  obtain ⟨rfl, hsz, hP, hK, hF⟩ := hv
  have hx := B.exec
  have hb := B.bytes
  have hr := B.returns
  have hts := atoms_spec (ws := zX5_parse) B.pre
  have hown : s.vm.findClass RX5 = some m.cls := findClass_of_methodNamed B.named
  have hlocks := B.notSynchronized
  subst hsz
  have l_f19 := hts _ (List.mem_cons_of_mem _ aF_X5_19)
  have l_f32 := hts _ (List.mem_cons_of_mem _ aF_X5_32)
  have l_f15 := hts _ (List.mem_cons_of_mem _ aF_X5_15)
  have l_f23 := hts _ (List.mem_cons_of_mem _ aF_X5_23)
  have h_X5 : ∀ w ∈ wsX50, w.before _ s = true := fun w hw => hts w (List.mem_cons_of_mem _ (hwX5 w hw))
  have hS : va_S (AC a 37 s.heap.size) s.heap s.heap [] := va_S.rf
  have hl := lv_entry ([.ref (a 2)]) (n := 3) (Nat.le_of_ble_eq_true rfl)
  rw [lg_entry_eq]
  generalize (lg_sl ([.ref (a 2)]) ++ List.replicate (3 - (lg_sl ([.ref (a 2)])).length) Slot.unset).toArray = ls at hl ⊢
  have hl : lv_has ls 3 [(0, .ref (a 2))] := hl
  have L_43 : ∀ (s3 : St) (v1 : Int32) (v2 : Int32) (H : Heap) (locs : List Loc) (ls : Array Slot), va_P D vwCl (wC y a s3) H → va_S (AC a 37 s.heap.size) s.heap H locs → lv_has ls 3 [(0, .ref (a 2)), (1, .int v1), (2, .int v2)] → mX5_parse_43 s3 v1 v2 = some (r, τ) → W p l e (headSpec zX5_parse ({ frames := 44, cells := 0, slots := 0, locals := 1002 })).room s m ([.ref (a 2)] : List Value).toArray below meth c H locs 0 0 (MQ below (va_Qi (fun r' u => r' = r ∧ u = τ) (posW (wC y a) D) (AC a 37 s.heap.size)) ([.ref (a 2)] : List Value).toArray s 0 0 (AC a 37 s.heap.size)) (F0 m 43 ls []) := by
    intro s3 v1 v2 H locs ls hP hS hl hm
    unfold mX5_parse_43 at hm
    refine lv_aload_n hx hb dX5_parse_43 rfl (lv_at hl 0 rfl) ?_
    refine lv_iconst (v := 0) hx hb dX5_parse_44 (by decide) ?_
    refine pfX5_size hx hb h_X5 hown hK hP hI AC_in hS l_f23 dX5_parse_45 (fun H locs hP hS => ?_)
    generalize es4 : su s3 1 (fun _ => 0) = s4 at hP
    have hm := bnd_x es4.symm hm
    refine lv_aload_n hx hb dX5_parse_48 rfl (lv_at hl 0 rfl) ?_
    refine gfX5_error hx hb h_X5 hown hK hP l_f15 dX5_parse_49 ?_
    refine lv_if_lt (tgt := 65) hx hb dX5_parse_52 (by decide) (fun c5 => ?_) (fun c5 => ?_)
    · have hm := (if_pos c5).symm.trans hm
      refine lv_iload_n hx hb dX5_parse_65 rfl (lv_at hl 2 rfl) ?_
      refine lv_if_ge (tgt := 85) hx hb dX5_parse_66 (by decide) (fun c6 => ?_) (fun c6 => ?_)
      · have hm := (if_pos c6).symm.trans hm
        refine lv_iload_n hx hb dX5_parse_85 rfl (lv_at hl 2 rfl) ?_
        exact W.iret (v := v2) hx hb hr (fun T hT hW => ⟨⟨v2, s4, rfl, ⟨congrArg Prod.fst (Option.some.inj hm), congrArg Prod.snd (Option.some.inj hm)⟩, by rw [posW, hT]; exact hP⟩, hS.F hT⟩) hS.2.2 dX5_parse_86
      · have hm := (if_neg c6).symm.trans hm
        refine lv_aload_n hx hb dX5_parse_69 rfl (lv_at hl 0 rfl) ?_
        refine gfX5_formulas hx hb h_X5 hown hK hP l_f19 dX5_parse_70 ?_
        refine lv_iload_n hx hb dX5_parse_73 rfl (lv_at hl 1 rfl) ?_
        obtain ⟨s8, h7, hm⟩ := ok_bind hm
        refine calV_v (As := [.int v1]) (rest := []) ⟨hx, hb, hml, hown, hts⟩ (kX1_forgetFrom l D y a t hI _ s4 s8 v1 h7) (cwV 1 hts (gAV aM_X5_45 aI_X1_forgetFrom aS_X1_forgetFrom aN_X1 aC_X1_forgetFrom) rfl rfl rfl eX1_forgetFrom ⟨Nat.le_of_ble_eq_true rfl, Nat.le_of_ble_eq_true rfl⟩) (preV_W (ci := 1) (q := (RX1, TX1, 8)) hK hP hF hS rfl (wC_1 y a s4)) rfl hl.1 rfl (Nat.le_of_ble_eq_true rfl) dX5_parse_74 ⟨Nat.zero_le _, Nat.zero_le _⟩ hS (AC_le hS.1) (fun H locs hP hS hk1 => ?_)
        refine lv_aload_n hx hb dX5_parse_77 rfl (lv_at hl 0 rfl) ?_
        refine lv_iconst (v := 0) hx hb dX5_parse_78 (by decide) ?_
        refine pfX5_error hx hb h_X5 hown hK hP hI AC_in hS l_f15 dX5_parse_79 (fun H locs hP hS => ?_)
        generalize es9 : su s8 3 (fun _ => 0) = s9 at hP
        have hm := bnd_x es9.symm hm
        refine lv_bipush (v := (-2)) hx hb dX5_parse_82 (by decide) ?_
        exact W.iret (v := (-2)) hx hb hr (fun T hT hW => ⟨⟨(-2), s9, rfl, ⟨congrArg Prod.fst (Option.some.inj hm), congrArg Prod.snd (Option.some.inj hm)⟩, by rw [posW, hT]; exact hP⟩, hS.F hT⟩) hS.2.2 dX5_parse_84
    · have hm := (if_neg c5).symm.trans hm
      refine lv_aload_n hx hb dX5_parse_55 rfl (lv_at hl 0 rfl) ?_
      refine gfX5_formulas hx hb h_X5 hown hK hP l_f19 dX5_parse_56 ?_
      refine lv_iload_n hx hb dX5_parse_59 rfl (lv_at hl 1 rfl) ?_
      obtain ⟨s11, h10, hm⟩ := ok_bind hm
      refine calV_v (As := [.int v1]) (rest := []) ⟨hx, hb, hml, hown, hts⟩ (kX1_forgetFrom l D y a t hI _ s4 s11 v1 h10) (cwV 1 hts (gAV aM_X5_45 aI_X1_forgetFrom aS_X1_forgetFrom aN_X1 aC_X1_forgetFrom) rfl rfl rfl eX1_forgetFrom ⟨Nat.le_of_ble_eq_true rfl, Nat.le_of_ble_eq_true rfl⟩) (preV_W (ci := 1) (q := (RX1, TX1, 8)) hK hP hF hS rfl (wC_1 y a s4)) rfl hl.1 rfl (Nat.le_of_ble_eq_true rfl) dX5_parse_60 ⟨Nat.zero_le _, Nat.zero_le _⟩ hS (AC_le hS.1) (fun H locs hP hS hk1 => ?_)
      refine lv_iconst (v := (-1)) hx hb dX5_parse_63 (by decide) ?_
      exact W.iret (v := (-1)) hx hb hr (fun T hT hW => ⟨⟨(-1), s11, rfl, ⟨congrArg Prod.fst (Option.some.inj hm), congrArg Prod.snd (Option.some.inj hm)⟩, by rw [posW, hT]; exact hP⟩, hS.F hT⟩) hS.2.2 dX5_parse_64
  unfold mX5_parse at hm
  refine lv_aload_n hx hb dX5_parse_0 rfl (lv_at hl 0 rfl) ?_
  refine gfX5_formulas hx hb h_X5 hown hK hP l_f19 dX5_parse_1 ?_
  obtain ⟨r12, h13, hm⟩ := ok_bind hm
  refine calV_i (As := []) (rest := []) ⟨hx, hb, hml, hown, hts⟩ (kX1_known l D y a t hI _ σ r12 h13) (cwV 0 hts (gAV aM_X5_26 aI_X1_known aS_X1_known aN_X1 aC_X1_known) rfl rfl rfl eX1_known ⟨Nat.le_of_ble_eq_true rfl, Nat.le_of_ble_eq_true rfl⟩) (preV_W (ci := 1) (q := (RX1, TX1, 8)) hK hP hF hS rfl (wC_1 y a σ)) rfl hl.1 rfl (Nat.le_of_ble_eq_true rfl) dX5_parse_4 ⟨Nat.zero_le _, Nat.zero_le _⟩ hS (AC_le hS.1) (fun H locs hP hS hk1 => ?_)
  refine lv_istore_n (lv' := [(1, .int r12), (0, .ref (a 2))]) hx hb dX5_parse_7 rfl hl (by decide) rfl (fun ls hl => ?_)
  refine lv_aload_n hx hb dX5_parse_8 rfl (lv_at hl 1 rfl) ?_
  refine lv_iconst (v := 0) hx hb dX5_parse_9 (by decide) ?_
  refine pfX5_at hx hb h_X5 hown hK hP hI AC_in hS l_f32 dX5_parse_10 (fun H locs hP hS => ?_)
  generalize es14 : su σ 2 (fun _ => 0) = s14 at hP
  have hm := bnd_x es14.symm hm
  refine lv_aload_n hx hb dX5_parse_13 rfl (lv_at hl 1 rfl) ?_
  refine lv_iconst (v := (-1)) hx hb dX5_parse_14 (by decide) ?_
  refine pfX5_error hx hb h_X5 hown hK hP hI AC_in hS l_f15 dX5_parse_15 (fun H locs hP hS => ?_)
  generalize es15 : su s14 3 (fun _ => (-1)) = s15 at hP
  have hm := bnd_x es15.symm hm
  refine lv_aload_n hx hb dX5_parse_18 rfl (lv_at hl 1 rfl) ?_
  refine lv_iconst (v := 0) hx hb dX5_parse_19 (by decide) ?_
  obtain ⟨⟨r16, s18⟩, h17, hm⟩ := ok_bind hm
  refine calV_i (As := [.int 0]) (rest := []) ⟨hx, hb, hml, hown, hts⟩ (kX5_form l D y a t hI _ s15 s18 0 r16 h17) (cwV 1 hts (gAV aM_X5_35 aI_X5_form aS_X5_form aN_X5 aC_X5_form) rfl rfl rfl eX5_form ⟨Nat.le_of_ble_eq_true rfl, Nat.le_of_ble_eq_true rfl⟩) (preV_W (ci := 5) (q := (RX5, TX5, 5)) hK hP hF hS rfl (wC_2 y a s15)) rfl hl.1 rfl (Nat.le_of_ble_eq_true rfl) dX5_parse_20 ⟨Nat.zero_le _, Nat.zero_le _⟩ hS (AC_le hS.1) (fun H locs hP hS hk1 => ?_)
  refine lv_istore_n (lv' := [(2, .int r16), (1, .int r12), (0, .ref (a 2))]) hx hb dX5_parse_23 rfl hl (by decide) rfl (fun ls hl => ?_)
  refine lv_aload_n hx hb dX5_parse_24 rfl (lv_at hl 2 rfl) ?_
  refine gfX5_error hx hb h_X5 hown hK hP l_f15 dX5_parse_25 ?_
  refine lv_if_ge (tgt := 43) hx hb dX5_parse_28 (by decide) (fun c19 => ?_) (fun c19 => ?_)
  · have hm := (if_pos c19).symm.trans hm
    exact L_43 s18 r12 r16 _ _ _ hP hS (lv_sub hl [2, 1, 0] rfl) hm
  · have hm := (if_neg c19).symm.trans hm
    refine lv_aload_n hx hb dX5_parse_31 rfl (lv_at hl 2 rfl) ?_
    obtain ⟨⟨r20, s22⟩, h21, hm⟩ := ok_bind hm
    refine calV_i (As := []) (rest := []) ⟨hx, hb, hml, hown, hts⟩ (kX5_next l D y a t hI _ s18 s22 r20 h21) (cwV 0 hts (gAV aM_X5_39 aI_X5_next aS_X5_next aN_X5 aC_X5_next) rfl rfl rfl eX5_next ⟨Nat.le_of_ble_eq_true rfl, Nat.le_of_ble_eq_true rfl⟩) (preV_W (ci := 5) (q := (RX5, TX5, 5)) hK hP hF hS rfl (wC_2 y a s18)) rfl hl.1 rfl (Nat.le_of_ble_eq_true rfl) dX5_parse_32 ⟨Nat.zero_le _, Nat.zero_le _⟩ hS (AC_le hS.1) (fun H locs hP hS hk1 => ?_)
    refine lv_if_lt (tgt := 43) hx hb dX5_parse_35 (by decide) (fun c23 => ?_) (fun c23 => ?_)
    · have hm := (if_pos c23).symm.trans hm
      exact L_43 s22 r12 r16 _ _ _ hP hS (lv_sub hl [2, 1, 0] rfl) hm
    · have hm := (if_neg c23).symm.trans hm
      refine lv_aload_n hx hb dX5_parse_38 rfl (lv_at hl 2 rfl) ?_
      obtain ⟨⟨r24, s26⟩, h25, hm⟩ := ok_bind hm
      refine calV_i (As := []) (rest := []) ⟨hx, hb, hml, hown, hts⟩ (kX5_fail l D y a t hI _ s22 s26 r24 h25) (cwV 0 hts (gAV aM_X5_42 aI_X5_fail aS_X5_fail aN_X5 aC_X5_fail) rfl rfl rfl eX5_fail ⟨Nat.le_of_ble_eq_true rfl, Nat.le_of_ble_eq_true rfl⟩) (preV_W (ci := 5) (q := (RX5, TX5, 5)) hK hP hF hS rfl (wC_2 y a s22)) rfl hl.1 rfl (Nat.le_of_ble_eq_true rfl) dX5_parse_39 ⟨Nat.zero_le _, Nat.zero_le _⟩ hS (AC_le hS.1) (fun H locs hP hS hk1 => ?_)
      refine lv_pop hx hb dX5_parse_42 rfl ?_
      exact L_43 s26 r12 r16 _ _ _ hP hS (lv_sub hl [2, 1, 0] rfl) hm
theorem eX6_known : yX6_known.cls = RX6 ∧ yX6_known.cls ≠ "java/lang/invoke/MethodHandle" ∧ yX6_known.cls ≠ "java/lang/invoke/VarHandle" ∧ (parseMethodDescriptor yX6_known.desc).map (fun d => d.parameters.length) = some 0 := by decide +kernel
def mX6_known (σ : St) : Option Int32 :=
some (σ.1 6 0)
set_option maxHeartbeats 4000000 in
set_option maxRecDepth 100000 in
theorem kX6_known (l : Launch) (D : va_G) (y : Nat → ClassId) (a t : Nat → Nat) (hI : AI a 37) (sz : Nat) (σ : St) (r : Int32) (hm : mX6_known σ = some r) : Met l yX6_known zX6_known { frames := 0, cells := 0, slots := 0, locals := 0 } (va_Pc [.ref (a 4)] (preW (wC y a) a 37 D y t σ sz)) (va_Qi (fun r' u => r' = r ∧ u = σ) (posW (wC y a) D) (AC a 37 sz)) 0 0 (AC a 37 sz) := by
  refine Met.ofW (cc := cX6_known) (maxL := 1) (ret := (some .int)) (by decide) rfl ?_
  intro p e s m args below meth c s₁ B hml hv
  obtain ⟨rfl, hsz, hP, hK, hF⟩ := hv
  have hx := B.exec
  have hb := B.bytes
  have hr := B.returns
  have hts := atoms_spec (ws := zX6_known) B.pre
  have hown : s.vm.findClass RX6 = some m.cls := findClass_of_methodNamed B.named
  have hlocks := B.notSynchronized
  subst hsz
  have l_f37 := hts _ (List.mem_cons_of_mem _ aF_X6_37)
  have h_X6 : ∀ w ∈ wsX60, w.before _ s = true := fun w hw => hts w (List.mem_cons_of_mem _ (hwX6 w hw))
  have hS : va_S (AC a 37 s.heap.size) s.heap s.heap [] := va_S.rf
  have hl := lv_entry ([.ref (a 4)]) (n := 1) (Nat.le_of_ble_eq_true rfl)
  rw [lg_entry_eq]
  generalize (lg_sl ([.ref (a 4)]) ++ List.replicate (1 - (lg_sl ([.ref (a 4)])).length) Slot.unset).toArray = ls at hl ⊢
  have hl : lv_has ls 1 [(0, .ref (a 4))] := hl
  unfold mX6_known at hm
  refine lv_aload_n hx hb dX6_known_0 rfl (lv_at hl 0 rfl) ?_
  refine gfX6_known hx hb h_X6 hown hK hP l_f37 dX6_known_1 ?_
  exact W.iret (v := σ.1 6 0) hx hb hr (fun T hT hW => ⟨⟨σ.1 6 0, σ, rfl, ⟨Option.some.inj hm, rfl⟩, by rw [posW, hT]; exact hP⟩, hS.F hT⟩) hS.2.2 dX6_known_4
theorem eX6_isKnown : yX6_isKnown.cls = RX6 ∧ yX6_isKnown.cls ≠ "java/lang/invoke/MethodHandle" ∧ yX6_isKnown.cls ≠ "java/lang/invoke/VarHandle" ∧ (parseMethodDescriptor yX6_isKnown.desc).map (fun d => d.parameters.length) = some 1 := by decide +kernel
def mX6_isKnown (σ : St) (p1 : Int32) : Option Int32 :=
if p1 < 0 then (
some 0)
else (
if (σ.1 6 0) ≤ p1 then (
some 0)
else (
some 1))
set_option maxHeartbeats 4000000 in
set_option maxRecDepth 100000 in
theorem kX6_isKnown (l : Launch) (D : va_G) (y : Nat → ClassId) (a t : Nat → Nat) (hI : AI a 37) (sz : Nat) (σ : St) (p1 : Int32) (r : Int32) (hm : mX6_isKnown σ p1 = some r) : Met l yX6_isKnown zX6_isKnown { frames := 0, cells := 0, slots := 0, locals := 0 } (va_Pc [.ref (a 4), .int p1] (preW (wC y a) a 37 D y t σ sz)) (va_Qi (fun r' u => r' = r ∧ u = σ) (posW (wC y a) D) (AC a 37 sz)) 0 0 (AC a 37 sz) := by
  refine Met.ofW (cc := cX6_isKnown) (maxL := 2) (ret := (some .boolean)) (by decide) rfl ?_
  intro p e s m args below meth c s₁ B hml hv
  obtain ⟨rfl, hsz, hP, hK, hF⟩ := hv
  have hx := B.exec
  have hb := B.bytes
  have hr := B.returns
  have hts := atoms_spec (ws := zX6_isKnown) B.pre
  have hown : s.vm.findClass RX6 = some m.cls := findClass_of_methodNamed B.named
  have hlocks := B.notSynchronized
  subst hsz
  have l_f37 := hts _ (List.mem_cons_of_mem _ aF_X6_37)
  have h_X6 : ∀ w ∈ wsX60, w.before _ s = true := fun w hw => hts w (List.mem_cons_of_mem _ (hwX6 w hw))
  have hS : va_S (AC a 37 s.heap.size) s.heap s.heap [] := va_S.rf
  have hl := lv_entry ([.ref (a 4), .int p1]) (n := 2) (Nat.le_of_ble_eq_true rfl)
  rw [lg_entry_eq]
  generalize (lg_sl ([.ref (a 4), .int p1]) ++ List.replicate (2 - (lg_sl ([.ref (a 4), .int p1])).length) Slot.unset).toArray = ls at hl ⊢
  have hl : lv_has ls 2 [(0, .ref (a 4)), (1, .int p1)] := hl
  unfold mX6_isKnown at hm
  refine lv_iload_n hx hb dX6_isKnown_0 rfl (lv_at hl 1 rfl) ?_
  refine lv_if_lt (tgt := 16) hx hb dX6_isKnown_1 (by decide) (fun c1 => ?_) (fun c1 => ?_)
  · have hm := (if_pos c1).symm.trans hm
    refine lv_iconst (v := 0) hx hb dX6_isKnown_16 (by decide) ?_
    exact W.zret (v := 0) hx hb hr rfl (fun T hT hW => ⟨⟨0, σ, rfl, ⟨Option.some.inj hm, rfl⟩, by rw [posW, hT]; exact hP⟩, hS.F hT⟩) hS.2.2 dX6_isKnown_17
  · have hm := (if_neg c1).symm.trans hm
    refine lv_iload_n hx hb dX6_isKnown_4 rfl (lv_at hl 1 rfl) ?_
    refine lv_aload_n hx hb dX6_isKnown_5 rfl (lv_at hl 0 rfl) ?_
    refine gfX6_known hx hb h_X6 hown hK hP l_f37 dX6_isKnown_6 ?_
    refine lv_icmp_ge (tgt := 16) hx hb dX6_isKnown_9 (by decide) (fun c2 => ?_) (fun c2 => ?_)
    · have hm := (if_pos c2).symm.trans hm
      refine lv_iconst (v := 0) hx hb dX6_isKnown_16 (by decide) ?_
      exact W.zret (v := 0) hx hb hr rfl (fun T hT hW => ⟨⟨0, σ, rfl, ⟨Option.some.inj hm, rfl⟩, by rw [posW, hT]; exact hP⟩, hS.F hT⟩) hS.2.2 dX6_isKnown_17
    · have hm := (if_neg c2).symm.trans hm
      refine lv_iconst (v := 1) hx hb dX6_isKnown_12 (by decide) ?_
      refine lv_goto (tgt := 17) hx hb dX6_isKnown_13 (by decide) ?_
      exact W.zret (v := 1) hx hb hr rfl (fun T hT hW => ⟨⟨1, σ, rfl, ⟨Option.some.inj hm, rfl⟩, by rw [posW, hT]; exact hP⟩, hS.F hT⟩) hS.2.2 dX6_isKnown_17
theorem eX6_conclusion : yX6_conclusion.cls = RX6 ∧ yX6_conclusion.cls ≠ "java/lang/invoke/MethodHandle" ∧ yX6_conclusion.cls ≠ "java/lang/invoke/VarHandle" ∧ (parseMethodDescriptor yX6_conclusion.desc).map (fun d => d.parameters.length) = some 1 := by decide +kernel
def mX6_conclusion (σ : St) (p1 : Int32) : Option Int32 :=
if p1 < 0 then (
some (-1))
else (
if (σ.1 6 0) ≤ p1 then (
some (-1))
else (
chkI p1 16 (
some (σ.1 22 p1.toNatClampNeg))))
set_option maxHeartbeats 4000000 in
set_option maxRecDepth 100000 in
theorem kX6_conclusion (l : Launch) (D : va_G) (y : Nat → ClassId) (a t : Nat → Nat) (hI : AI a 37) (sz : Nat) (σ : St) (p1 : Int32) (r : Int32) (hm : mX6_conclusion σ p1 = some r) : Met l yX6_conclusion zX6_conclusion { frames := 0, cells := 0, slots := 0, locals := 0 } (va_Pc [.ref (a 4), .int p1] (preW (wC y a) a 37 D y t σ sz)) (va_Qi (fun r' u => r' = r ∧ u = σ) (posW (wC y a) D) (AC a 37 sz)) 0 0 (AC a 37 sz) := by
  refine Met.ofW (cc := cX6_conclusion) (maxL := 2) (ret := (some .int)) (by decide) rfl ?_
  intro p e s m args below meth c s₁ B hml hv
  obtain ⟨rfl, hsz, hP, hK, hF⟩ := hv
  have hx := B.exec
  have hb := B.bytes
  have hr := B.returns
  have hts := atoms_spec (ws := zX6_conclusion) B.pre
  have hown : s.vm.findClass RX6 = some m.cls := findClass_of_methodNamed B.named
  have hlocks := B.notSynchronized
  subst hsz
  have l_f37 := hts _ (List.mem_cons_of_mem _ aF_X6_37)
  have l_f9 := hts _ (List.mem_cons_of_mem _ aF_X6_9)
  have h_X6 : ∀ w ∈ wsX60, w.before _ s = true := fun w hw => hts w (List.mem_cons_of_mem _ (hwX6 w hw))
  have hS : va_S (AC a 37 s.heap.size) s.heap s.heap [] := va_S.rf
  have hl := lv_entry ([.ref (a 4), .int p1]) (n := 2) (Nat.le_of_ble_eq_true rfl)
  rw [lg_entry_eq]
  generalize (lg_sl ([.ref (a 4), .int p1]) ++ List.replicate (2 - (lg_sl ([.ref (a 4), .int p1])).length) Slot.unset).toArray = ls at hl ⊢
  have hl : lv_has ls 2 [(0, .ref (a 4)), (1, .int p1)] := hl
  unfold mX6_conclusion at hm
  refine lv_iload_n hx hb dX6_conclusion_0 rfl (lv_at hl 1 rfl) ?_
  refine lv_if_lt (tgt := 21) hx hb dX6_conclusion_1 (by decide) (fun c1 => ?_) (fun c1 => ?_)
  · have hm := (if_pos c1).symm.trans hm
    refine lv_iconst (v := (-1)) hx hb dX6_conclusion_21 (by decide) ?_
    exact W.iret (v := (-1)) hx hb hr (fun T hT hW => ⟨⟨(-1), σ, rfl, ⟨Option.some.inj hm, rfl⟩, by rw [posW, hT]; exact hP⟩, hS.F hT⟩) hS.2.2 dX6_conclusion_22
  · have hm := (if_neg c1).symm.trans hm
    refine lv_iload_n hx hb dX6_conclusion_4 rfl (lv_at hl 1 rfl) ?_
    refine lv_aload_n hx hb dX6_conclusion_5 rfl (lv_at hl 0 rfl) ?_
    refine gfX6_known hx hb h_X6 hown hK hP l_f37 dX6_conclusion_6 ?_
    refine lv_icmp_ge (tgt := 21) hx hb dX6_conclusion_9 (by decide) (fun c2 => ?_) (fun c2 => ?_)
    · have hm := (if_pos c2).symm.trans hm
      refine lv_iconst (v := (-1)) hx hb dX6_conclusion_21 (by decide) ?_
      exact W.iret (v := (-1)) hx hb hr (fun T hT hW => ⟨⟨(-1), σ, rfl, ⟨Option.some.inj hm, rfl⟩, by rw [posW, hT]; exact hP⟩, hS.F hT⟩) hS.2.2 dX6_conclusion_22
    · have hm := (if_neg c2).symm.trans hm
      refine lv_aload_n hx hb dX6_conclusion_12 rfl (lv_at hl 0 rfl) ?_
      refine gfX6_conclusions hx hb h_X6 hown hK hP l_f9 dX6_conclusion_13 ?_
      refine lv_iload_n hx hb dX6_conclusion_16 rfl (lv_at hl 1 rfl) ?_
      obtain ⟨hi, hm⟩ := ok_I hm
      refine ldC_19 hx hb hK hP hi dX6_conclusion_17 ?_
      refine lv_goto (tgt := 22) hx hb dX6_conclusion_18 (by decide) ?_
      exact W.iret (v := σ.1 22 p1.toNatClampNeg) hx hb hr (fun T hT hW => ⟨⟨σ.1 22 p1.toNatClampNeg, σ, rfl, ⟨Option.some.inj hm, rfl⟩, by rw [posW, hT]; exact hP⟩, hS.F hT⟩) hS.2.2 dX6_conclusion_22
theorem eX6_premises : yX6_premises.cls = RX6 ∧ yX6_premises.cls ≠ "java/lang/invoke/MethodHandle" ∧ yX6_premises.cls ≠ "java/lang/invoke/VarHandle" ∧ (parseMethodDescriptor yX6_premises.desc).map (fun d => d.parameters.length) = some 1 := by decide +kernel
def mX6_premises_26 (σ : St) (v1 : Int32) (v2 : Int32) : Option Int32 :=
chkI v1 16 (
if (σ.1 24 v1.toNatClampNeg) < 0 then (
some (v2 + 0))
else (
some (v2 + 1)))
def mX6_premises (σ : St) (p1 : Int32) : Option Int32 :=
if p1 < 0 then (
some 0)
else (
if (σ.1 6 0) ≤ p1 then (
some 0)
else (
chkI p1 16 (
if (σ.1 23 p1.toNatClampNeg) < 0 then (
mX6_premises_26 σ p1 0)
else (
mX6_premises_26 σ p1 1))))
set_option maxHeartbeats 4000000 in
set_option maxRecDepth 100000 in
theorem kX6_premises (l : Launch) (D : va_G) (y : Nat → ClassId) (a t : Nat → Nat) (hI : AI a 37) (sz : Nat) (σ : St) (p1 : Int32) (r : Int32) (hm : mX6_premises σ p1 = some r) : Met l yX6_premises zX6_premises { frames := 0, cells := 0, slots := 0, locals := 0 } (va_Pc [.ref (a 4), .int p1] (preW (wC y a) a 37 D y t σ sz)) (va_Qi (fun r' u => r' = r ∧ u = σ) (posW (wC y a) D) (AC a 37 sz)) 0 0 (AC a 37 sz) := by
  refine Met.ofW (cc := cX6_premises) (maxL := 2) (ret := (some .int)) (by decide) rfl ?_
  intro p e s m args below meth c s₁ B hml hv
  obtain ⟨rfl, hsz, hP, hK, hF⟩ := hv
  have hx := B.exec
  have hb := B.bytes
  have hr := B.returns
  have hts := atoms_spec (ws := zX6_premises) B.pre
  have hown : s.vm.findClass RX6 = some m.cls := findClass_of_methodNamed B.named
  have hlocks := B.notSynchronized
  subst hsz
  have l_f37 := hts _ (List.mem_cons_of_mem _ aF_X6_37)
  have l_f15 := hts _ (List.mem_cons_of_mem _ aF_X6_15)
  have l_f18 := hts _ (List.mem_cons_of_mem _ aF_X6_18)
  have h_X6 : ∀ w ∈ wsX60, w.before _ s = true := fun w hw => hts w (List.mem_cons_of_mem _ (hwX6 w hw))
  have hS : va_S (AC a 37 s.heap.size) s.heap s.heap [] := va_S.rf
  have hl := lv_entry ([.ref (a 4), .int p1]) (n := 2) (Nat.le_of_ble_eq_true rfl)
  rw [lg_entry_eq]
  generalize (lg_sl ([.ref (a 4), .int p1]) ++ List.replicate (2 - (lg_sl ([.ref (a 4), .int p1])).length) Slot.unset).toArray = ls at hl ⊢
  have hl : lv_has ls 2 [(0, .ref (a 4)), (1, .int p1)] := hl
  have L_26 : ∀ (v1 : Int32) (v2 : Int32) (H : Heap) (locs : List Loc) (ls : Array Slot), va_P D vwCl (wC y a σ) H → va_S (AC a 37 s.heap.size) s.heap H locs → lv_has ls 2 [(0, .ref (a 4)), (1, .int v1)] → mX6_premises_26 σ v1 v2 = some r → W p l e (headSpec zX6_premises ({ frames := 0, cells := 0, slots := 0, locals := 0 })).room s m ([.ref (a 4), .int p1] : List Value).toArray below meth c H locs 0 0 (MQ below (va_Qi (fun r' u => r' = r ∧ u = σ) (posW (wC y a) D) (AC a 37 s.heap.size)) ([.ref (a 4), .int p1] : List Value).toArray s 0 0 (AC a 37 s.heap.size)) (F0 m 26 ls [.int v2]) := by
    intro v1 v2 H locs ls hP hS hl hm
    unfold mX6_premises_26 at hm
    refine lv_aload_n hx hb dX6_premises_26 rfl (lv_at hl 0 rfl) ?_
    refine gfX6_seconds hx hb h_X6 hown hK hP l_f18 dX6_premises_27 ?_
    refine lv_iload_n hx hb dX6_premises_30 rfl (lv_at hl 1 rfl) ?_
    obtain ⟨hi, hm⟩ := ok_I hm
    refine ldC_21 hx hb hK hP hi dX6_premises_31 ?_
    refine lv_if_lt (tgt := 39) hx hb dX6_premises_32 (by decide) (fun c3 => ?_) (fun c3 => ?_)
    · have hm := (if_pos c3).symm.trans hm
      refine lv_iconst (v := 0) hx hb dX6_premises_39 (by decide) ?_
      refine lv_iadd hx hb dX6_premises_40 ?_
      refine lv_goto (tgt := 45) hx hb dX6_premises_41 (by decide) ?_
      exact W.iret (v := v2 + 0) hx hb hr (fun T hT hW => ⟨⟨v2 + 0, σ, rfl, ⟨Option.some.inj hm, rfl⟩, by rw [posW, hT]; exact hP⟩, hS.F hT⟩) hS.2.2 dX6_premises_45
    · have hm := (if_neg c3).symm.trans hm
      refine lv_iconst (v := 1) hx hb dX6_premises_35 (by decide) ?_
      refine lv_goto (tgt := 40) hx hb dX6_premises_36 (by decide) ?_
      refine lv_iadd hx hb dX6_premises_40 ?_
      refine lv_goto (tgt := 45) hx hb dX6_premises_41 (by decide) ?_
      exact W.iret (v := v2 + 1) hx hb hr (fun T hT hW => ⟨⟨v2 + 1, σ, rfl, ⟨Option.some.inj hm, rfl⟩, by rw [posW, hT]; exact hP⟩, hS.F hT⟩) hS.2.2 dX6_premises_45
  unfold mX6_premises at hm
  refine lv_iload_n hx hb dX6_premises_0 rfl (lv_at hl 1 rfl) ?_
  refine lv_if_lt (tgt := 44) hx hb dX6_premises_1 (by decide) (fun c4 => ?_) (fun c4 => ?_)
  · have hm := (if_pos c4).symm.trans hm
    refine lv_iconst (v := 0) hx hb dX6_premises_44 (by decide) ?_
    exact W.iret (v := 0) hx hb hr (fun T hT hW => ⟨⟨0, σ, rfl, ⟨Option.some.inj hm, rfl⟩, by rw [posW, hT]; exact hP⟩, hS.F hT⟩) hS.2.2 dX6_premises_45
  · have hm := (if_neg c4).symm.trans hm
    refine lv_iload_n hx hb dX6_premises_4 rfl (lv_at hl 1 rfl) ?_
    refine lv_aload_n hx hb dX6_premises_5 rfl (lv_at hl 0 rfl) ?_
    refine gfX6_known hx hb h_X6 hown hK hP l_f37 dX6_premises_6 ?_
    refine lv_icmp_ge (tgt := 44) hx hb dX6_premises_9 (by decide) (fun c5 => ?_) (fun c5 => ?_)
    · have hm := (if_pos c5).symm.trans hm
      refine lv_iconst (v := 0) hx hb dX6_premises_44 (by decide) ?_
      exact W.iret (v := 0) hx hb hr (fun T hT hW => ⟨⟨0, σ, rfl, ⟨Option.some.inj hm, rfl⟩, by rw [posW, hT]; exact hP⟩, hS.F hT⟩) hS.2.2 dX6_premises_45
    · have hm := (if_neg c5).symm.trans hm
      refine lv_aload_n hx hb dX6_premises_12 rfl (lv_at hl 0 rfl) ?_
      refine gfX6_firsts hx hb h_X6 hown hK hP l_f15 dX6_premises_13 ?_
      refine lv_iload_n hx hb dX6_premises_16 rfl (lv_at hl 1 rfl) ?_
      obtain ⟨hi, hm⟩ := ok_I hm
      refine ldC_20 hx hb hK hP hi dX6_premises_17 ?_
      refine lv_if_lt (tgt := 25) hx hb dX6_premises_18 (by decide) (fun c6 => ?_) (fun c6 => ?_)
      · have hm := (if_pos c6).symm.trans hm
        refine lv_iconst (v := 0) hx hb dX6_premises_25 (by decide) ?_
        exact L_26 p1 0 _ _ _ hP hS (lv_sub hl [0, 1] rfl) hm
      · have hm := (if_neg c6).symm.trans hm
        refine lv_iconst (v := 1) hx hb dX6_premises_21 (by decide) ?_
        refine lv_goto (tgt := 26) hx hb dX6_premises_22 (by decide) ?_
        exact L_26 p1 1 _ _ _ hP hS (lv_sub hl [0, 1] rfl) hm
theorem eX6_firstPremise : yX6_firstPremise.cls = RX6 ∧ yX6_firstPremise.cls ≠ "java/lang/invoke/MethodHandle" ∧ yX6_firstPremise.cls ≠ "java/lang/invoke/VarHandle" ∧ (parseMethodDescriptor yX6_firstPremise.desc).map (fun d => d.parameters.length) = some 1 := by decide +kernel
def mX6_firstPremise (σ : St) (p1 : Int32) : Option Int32 :=
if p1 < 0 then (
some (-1))
else (
if (σ.1 6 0) ≤ p1 then (
some (-1))
else (
chkI p1 16 (
some (σ.1 23 p1.toNatClampNeg))))
set_option maxHeartbeats 4000000 in
set_option maxRecDepth 100000 in
theorem kX6_firstPremise (l : Launch) (D : va_G) (y : Nat → ClassId) (a t : Nat → Nat) (hI : AI a 37) (sz : Nat) (σ : St) (p1 : Int32) (r : Int32) (hm : mX6_firstPremise σ p1 = some r) : Met l yX6_firstPremise zX6_firstPremise { frames := 0, cells := 0, slots := 0, locals := 0 } (va_Pc [.ref (a 4), .int p1] (preW (wC y a) a 37 D y t σ sz)) (va_Qi (fun r' u => r' = r ∧ u = σ) (posW (wC y a) D) (AC a 37 sz)) 0 0 (AC a 37 sz) := by
  refine Met.ofW (cc := cX6_firstPremise) (maxL := 2) (ret := (some .int)) (by decide) rfl ?_
  intro p e s m args below meth c s₁ B hml hv
  obtain ⟨rfl, hsz, hP, hK, hF⟩ := hv
  have hx := B.exec
  have hb := B.bytes
  have hr := B.returns
  have hts := atoms_spec (ws := zX6_firstPremise) B.pre
  have hown : s.vm.findClass RX6 = some m.cls := findClass_of_methodNamed B.named
  have hlocks := B.notSynchronized
  subst hsz
  have l_f37 := hts _ (List.mem_cons_of_mem _ aF_X6_37)
  have l_f15 := hts _ (List.mem_cons_of_mem _ aF_X6_15)
  have h_X6 : ∀ w ∈ wsX60, w.before _ s = true := fun w hw => hts w (List.mem_cons_of_mem _ (hwX6 w hw))
  have hS : va_S (AC a 37 s.heap.size) s.heap s.heap [] := va_S.rf
  have hl := lv_entry ([.ref (a 4), .int p1]) (n := 2) (Nat.le_of_ble_eq_true rfl)
  rw [lg_entry_eq]
  generalize (lg_sl ([.ref (a 4), .int p1]) ++ List.replicate (2 - (lg_sl ([.ref (a 4), .int p1])).length) Slot.unset).toArray = ls at hl ⊢
  have hl : lv_has ls 2 [(0, .ref (a 4)), (1, .int p1)] := hl
  unfold mX6_firstPremise at hm
  refine lv_iload_n hx hb dX6_firstPremise_0 rfl (lv_at hl 1 rfl) ?_
  refine lv_if_lt (tgt := 21) hx hb dX6_firstPremise_1 (by decide) (fun c1 => ?_) (fun c1 => ?_)
  · have hm := (if_pos c1).symm.trans hm
    refine lv_iconst (v := (-1)) hx hb dX6_firstPremise_21 (by decide) ?_
    exact W.iret (v := (-1)) hx hb hr (fun T hT hW => ⟨⟨(-1), σ, rfl, ⟨Option.some.inj hm, rfl⟩, by rw [posW, hT]; exact hP⟩, hS.F hT⟩) hS.2.2 dX6_firstPremise_22
  · have hm := (if_neg c1).symm.trans hm
    refine lv_iload_n hx hb dX6_firstPremise_4 rfl (lv_at hl 1 rfl) ?_
    refine lv_aload_n hx hb dX6_firstPremise_5 rfl (lv_at hl 0 rfl) ?_
    refine gfX6_known hx hb h_X6 hown hK hP l_f37 dX6_firstPremise_6 ?_
    refine lv_icmp_ge (tgt := 21) hx hb dX6_firstPremise_9 (by decide) (fun c2 => ?_) (fun c2 => ?_)
    · have hm := (if_pos c2).symm.trans hm
      refine lv_iconst (v := (-1)) hx hb dX6_firstPremise_21 (by decide) ?_
      exact W.iret (v := (-1)) hx hb hr (fun T hT hW => ⟨⟨(-1), σ, rfl, ⟨Option.some.inj hm, rfl⟩, by rw [posW, hT]; exact hP⟩, hS.F hT⟩) hS.2.2 dX6_firstPremise_22
    · have hm := (if_neg c2).symm.trans hm
      refine lv_aload_n hx hb dX6_firstPremise_12 rfl (lv_at hl 0 rfl) ?_
      refine gfX6_firsts hx hb h_X6 hown hK hP l_f15 dX6_firstPremise_13 ?_
      refine lv_iload_n hx hb dX6_firstPremise_16 rfl (lv_at hl 1 rfl) ?_
      obtain ⟨hi, hm⟩ := ok_I hm
      refine ldC_20 hx hb hK hP hi dX6_firstPremise_17 ?_
      refine lv_goto (tgt := 22) hx hb dX6_firstPremise_18 (by decide) ?_
      exact W.iret (v := σ.1 23 p1.toNatClampNeg) hx hb hr (fun T hT hW => ⟨⟨σ.1 23 p1.toNatClampNeg, σ, rfl, ⟨Option.some.inj hm, rfl⟩, by rw [posW, hT]; exact hP⟩, hS.F hT⟩) hS.2.2 dX6_firstPremise_22
theorem eX6_secondPremise : yX6_secondPremise.cls = RX6 ∧ yX6_secondPremise.cls ≠ "java/lang/invoke/MethodHandle" ∧ yX6_secondPremise.cls ≠ "java/lang/invoke/VarHandle" ∧ (parseMethodDescriptor yX6_secondPremise.desc).map (fun d => d.parameters.length) = some 1 := by decide +kernel
def mX6_secondPremise (σ : St) (p1 : Int32) : Option Int32 :=
if p1 < 0 then (
some (-1))
else (
if (σ.1 6 0) ≤ p1 then (
some (-1))
else (
chkI p1 16 (
some (σ.1 24 p1.toNatClampNeg))))
set_option maxHeartbeats 4000000 in
set_option maxRecDepth 100000 in
theorem kX6_secondPremise (l : Launch) (D : va_G) (y : Nat → ClassId) (a t : Nat → Nat) (hI : AI a 37) (sz : Nat) (σ : St) (p1 : Int32) (r : Int32) (hm : mX6_secondPremise σ p1 = some r) : Met l yX6_secondPremise zX6_secondPremise { frames := 0, cells := 0, slots := 0, locals := 0 } (va_Pc [.ref (a 4), .int p1] (preW (wC y a) a 37 D y t σ sz)) (va_Qi (fun r' u => r' = r ∧ u = σ) (posW (wC y a) D) (AC a 37 sz)) 0 0 (AC a 37 sz) := by
  refine Met.ofW (cc := cX6_secondPremise) (maxL := 2) (ret := (some .int)) (by decide) rfl ?_
  intro p e s m args below meth c s₁ B hml hv
  obtain ⟨rfl, hsz, hP, hK, hF⟩ := hv
  have hx := B.exec
  have hb := B.bytes
  have hr := B.returns
  have hts := atoms_spec (ws := zX6_secondPremise) B.pre
  have hown : s.vm.findClass RX6 = some m.cls := findClass_of_methodNamed B.named
  have hlocks := B.notSynchronized
  subst hsz
  have l_f37 := hts _ (List.mem_cons_of_mem _ aF_X6_37)
  have l_f18 := hts _ (List.mem_cons_of_mem _ aF_X6_18)
  have h_X6 : ∀ w ∈ wsX60, w.before _ s = true := fun w hw => hts w (List.mem_cons_of_mem _ (hwX6 w hw))
  have hS : va_S (AC a 37 s.heap.size) s.heap s.heap [] := va_S.rf
  have hl := lv_entry ([.ref (a 4), .int p1]) (n := 2) (Nat.le_of_ble_eq_true rfl)
  rw [lg_entry_eq]
  generalize (lg_sl ([.ref (a 4), .int p1]) ++ List.replicate (2 - (lg_sl ([.ref (a 4), .int p1])).length) Slot.unset).toArray = ls at hl ⊢
  have hl : lv_has ls 2 [(0, .ref (a 4)), (1, .int p1)] := hl
  unfold mX6_secondPremise at hm
  refine lv_iload_n hx hb dX6_secondPremise_0 rfl (lv_at hl 1 rfl) ?_
  refine lv_if_lt (tgt := 21) hx hb dX6_secondPremise_1 (by decide) (fun c1 => ?_) (fun c1 => ?_)
  · have hm := (if_pos c1).symm.trans hm
    refine lv_iconst (v := (-1)) hx hb dX6_secondPremise_21 (by decide) ?_
    exact W.iret (v := (-1)) hx hb hr (fun T hT hW => ⟨⟨(-1), σ, rfl, ⟨Option.some.inj hm, rfl⟩, by rw [posW, hT]; exact hP⟩, hS.F hT⟩) hS.2.2 dX6_secondPremise_22
  · have hm := (if_neg c1).symm.trans hm
    refine lv_iload_n hx hb dX6_secondPremise_4 rfl (lv_at hl 1 rfl) ?_
    refine lv_aload_n hx hb dX6_secondPremise_5 rfl (lv_at hl 0 rfl) ?_
    refine gfX6_known hx hb h_X6 hown hK hP l_f37 dX6_secondPremise_6 ?_
    refine lv_icmp_ge (tgt := 21) hx hb dX6_secondPremise_9 (by decide) (fun c2 => ?_) (fun c2 => ?_)
    · have hm := (if_pos c2).symm.trans hm
      refine lv_iconst (v := (-1)) hx hb dX6_secondPremise_21 (by decide) ?_
      exact W.iret (v := (-1)) hx hb hr (fun T hT hW => ⟨⟨(-1), σ, rfl, ⟨Option.some.inj hm, rfl⟩, by rw [posW, hT]; exact hP⟩, hS.F hT⟩) hS.2.2 dX6_secondPremise_22
    · have hm := (if_neg c2).symm.trans hm
      refine lv_aload_n hx hb dX6_secondPremise_12 rfl (lv_at hl 0 rfl) ?_
      refine gfX6_seconds hx hb h_X6 hown hK hP l_f18 dX6_secondPremise_13 ?_
      refine lv_iload_n hx hb dX6_secondPremise_16 rfl (lv_at hl 1 rfl) ?_
      obtain ⟨hi, hm⟩ := ok_I hm
      refine ldC_21 hx hb hK hP hi dX6_secondPremise_17 ?_
      refine lv_goto (tgt := 22) hx hb dX6_secondPremise_18 (by decide) ?_
      exact W.iret (v := σ.1 24 p1.toNatClampNeg) hx hb hr (fun T hT hW => ⟨⟨σ.1 24 p1.toNatClampNeg, σ, rfl, ⟨Option.some.inj hm, rfl⟩, by rw [posW, hT]; exact hP⟩, hS.F hT⟩) hS.2.2 dX6_secondPremise_22
theorem eX6_lines : yX6_lines.cls = RX6 ∧ yX6_lines.cls ≠ "java/lang/invoke/MethodHandle" ∧ yX6_lines.cls ≠ "java/lang/invoke/VarHandle" ∧ (parseMethodDescriptor yX6_lines.desc).map (fun d => d.parameters.length) = some 1 := by decide +kernel
def mX6_lines (σ : St) (p1 : Int32) : Option Int32 :=
if p1 < 0 then (
some 0)
else (
if (σ.1 6 0) ≤ p1 then (
some 0)
else (
chkI p1 16 (
some (σ.1 25 p1.toNatClampNeg))))
set_option maxHeartbeats 4000000 in
set_option maxRecDepth 100000 in
theorem kX6_lines (l : Launch) (D : va_G) (y : Nat → ClassId) (a t : Nat → Nat) (hI : AI a 37) (sz : Nat) (σ : St) (p1 : Int32) (r : Int32) (hm : mX6_lines σ p1 = some r) : Met l yX6_lines zX6_lines { frames := 0, cells := 0, slots := 0, locals := 0 } (va_Pc [.ref (a 4), .int p1] (preW (wC y a) a 37 D y t σ sz)) (va_Qi (fun r' u => r' = r ∧ u = σ) (posW (wC y a) D) (AC a 37 sz)) 0 0 (AC a 37 sz) := by
  refine Met.ofW (cc := cX6_lines) (maxL := 2) (ret := (some .int)) (by decide) rfl ?_
  intro p e s m args below meth c s₁ B hml hv
  obtain ⟨rfl, hsz, hP, hK, hF⟩ := hv
  have hx := B.exec
  have hb := B.bytes
  have hr := B.returns
  have hts := atoms_spec (ws := zX6_lines) B.pre
  have hown : s.vm.findClass RX6 = some m.cls := findClass_of_methodNamed B.named
  have hlocks := B.notSynchronized
  subst hsz
  have l_f37 := hts _ (List.mem_cons_of_mem _ aF_X6_37)
  have l_f21 := hts _ (List.mem_cons_of_mem _ aF_X6_21)
  have h_X6 : ∀ w ∈ wsX60, w.before _ s = true := fun w hw => hts w (List.mem_cons_of_mem _ (hwX6 w hw))
  have hS : va_S (AC a 37 s.heap.size) s.heap s.heap [] := va_S.rf
  have hl := lv_entry ([.ref (a 4), .int p1]) (n := 2) (Nat.le_of_ble_eq_true rfl)
  rw [lg_entry_eq]
  generalize (lg_sl ([.ref (a 4), .int p1]) ++ List.replicate (2 - (lg_sl ([.ref (a 4), .int p1])).length) Slot.unset).toArray = ls at hl ⊢
  have hl : lv_has ls 2 [(0, .ref (a 4)), (1, .int p1)] := hl
  unfold mX6_lines at hm
  refine lv_iload_n hx hb dX6_lines_0 rfl (lv_at hl 1 rfl) ?_
  refine lv_if_lt (tgt := 21) hx hb dX6_lines_1 (by decide) (fun c1 => ?_) (fun c1 => ?_)
  · have hm := (if_pos c1).symm.trans hm
    refine lv_iconst (v := 0) hx hb dX6_lines_21 (by decide) ?_
    exact W.iret (v := 0) hx hb hr (fun T hT hW => ⟨⟨0, σ, rfl, ⟨Option.some.inj hm, rfl⟩, by rw [posW, hT]; exact hP⟩, hS.F hT⟩) hS.2.2 dX6_lines_22
  · have hm := (if_neg c1).symm.trans hm
    refine lv_iload_n hx hb dX6_lines_4 rfl (lv_at hl 1 rfl) ?_
    refine lv_aload_n hx hb dX6_lines_5 rfl (lv_at hl 0 rfl) ?_
    refine gfX6_known hx hb h_X6 hown hK hP l_f37 dX6_lines_6 ?_
    refine lv_icmp_ge (tgt := 21) hx hb dX6_lines_9 (by decide) (fun c2 => ?_) (fun c2 => ?_)
    · have hm := (if_pos c2).symm.trans hm
      refine lv_iconst (v := 0) hx hb dX6_lines_21 (by decide) ?_
      exact W.iret (v := 0) hx hb hr (fun T hT hW => ⟨⟨0, σ, rfl, ⟨Option.some.inj hm, rfl⟩, by rw [posW, hT]; exact hP⟩, hS.F hT⟩) hS.2.2 dX6_lines_22
    · have hm := (if_neg c2).symm.trans hm
      refine lv_aload_n hx hb dX6_lines_12 rfl (lv_at hl 0 rfl) ?_
      refine gfX6_lines hx hb h_X6 hown hK hP l_f21 dX6_lines_13 ?_
      refine lv_iload_n hx hb dX6_lines_16 rfl (lv_at hl 1 rfl) ?_
      obtain ⟨hi, hm⟩ := ok_I hm
      refine ldC_22 hx hb hK hP hi dX6_lines_17 ?_
      refine lv_goto (tgt := 22) hx hb dX6_lines_18 (by decide) ?_
      exact W.iret (v := σ.1 25 p1.toNatClampNeg) hx hb hr (fun T hT hW => ⟨⟨σ.1 25 p1.toNatClampNeg, σ, rfl, ⟨Option.some.inj hm, rfl⟩, by rw [posW, hT]; exact hP⟩, hS.F hT⟩) hS.2.2 dX6_lines_22
theorem eX6_needed : yX6_needed.cls = RX6 ∧ yX6_needed.cls ≠ "java/lang/invoke/MethodHandle" ∧ yX6_needed.cls ≠ "java/lang/invoke/VarHandle" ∧ (parseMethodDescriptor yX6_needed.desc).map (fun d => d.parameters.length) = some 1 := by decide +kernel
def mX6_needed (σ : St) (p1 : Int32) : Option Int32 :=
if p1 < 0 then (
some 0)
else (
if (σ.1 6 0) ≤ p1 then (
some 0)
else (
chkI p1 16 (
some (σ.1 26 p1.toNatClampNeg))))
set_option maxHeartbeats 4000000 in
set_option maxRecDepth 100000 in
theorem kX6_needed (l : Launch) (D : va_G) (y : Nat → ClassId) (a t : Nat → Nat) (hI : AI a 37) (sz : Nat) (σ : St) (p1 : Int32) (r : Int32) (hm : mX6_needed σ p1 = some r) : Met l yX6_needed zX6_needed { frames := 0, cells := 0, slots := 0, locals := 0 } (va_Pc [.ref (a 4), .int p1] (preW (wC y a) a 37 D y t σ sz)) (va_Qi (fun r' u => r' = r ∧ u = σ) (posW (wC y a) D) (AC a 37 sz)) 0 0 (AC a 37 sz) := by
  refine Met.ofW (cc := cX6_needed) (maxL := 2) (ret := (some .int)) (by decide) rfl ?_
  intro p e s m args below meth c s₁ B hml hv
  obtain ⟨rfl, hsz, hP, hK, hF⟩ := hv
  have hx := B.exec
  have hb := B.bytes
  have hr := B.returns
  have hts := atoms_spec (ws := zX6_needed) B.pre
  have hown : s.vm.findClass RX6 = some m.cls := findClass_of_methodNamed B.named
  have hlocks := B.notSynchronized
  subst hsz
  have l_f37 := hts _ (List.mem_cons_of_mem _ aF_X6_37)
  have l_f24 := hts _ (List.mem_cons_of_mem _ aF_X6_24)
  have h_X6 : ∀ w ∈ wsX60, w.before _ s = true := fun w hw => hts w (List.mem_cons_of_mem _ (hwX6 w hw))
  have hS : va_S (AC a 37 s.heap.size) s.heap s.heap [] := va_S.rf
  have hl := lv_entry ([.ref (a 4), .int p1]) (n := 2) (Nat.le_of_ble_eq_true rfl)
  rw [lg_entry_eq]
  generalize (lg_sl ([.ref (a 4), .int p1]) ++ List.replicate (2 - (lg_sl ([.ref (a 4), .int p1])).length) Slot.unset).toArray = ls at hl ⊢
  have hl : lv_has ls 2 [(0, .ref (a 4)), (1, .int p1)] := hl
  unfold mX6_needed at hm
  refine lv_iload_n hx hb dX6_needed_0 rfl (lv_at hl 1 rfl) ?_
  refine lv_if_lt (tgt := 21) hx hb dX6_needed_1 (by decide) (fun c1 => ?_) (fun c1 => ?_)
  · have hm := (if_pos c1).symm.trans hm
    refine lv_iconst (v := 0) hx hb dX6_needed_21 (by decide) ?_
    exact W.iret (v := 0) hx hb hr (fun T hT hW => ⟨⟨0, σ, rfl, ⟨Option.some.inj hm, rfl⟩, by rw [posW, hT]; exact hP⟩, hS.F hT⟩) hS.2.2 dX6_needed_22
  · have hm := (if_neg c1).symm.trans hm
    refine lv_iload_n hx hb dX6_needed_4 rfl (lv_at hl 1 rfl) ?_
    refine lv_aload_n hx hb dX6_needed_5 rfl (lv_at hl 0 rfl) ?_
    refine gfX6_known hx hb h_X6 hown hK hP l_f37 dX6_needed_6 ?_
    refine lv_icmp_ge (tgt := 21) hx hb dX6_needed_9 (by decide) (fun c2 => ?_) (fun c2 => ?_)
    · have hm := (if_pos c2).symm.trans hm
      refine lv_iconst (v := 0) hx hb dX6_needed_21 (by decide) ?_
      exact W.iret (v := 0) hx hb hr (fun T hT hW => ⟨⟨0, σ, rfl, ⟨Option.some.inj hm, rfl⟩, by rw [posW, hT]; exact hP⟩, hS.F hT⟩) hS.2.2 dX6_needed_22
    · have hm := (if_neg c2).symm.trans hm
      refine lv_aload_n hx hb dX6_needed_12 rfl (lv_at hl 0 rfl) ?_
      refine gfX6_needed hx hb h_X6 hown hK hP l_f24 dX6_needed_13 ?_
      refine lv_iload_n hx hb dX6_needed_16 rfl (lv_at hl 1 rfl) ?_
      obtain ⟨hi, hm⟩ := ok_I hm
      refine ldC_23 hx hb hK hP hi dX6_needed_17 ?_
      refine lv_goto (tgt := 22) hx hb dX6_needed_18 (by decide) ?_
      exact W.iret (v := σ.1 26 p1.toNatClampNeg) hx hb hr (fun T hT hW => ⟨⟨σ.1 26 p1.toNatClampNeg, σ, rfl, ⟨Option.some.inj hm, rfl⟩, by rw [posW, hT]; exact hP⟩, hS.F hT⟩) hS.2.2 dX6_needed_22
theorem eX6_uses : yX6_uses.cls = RX6 ∧ yX6_uses.cls ≠ "java/lang/invoke/MethodHandle" ∧ yX6_uses.cls ≠ "java/lang/invoke/VarHandle" ∧ (parseMethodDescriptor yX6_uses.desc).map (fun d => d.parameters.length) = some 1 := by decide +kernel
def mX6_uses (σ : St) (p1 : Int32) : Option Int32 :=
if p1 < 0 then (
some 0)
else (
if (σ.1 6 0) ≤ p1 then (
some 0)
else (
chkI p1 16 (
some (σ.1 27 p1.toNatClampNeg))))
set_option maxHeartbeats 4000000 in
set_option maxRecDepth 100000 in
theorem kX6_uses (l : Launch) (D : va_G) (y : Nat → ClassId) (a t : Nat → Nat) (hI : AI a 37) (sz : Nat) (σ : St) (p1 : Int32) (r : Int32) (hm : mX6_uses σ p1 = some r) : Met l yX6_uses zX6_uses { frames := 0, cells := 0, slots := 0, locals := 0 } (va_Pc [.ref (a 4), .int p1] (preW (wC y a) a 37 D y t σ sz)) (va_Qi (fun r' u => r' = r ∧ u = σ) (posW (wC y a) D) (AC a 37 sz)) 0 0 (AC a 37 sz) := by
  refine Met.ofW (cc := cX6_uses) (maxL := 2) (ret := (some .int)) (by decide) rfl ?_
  intro p e s m args below meth c s₁ B hml hv
  obtain ⟨rfl, hsz, hP, hK, hF⟩ := hv
  have hx := B.exec
  have hb := B.bytes
  have hr := B.returns
  have hts := atoms_spec (ws := zX6_uses) B.pre
  have hown : s.vm.findClass RX6 = some m.cls := findClass_of_methodNamed B.named
  have hlocks := B.notSynchronized
  subst hsz
  have l_f37 := hts _ (List.mem_cons_of_mem _ aF_X6_37)
  have l_f27 := hts _ (List.mem_cons_of_mem _ aF_X6_27)
  have h_X6 : ∀ w ∈ wsX60, w.before _ s = true := fun w hw => hts w (List.mem_cons_of_mem _ (hwX6 w hw))
  have hS : va_S (AC a 37 s.heap.size) s.heap s.heap [] := va_S.rf
  have hl := lv_entry ([.ref (a 4), .int p1]) (n := 2) (Nat.le_of_ble_eq_true rfl)
  rw [lg_entry_eq]
  generalize (lg_sl ([.ref (a 4), .int p1]) ++ List.replicate (2 - (lg_sl ([.ref (a 4), .int p1])).length) Slot.unset).toArray = ls at hl ⊢
  have hl : lv_has ls 2 [(0, .ref (a 4)), (1, .int p1)] := hl
  unfold mX6_uses at hm
  refine lv_iload_n hx hb dX6_uses_0 rfl (lv_at hl 1 rfl) ?_
  refine lv_if_lt (tgt := 21) hx hb dX6_uses_1 (by decide) (fun c1 => ?_) (fun c1 => ?_)
  · have hm := (if_pos c1).symm.trans hm
    refine lv_iconst (v := 0) hx hb dX6_uses_21 (by decide) ?_
    exact W.iret (v := 0) hx hb hr (fun T hT hW => ⟨⟨0, σ, rfl, ⟨Option.some.inj hm, rfl⟩, by rw [posW, hT]; exact hP⟩, hS.F hT⟩) hS.2.2 dX6_uses_22
  · have hm := (if_neg c1).symm.trans hm
    refine lv_iload_n hx hb dX6_uses_4 rfl (lv_at hl 1 rfl) ?_
    refine lv_aload_n hx hb dX6_uses_5 rfl (lv_at hl 0 rfl) ?_
    refine gfX6_known hx hb h_X6 hown hK hP l_f37 dX6_uses_6 ?_
    refine lv_icmp_ge (tgt := 21) hx hb dX6_uses_9 (by decide) (fun c2 => ?_) (fun c2 => ?_)
    · have hm := (if_pos c2).symm.trans hm
      refine lv_iconst (v := 0) hx hb dX6_uses_21 (by decide) ?_
      exact W.iret (v := 0) hx hb hr (fun T hT hW => ⟨⟨0, σ, rfl, ⟨Option.some.inj hm, rfl⟩, by rw [posW, hT]; exact hP⟩, hS.F hT⟩) hS.2.2 dX6_uses_22
    · have hm := (if_neg c2).symm.trans hm
      refine lv_aload_n hx hb dX6_uses_12 rfl (lv_at hl 0 rfl) ?_
      refine gfX6_uses hx hb h_X6 hown hK hP l_f27 dX6_uses_13 ?_
      refine lv_iload_n hx hb dX6_uses_16 rfl (lv_at hl 1 rfl) ?_
      obtain ⟨hi, hm⟩ := ok_I hm
      refine ldC_24 hx hb hK hP hi dX6_uses_17 ?_
      refine lv_goto (tgt := 22) hx hb dX6_uses_18 (by decide) ?_
      exact W.iret (v := σ.1 27 p1.toNatClampNeg) hx hb hr (fun T hT hW => ⟨⟨σ.1 27 p1.toNatClampNeg, σ, rfl, ⟨Option.some.inj hm, rfl⟩, by rw [posW, hT]; exact hP⟩, hS.F hT⟩) hS.2.2 dX6_uses_22
theorem eX6_noteUse : yX6_noteUse.cls = RX6 ∧ yX6_noteUse.cls ≠ "java/lang/invoke/MethodHandle" ∧ yX6_noteUse.cls ≠ "java/lang/invoke/VarHandle" ∧ (parseMethodDescriptor yX6_noteUse.desc).map (fun d => d.parameters.length) = some 1 := by decide +kernel
def mX6_noteUse (σ : St) (p1 : Int32) : Option St :=
if p1 < 0 then (
some σ)
else (
if (σ.1 6 0) ≤ p1 then (
some σ)
else (
chkI p1 16 (
chkI p1 16 (
bnd (su σ 27 (upd (σ.1 27) p1.toNatClampNeg ((σ.1 27 p1.toNatClampNeg) + 1))) fun s3 =>
some s3))))
set_option maxHeartbeats 4000000 in
set_option maxRecDepth 100000 in
theorem kX6_noteUse (l : Launch) (D : va_G) (y : Nat → ClassId) (a t : Nat → Nat) (hI : AI a 37) (sz : Nat) (σ τ : St) (p1 : Int32) (hm : mX6_noteUse σ p1 = some τ) : Met l yX6_noteUse zX6_noteUse { frames := 0, cells := 0, slots := 0, locals := 0 } (va_Pc [.ref (a 4), .int p1] (preW (wC y a) a 37 D y t σ sz)) (va_Qv (fun u => u = τ) (posW (wC y a) D) (AC a 37 sz)) 0 0 (AC a 37 sz) := by
  refine Met.ofW (cc := cX6_noteUse) (maxL := 2) (ret := none) (by decide) rfl ?_
  intro p e s m args below meth c s₁ B hml hv
  obtain ⟨rfl, hsz, hP, hK, hF⟩ := hv
  have hx := B.exec
  have hb := B.bytes
  have hr := B.returns
  have hts := atoms_spec (ws := zX6_noteUse) B.pre
  have hown : s.vm.findClass RX6 = some m.cls := findClass_of_methodNamed B.named
  have hlocks := B.notSynchronized
  subst hsz
  have l_f37 := hts _ (List.mem_cons_of_mem _ aF_X6_37)
  have l_f27 := hts _ (List.mem_cons_of_mem _ aF_X6_27)
  have h_X6 : ∀ w ∈ wsX60, w.before _ s = true := fun w hw => hts w (List.mem_cons_of_mem _ (hwX6 w hw))
  have hS : va_S (AC a 37 s.heap.size) s.heap s.heap [] := va_S.rf
  have hl := lv_entry ([.ref (a 4), .int p1]) (n := 2) (Nat.le_of_ble_eq_true rfl)
  rw [lg_entry_eq]
  generalize (lg_sl ([.ref (a 4), .int p1]) ++ List.replicate (2 - (lg_sl ([.ref (a 4), .int p1])).length) Slot.unset).toArray = ls at hl ⊢
  have hl : lv_has ls 2 [(0, .ref (a 4)), (1, .int p1)] := hl
  unfold mX6_noteUse at hm
  refine lv_iload_n hx hb dX6_noteUse_0 rfl (lv_at hl 1 rfl) ?_
  refine lv_if_lt (tgt := 22) hx hb dX6_noteUse_1 (by decide) (fun c1 => ?_) (fun c1 => ?_)
  · have hm := (if_pos c1).symm.trans hm
    exact W.vret hx hb hr (fun T hT hW => ⟨⟨σ, rfl, Option.some.inj hm, by rw [posW, hT]; exact hP⟩, hS.F hT⟩) hS.2.2 dX6_noteUse_22
  · have hm := (if_neg c1).symm.trans hm
    refine lv_iload_n hx hb dX6_noteUse_4 rfl (lv_at hl 1 rfl) ?_
    refine lv_aload_n hx hb dX6_noteUse_5 rfl (lv_at hl 0 rfl) ?_
    refine gfX6_known hx hb h_X6 hown hK hP l_f37 dX6_noteUse_6 ?_
    refine lv_icmp_ge (tgt := 22) hx hb dX6_noteUse_9 (by decide) (fun c2 => ?_) (fun c2 => ?_)
    · have hm := (if_pos c2).symm.trans hm
      exact W.vret hx hb hr (fun T hT hW => ⟨⟨σ, rfl, Option.some.inj hm, by rw [posW, hT]; exact hP⟩, hS.F hT⟩) hS.2.2 dX6_noteUse_22
    · have hm := (if_neg c2).symm.trans hm
      refine lv_aload_n hx hb dX6_noteUse_12 rfl (lv_at hl 0 rfl) ?_
      refine gfX6_uses hx hb h_X6 hown hK hP l_f27 dX6_noteUse_13 ?_
      refine lv_iload_n hx hb dX6_noteUse_16 rfl (lv_at hl 1 rfl) ?_
      refine lv_dup2_11 hx hb dX6_noteUse_17 rfl rfl ?_
      obtain ⟨hi, hm⟩ := ok_I hm
      refine ldC_24 hx hb hK hP hi dX6_noteUse_18 ?_
      refine lv_iconst (v := 1) hx hb dX6_noteUse_19 (by decide) ?_
      refine lv_iadd hx hb dX6_noteUse_20 ?_
      obtain ⟨hi, hm⟩ := ok_I hm
      refine stC_24 hx hb hK hP hI AC_in hS hi dX6_noteUse_21 (fun H locs hP hS => ?_)
      generalize es3 : su σ 27 (upd (σ.1 27) p1.toNatClampNeg ((σ.1 27 p1.toNatClampNeg) + 1)) = s3 at hP
      have hm := bnd_x es3.symm hm
      exact W.vret hx hb hr (fun T hT hW => ⟨⟨s3, rfl, Option.some.inj hm, by rw [posW, hT]; exact hP⟩, hS.F hT⟩) hS.2.2 dX6_noteUse_22
theorem eX6_add : yX6_add.cls = RX6 ∧ yX6_add.cls ≠ "java/lang/invoke/MethodHandle" ∧ yX6_add.cls ≠ "java/lang/invoke/VarHandle" ∧ (parseMethodDescriptor yX6_add.desc).map (fun d => d.parameters.length) = some 5 := by decide +kernel
def mX6_add (σ : St) (p1 : Int32) (p2 : Int32) (p3 : Int32) (p4 : Int32) (p5 : Int32) : Option (Int32 × St) :=
bnd (σ.1 6 0) fun x1 =>
if x1 < 0 then (
some ((-1), σ))
else (
if x1 < 16 then (
chkI x1 16 (
bnd (su σ 22 (upd (σ.1 22) x1.toNatClampNeg p1)) fun s4 =>
chkI x1 16 (
bnd (su s4 23 (upd (s4.1 23) x1.toNatClampNeg p2)) fun s5 =>
chkI x1 16 (
bnd (su s5 24 (upd (s5.1 24) x1.toNatClampNeg p3)) fun s6 =>
chkI x1 16 (
bnd (su s6 25 (upd (s6.1 25) x1.toNatClampNeg p4)) fun s7 =>
chkI x1 16 (
bnd (su s7 26 (upd (s7.1 26) x1.toNatClampNeg p5)) fun s8 =>
chkI x1 16 (
bnd (su s8 27 (upd (s8.1 27) x1.toNatClampNeg 0)) fun s9 =>
bnd (su s9 6 (fun _ => (s9.1 6 0) + 1)) fun s10 =>
some (x1, s10))))))))
else (
some ((-1), σ)))
set_option maxHeartbeats 4000000 in
set_option maxRecDepth 100000 in
theorem kX6_add (l : Launch) (D : va_G) (y : Nat → ClassId) (a t : Nat → Nat) (hI : AI a 37) (sz : Nat) (σ τ : St) (p1 : Int32) (p2 : Int32) (p3 : Int32) (p4 : Int32) (p5 : Int32) (r : Int32) (hm : mX6_add σ p1 p2 p3 p4 p5 = some (r, τ)) : Met l yX6_add zX6_add { frames := 0, cells := 0, slots := 0, locals := 0 } (va_Pc [.ref (a 4), .int p1, .int p2, .int p3, .int p4, .int p5] (preW (wC y a) a 37 D y t σ sz)) (va_Qi (fun r' u => r' = r ∧ u = τ) (posW (wC y a) D) (AC a 37 sz)) 0 0 (AC a 37 sz) := by
  refine Met.ofW (cc := cX6_add) (maxL := 7) (ret := (some .int)) (by decide) rfl ?_
  intro p e s m args below meth c s₁ B hml hv
  obtain ⟨rfl, hsz, hP, hK, hF⟩ := hv
  have hx := B.exec
  have hb := B.bytes
  have hr := B.returns
  have hts := atoms_spec (ws := zX6_add) B.pre
  have hown : s.vm.findClass RX6 = some m.cls := findClass_of_methodNamed B.named
  have hlocks := B.notSynchronized
  subst hsz
  have l_f37 := hts _ (List.mem_cons_of_mem _ aF_X6_37)
  have l_f9 := hts _ (List.mem_cons_of_mem _ aF_X6_9)
  have l_f15 := hts _ (List.mem_cons_of_mem _ aF_X6_15)
  have l_f18 := hts _ (List.mem_cons_of_mem _ aF_X6_18)
  have l_f21 := hts _ (List.mem_cons_of_mem _ aF_X6_21)
  have l_f24 := hts _ (List.mem_cons_of_mem _ aF_X6_24)
  have l_f27 := hts _ (List.mem_cons_of_mem _ aF_X6_27)
  have h_X6 : ∀ w ∈ wsX60, w.before _ s = true := fun w hw => hts w (List.mem_cons_of_mem _ (hwX6 w hw))
  have hS : va_S (AC a 37 s.heap.size) s.heap s.heap [] := va_S.rf
  have hl := lv_entry ([.ref (a 4), .int p1, .int p2, .int p3, .int p4, .int p5]) (n := 7) (Nat.le_of_ble_eq_true rfl)
  rw [lg_entry_eq]
  generalize (lg_sl ([.ref (a 4), .int p1, .int p2, .int p3, .int p4, .int p5]) ++ List.replicate (7 - (lg_sl ([.ref (a 4), .int p1, .int p2, .int p3, .int p4, .int p5])).length) Slot.unset).toArray = ls at hl ⊢
  have hl : lv_has ls 7 [(0, .ref (a 4)), (1, .int p1), (2, .int p2), (3, .int p3), (4, .int p4), (5, .int p5)] := hl
  unfold mX6_add at hm
  refine lv_aload_n hx hb dX6_add_0 rfl (lv_at hl 0 rfl) ?_
  refine gfX6_known hx hb h_X6 hown hK hP l_f37 dX6_add_1 ?_
  refine lv_topi (fun x1 ex1 => ?_)
  have hm := bnd_x ex1 hm
  refine lv_istore (lv' := [(6, .int x1), (0, .ref (a 4)), (1, .int p1), (2, .int p2), (3, .int p3), (4, .int p4), (5, .int p5)]) hx hb dX6_add_4 hl (by decide) rfl (fun ls hl => ?_)
  refine lv_iload hx hb dX6_add_6 (lv_at hl 0 rfl) ?_
  refine lv_if_lt (tgt := 18) hx hb dX6_add_8 (by decide) (fun c2 => ?_) (fun c2 => ?_)
  · have hm := (if_pos c2).symm.trans hm
    refine lv_iconst (v := (-1)) hx hb dX6_add_18 (by decide) ?_
    exact W.iret (v := (-1)) hx hb hr (fun T hT hW => ⟨⟨(-1), σ, rfl, ⟨congrArg Prod.fst (Option.some.inj hm), congrArg Prod.snd (Option.some.inj hm)⟩, by rw [posW, hT]; exact hP⟩, hS.F hT⟩) hS.2.2 dX6_add_19
  · have hm := (if_neg c2).symm.trans hm
    refine lv_iload hx hb dX6_add_11 (lv_at hl 0 rfl) ?_
    refine lv_bipush (v := 16) hx hb dX6_add_13 (by decide) ?_
    refine lv_icmp_lt (tgt := 20) hx hb dX6_add_15 (by decide) (fun c3 => ?_) (fun c3 => ?_)
    · have hm := (if_pos c3).symm.trans hm
      refine lv_aload_n hx hb dX6_add_20 rfl (lv_at hl 1 rfl) ?_
      refine gfX6_conclusions hx hb h_X6 hown hK hP l_f9 dX6_add_21 ?_
      refine lv_iload hx hb dX6_add_24 (lv_at hl 0 rfl) ?_
      refine lv_iload_n hx hb dX6_add_26 rfl (lv_at hl 2 rfl) ?_
      obtain ⟨hi, hm⟩ := ok_I hm
      refine stC_19 hx hb hK hP hI AC_in hS hi dX6_add_27 (fun H locs hP hS => ?_)
      generalize es4 : su σ 22 (upd (σ.1 22) x1.toNatClampNeg p1) = s4 at hP
      have hm := bnd_x es4.symm hm
      refine lv_aload_n hx hb dX6_add_28 rfl (lv_at hl 1 rfl) ?_
      refine gfX6_firsts hx hb h_X6 hown hK hP l_f15 dX6_add_29 ?_
      refine lv_iload hx hb dX6_add_32 (lv_at hl 0 rfl) ?_
      refine lv_iload_n hx hb dX6_add_34 rfl (lv_at hl 3 rfl) ?_
      obtain ⟨hi, hm⟩ := ok_I hm
      refine stC_20 hx hb hK hP hI AC_in hS hi dX6_add_35 (fun H locs hP hS => ?_)
      generalize es5 : su s4 23 (upd (s4.1 23) x1.toNatClampNeg p2) = s5 at hP
      have hm := bnd_x es5.symm hm
      refine lv_aload_n hx hb dX6_add_36 rfl (lv_at hl 1 rfl) ?_
      refine gfX6_seconds hx hb h_X6 hown hK hP l_f18 dX6_add_37 ?_
      refine lv_iload hx hb dX6_add_40 (lv_at hl 0 rfl) ?_
      refine lv_iload_n hx hb dX6_add_42 rfl (lv_at hl 4 rfl) ?_
      obtain ⟨hi, hm⟩ := ok_I hm
      refine stC_21 hx hb hK hP hI AC_in hS hi dX6_add_43 (fun H locs hP hS => ?_)
      generalize es6 : su s5 24 (upd (s5.1 24) x1.toNatClampNeg p3) = s6 at hP
      have hm := bnd_x es6.symm hm
      refine lv_aload_n hx hb dX6_add_44 rfl (lv_at hl 1 rfl) ?_
      refine gfX6_lines hx hb h_X6 hown hK hP l_f21 dX6_add_45 ?_
      refine lv_iload hx hb dX6_add_48 (lv_at hl 0 rfl) ?_
      refine lv_iload hx hb dX6_add_50 (lv_at hl 5 rfl) ?_
      obtain ⟨hi, hm⟩ := ok_I hm
      refine stC_22 hx hb hK hP hI AC_in hS hi dX6_add_52 (fun H locs hP hS => ?_)
      generalize es7 : su s6 25 (upd (s6.1 25) x1.toNatClampNeg p4) = s7 at hP
      have hm := bnd_x es7.symm hm
      refine lv_aload_n hx hb dX6_add_53 rfl (lv_at hl 1 rfl) ?_
      refine gfX6_needed hx hb h_X6 hown hK hP l_f24 dX6_add_54 ?_
      refine lv_iload hx hb dX6_add_57 (lv_at hl 0 rfl) ?_
      refine lv_iload hx hb dX6_add_59 (lv_at hl 6 rfl) ?_
      obtain ⟨hi, hm⟩ := ok_I hm
      refine stC_23 hx hb hK hP hI AC_in hS hi dX6_add_61 (fun H locs hP hS => ?_)
      generalize es8 : su s7 26 (upd (s7.1 26) x1.toNatClampNeg p5) = s8 at hP
      have hm := bnd_x es8.symm hm
      refine lv_aload_n hx hb dX6_add_62 rfl (lv_at hl 1 rfl) ?_
      refine gfX6_uses hx hb h_X6 hown hK hP l_f27 dX6_add_63 ?_
      refine lv_iload hx hb dX6_add_66 (lv_at hl 0 rfl) ?_
      refine lv_iconst (v := 0) hx hb dX6_add_68 (by decide) ?_
      obtain ⟨hi, hm⟩ := ok_I hm
      refine stC_24 hx hb hK hP hI AC_in hS hi dX6_add_69 (fun H locs hP hS => ?_)
      generalize es9 : su s8 27 (upd (s8.1 27) x1.toNatClampNeg 0) = s9 at hP
      have hm := bnd_x es9.symm hm
      refine lv_aload_n hx hb dX6_add_70 rfl (lv_at hl 1 rfl) ?_
      refine lv_dup hx hb dX6_add_71 rfl ?_
      refine gfX6_known hx hb h_X6 hown hK hP l_f37 dX6_add_72 ?_
      refine lv_iconst (v := 1) hx hb dX6_add_75 (by decide) ?_
      refine lv_iadd hx hb dX6_add_76 ?_
      refine pfX6_known hx hb h_X6 hown hK hP hI AC_in hS l_f37 dX6_add_77 (fun H locs hP hS => ?_)
      generalize es10 : su s9 6 (fun _ => (s9.1 6 0) + 1) = s10 at hP
      have hm := bnd_x es10.symm hm
      refine lv_iload hx hb dX6_add_80 (lv_at hl 0 rfl) ?_
      exact W.iret (v := x1) hx hb hr (fun T hT hW => ⟨⟨x1, s10, rfl, ⟨congrArg Prod.fst (Option.some.inj hm), congrArg Prod.snd (Option.some.inj hm)⟩, by rw [posW, hT]; exact hP⟩, hS.F hT⟩) hS.2.2 dX6_add_82
    · have hm := (if_neg c3).symm.trans hm
      refine lv_iconst (v := (-1)) hx hb dX6_add_18 (by decide) ?_
      exact W.iret (v := (-1)) hx hb hr (fun T hT hW => ⟨⟨(-1), σ, rfl, ⟨congrArg Prod.fst (Option.some.inj hm), congrArg Prod.snd (Option.some.inj hm)⟩, by rw [posW, hT]; exact hP⟩, hS.F hT⟩) hS.2.2 dX6_add_19
theorem eX6_neededShare : yX6_neededShare.cls = RX6 ∧ yX6_neededShare.cls ≠ "java/lang/invoke/MethodHandle" ∧ yX6_neededShare.cls ≠ "java/lang/invoke/VarHandle" ∧ (parseMethodDescriptor yX6_neededShare.desc).map (fun d => d.parameters.length) = some 0 := by decide +kernel
def mX6_neededShare_44 (σ : St) (v1 : Int32) (v2 : Int32) : Option UInt64 :=
if 0 < v2 then (
chkN (FP.ddiv (FP.i2d v1) (FP.i2d v2)) (
some (FP.ddiv (FP.i2d v1) (FP.i2d v2))))
else (
some FP.dconst1)
def bX6_neededShare_6 (kh6 : St → Int32 → Int32 → Int32 → Option UInt64) (σ : St) (v4 : Int32) (v5 : Int32) (v6 : Int32) : Option UInt64 :=
if (σ.1 6 0) ≤ v6 then (
mX6_neededShare_44 σ v4 v5)
else (
if 16 ≤ v6 then (
mX6_neededShare_44 σ v4 v5)
else (
chkI v6 16 (
bnd (v4 + (σ.1 26 v6.toNatClampNeg)) fun x9 =>
chkI v6 16 (
bnd (v5 + (σ.1 25 v6.toNatClampNeg)) fun x10 =>
bnd (v6 + 1) fun x11 =>
kh6 σ x9 x10 x11))))
abbrev mX6_neededShare_6 (n : Nat) : St → Int32 → Int32 → Int32 → Option UInt64 := fx (fun _ _ _ _ => none) (bX6_neededShare_6) n
def mX6_neededShare (σ : St) : Option UInt64 :=
mX6_neededShare_6 NF σ 0 0 0
set_option maxHeartbeats 4000000 in
set_option maxRecDepth 100000 in
theorem kX6_neededShare (l : Launch) (D : va_G) (y : Nat → ClassId) (a t : Nat → Nat) (hI : AI a 37) (sz : Nat) (σ : St) (r : UInt64) (hm : mX6_neededShare σ = some r) : Met l yX6_neededShare zX6_neededShare { frames := 0, cells := 0, slots := 0, locals := 0 } (va_Pc [.ref (a 4)] (preW (wC y a) a 37 D y t σ sz)) (va_Qd (fun r' u => r' = r ∧ u = σ) (posW (wC y a) D) (AC a 37 sz)) 0 0 (AC a 37 sz) := by
  refine Met.ofW (cc := cX6_neededShare) (maxL := 4) (ret := (some .double)) (by decide) rfl ?_
  intro p e s m args below meth c s₁ B hml hv
  obtain ⟨rfl, hsz, hP, hK, hF⟩ := hv
  have hx := B.exec
  have hb := B.bytes
  have hr := B.returns
  have hts := atoms_spec (ws := zX6_neededShare) B.pre
  have hown : s.vm.findClass RX6 = some m.cls := findClass_of_methodNamed B.named
  have hlocks := B.notSynchronized
  subst hsz
  have l_f37 := hts _ (List.mem_cons_of_mem _ aF_X6_37)
  have l_f24 := hts _ (List.mem_cons_of_mem _ aF_X6_24)
  have l_f21 := hts _ (List.mem_cons_of_mem _ aF_X6_21)
  have h_X6 : ∀ w ∈ wsX60, w.before _ s = true := fun w hw => hts w (List.mem_cons_of_mem _ (hwX6 w hw))
  have hS : va_S (AC a 37 s.heap.size) s.heap s.heap [] := va_S.rf
  have hl := lv_entry ([.ref (a 4)]) (n := 4) (Nat.le_of_ble_eq_true rfl)
  rw [lg_entry_eq]
  generalize (lg_sl ([.ref (a 4)]) ++ List.replicate (4 - (lg_sl ([.ref (a 4)])).length) Slot.unset).toArray = ls at hl ⊢
  have hl : lv_has ls 4 [(0, .ref (a 4))] := hl
  have L_44 : ∀ (v1 : Int32) (v2 : Int32) (H : Heap) (locs : List Loc) (ls : Array Slot), va_P D vwCl (wC y a σ) H → va_S (AC a 37 s.heap.size) s.heap H locs → lv_has ls 4 [(1, .int v1), (2, .int v2)] → mX6_neededShare_44 σ v1 v2 = some r → W p l e (headSpec zX6_neededShare ({ frames := 0, cells := 0, slots := 0, locals := 0 })).room s m ([.ref (a 4)] : List Value).toArray below meth c H locs 0 0 (MQ below (va_Qd (fun r' u => r' = r ∧ u = σ) (posW (wC y a) D) (AC a 37 s.heap.size)) ([.ref (a 4)] : List Value).toArray s 0 0 (AC a 37 s.heap.size)) (F0 m 44 ls []) := by
    intro v1 v2 H locs ls hP hS hl hm
    unfold mX6_neededShare_44 at hm
    refine lv_iload_n hx hb dX6_neededShare_44 rfl (lv_at hl 1 rfl) ?_
    refine lv_if_gt (tgt := 52) hx hb dX6_neededShare_45 (by decide) (fun c3 => ?_) (fun c3 => ?_)
    · have hm := (if_pos c3).symm.trans hm
      refine lv_iload_n hx hb dX6_neededShare_52 rfl (lv_at hl 0 rfl) ?_
      refine lv_i2d hx hb dX6_neededShare_53 ?_
      refine lv_iload_n hx hb dX6_neededShare_54 rfl (lv_at hl 1 rfl) ?_
      refine lv_i2d hx hb dX6_neededShare_55 ?_
      obtain ⟨hn, hm⟩ := ok_N hm
      refine lv_ddiv hx hb dX6_neededShare_56 hn ?_
      exact W.dret (v := FP.ddiv (FP.i2d v1) (FP.i2d v2)) hx hb hr (fun T hT hW => ⟨⟨FP.ddiv (FP.i2d v1) (FP.i2d v2), σ, rfl, ⟨Option.some.inj hm, rfl⟩, by rw [posW, hT]; exact hP⟩, hS.F hT⟩) hS.2.2 dX6_neededShare_57
    · have hm := (if_neg c3).symm.trans hm
      refine lv_dconst1 hx hb dX6_neededShare_48 ?_
      refine lv_goto (tgt := 57) hx hb dX6_neededShare_49 (by decide) ?_
      exact W.dret (v := FP.dconst1) hx hb hr (fun T hT hW => ⟨⟨FP.dconst1, σ, rfl, ⟨Option.some.inj hm, rfl⟩, by rw [posW, hT]; exact hP⟩, hS.F hT⟩) hS.2.2 dX6_neededShare_57
  have L_6 : ∀ (n : Nat) (v4 : Int32) (v5 : Int32) (v6 : Int32) (H : Heap) (locs : List Loc) (ls : Array Slot), va_P D vwCl (wC y a σ) H → va_S (AC a 37 s.heap.size) s.heap H locs → lv_has ls 4 [(0, .ref (a 4)), (1, .int v4), (2, .int v5), (3, .int v6)] → mX6_neededShare_6 n σ v4 v5 v6 = some r → W p l e (headSpec zX6_neededShare ({ frames := 0, cells := 0, slots := 0, locals := 0 })).room s m ([.ref (a 4)] : List Value).toArray below meth c H locs 0 0 (MQ below (va_Qd (fun r' u => r' = r ∧ u = σ) (posW (wC y a) D) (AC a 37 s.heap.size)) ([.ref (a 4)] : List Value).toArray s 0 0 (AC a 37 s.heap.size)) (F0 m 6 ls []) := by
    intro n
    induction n with
    | zero =>
      intro v4 v5 v6 H locs ls hP hS hl hm
      exact absurd (show (none : Option UInt64) = some r from hm) (by intro h; cases h)
    | succ n ih6 =>
      obtain ⟨kh6, ekh6⟩ : ∃ z, z = mX6_neededShare_6 n := ⟨_, rfl⟩
      have ih6 : ∀ (v4 : Int32) (v5 : Int32) (v6 : Int32) (H : Heap) (locs : List Loc) (ls : Array Slot), va_P D vwCl (wC y a σ) H → va_S (AC a 37 s.heap.size) s.heap H locs → lv_has ls 4 [(0, .ref (a 4)), (1, .int v4), (2, .int v5), (3, .int v6)] → kh6 σ v4 v5 v6 = some r → W p l e (headSpec zX6_neededShare ({ frames := 0, cells := 0, slots := 0, locals := 0 })).room s m ([.ref (a 4)] : List Value).toArray below meth c H locs 0 0 (MQ below (va_Qd (fun r' u => r' = r ∧ u = σ) (posW (wC y a) D) (AC a 37 s.heap.size)) ([.ref (a 4)] : List Value).toArray s 0 0 (AC a 37 s.heap.size)) (F0 m 6 ls []) := by rw [ekh6]; exact ih6
      intro v4 v5 v6 H locs ls hP hS hl hm
      have hm : bX6_neededShare_6 (mX6_neededShare_6 n) σ v4 v5 v6 = some r := hm
      rw [← ekh6] at hm
      unfold bX6_neededShare_6 at hm
      refine lv_iload_n hx hb dX6_neededShare_6 rfl (lv_at hl 3 rfl) ?_
      refine lv_aload_n hx hb dX6_neededShare_7 rfl (lv_at hl 0 rfl) ?_
      refine gfX6_known hx hb h_X6 hown hK hP l_f37 dX6_neededShare_8 ?_
      refine lv_icmp_ge (tgt := 44) hx hb dX6_neededShare_11 (by decide) (fun c7 => ?_) (fun c7 => ?_)
      · have hm := (if_pos c7).symm.trans hm
        exact L_44 v4 v5 _ _ _ hP hS (lv_sub hl [1, 2] rfl) hm
      · have hm := (if_neg c7).symm.trans hm
        refine lv_iload_n hx hb dX6_neededShare_14 rfl (lv_at hl 3 rfl) ?_
        refine lv_bipush (v := 16) hx hb dX6_neededShare_15 (by decide) ?_
        refine lv_icmp_ge (tgt := 44) hx hb dX6_neededShare_17 (by decide) (fun c8 => ?_) (fun c8 => ?_)
        · have hm := (if_pos c8).symm.trans hm
          exact L_44 v4 v5 _ _ _ hP hS (lv_sub hl [1, 2] rfl) hm
        · have hm := (if_neg c8).symm.trans hm
          refine lv_iload_n hx hb dX6_neededShare_20 rfl (lv_at hl 1 rfl) ?_
          refine lv_aload_n hx hb dX6_neededShare_21 rfl (lv_at hl 0 rfl) ?_
          refine gfX6_needed hx hb h_X6 hown hK hP l_f24 dX6_neededShare_22 ?_
          refine lv_iload_n hx hb dX6_neededShare_25 rfl (lv_at hl 3 rfl) ?_
          obtain ⟨hi, hm⟩ := ok_I hm
          refine ldC_23 hx hb hK hP hi dX6_neededShare_26 ?_
          refine lv_iadd hx hb dX6_neededShare_27 ?_
          refine lv_topi (fun x9 ex9 => ?_)
          have hm := bnd_x ex9 hm
          refine lv_istore_n (lv' := [(1, .int x9), (0, .ref (a 4)), (2, .int v5), (3, .int v6)]) hx hb dX6_neededShare_28 rfl hl (by decide) rfl (fun ls hl => ?_)
          refine lv_iload_n hx hb dX6_neededShare_29 rfl (lv_at hl 2 rfl) ?_
          refine lv_aload_n hx hb dX6_neededShare_30 rfl (lv_at hl 1 rfl) ?_
          refine gfX6_lines hx hb h_X6 hown hK hP l_f21 dX6_neededShare_31 ?_
          refine lv_iload_n hx hb dX6_neededShare_34 rfl (lv_at hl 3 rfl) ?_
          obtain ⟨hi, hm⟩ := ok_I hm
          refine ldC_22 hx hb hK hP hi dX6_neededShare_35 ?_
          refine lv_iadd hx hb dX6_neededShare_36 ?_
          refine lv_topi (fun x10 ex10 => ?_)
          have hm := bnd_x ex10 hm
          refine lv_istore_n (lv' := [(2, .int x10), (1, .int x9), (0, .ref (a 4)), (3, .int v6)]) hx hb dX6_neededShare_37 rfl hl (by decide) rfl (fun ls hl => ?_)
          obtain ⟨x11, ex11⟩ : ∃ z : Int32, z = v6 + 1 := ⟨_, rfl⟩
          have hm := bnd_x ex11 hm
          refine lv_iinc (v := x11) (lv' := [(3, .int x11), (2, .int x10), (1, .int x9), (0, .ref (a 4))]) hx hb dX6_neededShare_38 hl (k := 3) rfl (by rw [ex11]; rfl) (by decide) rfl (fun ls hl => ?_)
          refine lv_goto (tgt := 6) hx hb dX6_neededShare_41 (by decide) ?_
          exact ih6 x9 x10 x11 _ _ _ hP hS (lv_sub hl [3, 2, 1, 0] rfl) hm
  unfold mX6_neededShare at hm
  refine lv_iconst (v := 0) hx hb dX6_neededShare_0 (by decide) ?_
  refine lv_istore_n (lv' := [(1, .int 0), (0, .ref (a 4))]) hx hb dX6_neededShare_1 rfl hl (by decide) rfl (fun ls hl => ?_)
  refine lv_iconst (v := 0) hx hb dX6_neededShare_2 (by decide) ?_
  refine lv_istore_n (lv' := [(2, .int 0), (1, .int 0), (0, .ref (a 4))]) hx hb dX6_neededShare_3 rfl hl (by decide) rfl (fun ls hl => ?_)
  refine lv_iconst (v := 0) hx hb dX6_neededShare_4 (by decide) ?_
  refine lv_istore_n (lv' := [(3, .int 0), (2, .int 0), (1, .int 0), (0, .ref (a 4))]) hx hb dX6_neededShare_5 rfl hl (by decide) rfl (fun ls hl => ?_)
  exact L_6 NF 0 0 0 _ _ _ hP hS (lv_sub hl [3, 2, 1, 0] rfl) hm
theorem eX6_becomes : yX6_becomes.cls = RX6 ∧ yX6_becomes.cls ≠ "java/lang/invoke/MethodHandle" ∧ yX6_becomes.cls ≠ "java/lang/invoke/VarHandle" ∧ (parseMethodDescriptor yX6_becomes.desc).map (fun d => d.parameters.length) = some 2 := by decide +kernel
def mX6_becomes_29 (s3 : St) (v1 : Int32) (v2 : Int32) : Option (Int32 × St) :=
chkI v1 240 (
if (s3.1 28 v1.toNatClampNeg) = v2 then (
some (1, s3))
else (
some (0, s3)))
def mX6_becomes (σ : St) (p1 : Int32) (p2 : Int32) : Option (Int32 × St) :=
if p1 < 0 then (
some (0, σ))
else (
if p1 < 240 then (
chkI p1 240 (
if 0 ≤ (σ.1 28 p1.toNatClampNeg) then (
mX6_becomes_29 σ p1 p2)
else (
chkI p1 240 (
bnd (su σ 28 (upd (σ.1 28) p1.toNatClampNeg p2)) fun s8 =>
mX6_becomes_29 s8 p1 p2))))
else (
some (0, σ)))
set_option maxHeartbeats 4000000 in
set_option maxRecDepth 100000 in
theorem kX6_becomes (l : Launch) (D : va_G) (y : Nat → ClassId) (a t : Nat → Nat) (hI : AI a 37) (sz : Nat) (σ τ : St) (p1 : Int32) (p2 : Int32) (r : Int32) (hm : mX6_becomes σ p1 p2 = some (r, τ)) : Met l yX6_becomes zX6_becomes { frames := 0, cells := 0, slots := 0, locals := 0 } (va_Pc [.ref (a 4), .int p1, .int p2] (preW (wC y a) a 37 D y t σ sz)) (va_Qi (fun r' u => r' = r ∧ u = τ) (posW (wC y a) D) (AC a 37 sz)) 0 0 (AC a 37 sz) := by
  refine Met.ofW (cc := cX6_becomes) (maxL := 3) (ret := (some .boolean)) (by decide) rfl ?_
  intro p e s m args below meth c s₁ B hml hv
  obtain ⟨rfl, hsz, hP, hK, hF⟩ := hv
  have hx := B.exec
  have hb := B.bytes
  have hr := B.returns
  have hts := atoms_spec (ws := zX6_becomes) B.pre
  have hown : s.vm.findClass RX6 = some m.cls := findClass_of_methodNamed B.named
  have hlocks := B.notSynchronized
  subst hsz
  have l_f30 := hts _ (List.mem_cons_of_mem _ aF_X6_30)
  have h_X6 : ∀ w ∈ wsX60, w.before _ s = true := fun w hw => hts w (List.mem_cons_of_mem _ (hwX6 w hw))
  have hS : va_S (AC a 37 s.heap.size) s.heap s.heap [] := va_S.rf
  have hl := lv_entry ([.ref (a 4), .int p1, .int p2]) (n := 3) (Nat.le_of_ble_eq_true rfl)
  rw [lg_entry_eq]
  generalize (lg_sl ([.ref (a 4), .int p1, .int p2]) ++ List.replicate (3 - (lg_sl ([.ref (a 4), .int p1, .int p2])).length) Slot.unset).toArray = ls at hl ⊢
  have hl : lv_has ls 3 [(0, .ref (a 4)), (1, .int p1), (2, .int p2)] := hl
  have L_29 : ∀ (s3 : St) (v1 : Int32) (v2 : Int32) (H : Heap) (locs : List Loc) (ls : Array Slot), va_P D vwCl (wC y a s3) H → va_S (AC a 37 s.heap.size) s.heap H locs → lv_has ls 3 [(0, .ref (a 4)), (1, .int v1), (2, .int v2)] → mX6_becomes_29 s3 v1 v2 = some (r, τ) → W p l e (headSpec zX6_becomes ({ frames := 0, cells := 0, slots := 0, locals := 0 })).room s m ([.ref (a 4), .int p1, .int p2] : List Value).toArray below meth c H locs 0 0 (MQ below (va_Qi (fun r' u => r' = r ∧ u = τ) (posW (wC y a) D) (AC a 37 s.heap.size)) ([.ref (a 4), .int p1, .int p2] : List Value).toArray s 0 0 (AC a 37 s.heap.size)) (F0 m 29 ls []) := by
    intro s3 v1 v2 H locs ls hP hS hl hm
    unfold mX6_becomes_29 at hm
    refine lv_aload_n hx hb dX6_becomes_29 rfl (lv_at hl 0 rfl) ?_
    refine gfX6_images hx hb h_X6 hown hK hP l_f30 dX6_becomes_30 ?_
    refine lv_iload_n hx hb dX6_becomes_33 rfl (lv_at hl 1 rfl) ?_
    obtain ⟨hi, hm⟩ := ok_I hm
    refine ldC_25 hx hb hK hP hi dX6_becomes_34 ?_
    refine lv_iload_n hx hb dX6_becomes_35 rfl (lv_at hl 2 rfl) ?_
    refine lv_icmp_ne (tgt := 43) hx hb dX6_becomes_36 (by decide) (fun c4 => ?_) (fun c4 => ?_)
    · have hm := (if_neg c4).symm.trans hm
      refine lv_iconst (v := 0) hx hb dX6_becomes_43 (by decide) ?_
      exact W.zret (v := 0) hx hb hr rfl (fun T hT hW => ⟨⟨0, s3, rfl, ⟨congrArg Prod.fst (Option.some.inj hm), congrArg Prod.snd (Option.some.inj hm)⟩, by rw [posW, hT]; exact hP⟩, hS.F hT⟩) hS.2.2 dX6_becomes_44
    · have hm := (if_pos c4).symm.trans hm
      refine lv_iconst (v := 1) hx hb dX6_becomes_39 (by decide) ?_
      refine lv_goto (tgt := 44) hx hb dX6_becomes_40 (by decide) ?_
      exact W.zret (v := 1) hx hb hr rfl (fun T hT hW => ⟨⟨1, s3, rfl, ⟨congrArg Prod.fst (Option.some.inj hm), congrArg Prod.snd (Option.some.inj hm)⟩, by rw [posW, hT]; exact hP⟩, hS.F hT⟩) hS.2.2 dX6_becomes_44
  unfold mX6_becomes at hm
  refine lv_iload_n hx hb dX6_becomes_0 rfl (lv_at hl 1 rfl) ?_
  refine lv_if_lt (tgt := 11) hx hb dX6_becomes_1 (by decide) (fun c5 => ?_) (fun c5 => ?_)
  · have hm := (if_pos c5).symm.trans hm
    refine lv_iconst (v := 0) hx hb dX6_becomes_11 (by decide) ?_
    exact W.zret (v := 0) hx hb hr rfl (fun T hT hW => ⟨⟨0, σ, rfl, ⟨congrArg Prod.fst (Option.some.inj hm), congrArg Prod.snd (Option.some.inj hm)⟩, by rw [posW, hT]; exact hP⟩, hS.F hT⟩) hS.2.2 dX6_becomes_12
  · have hm := (if_neg c5).symm.trans hm
    refine lv_iload_n hx hb dX6_becomes_4 rfl (lv_at hl 1 rfl) ?_
    refine lv_sipush (v := 240) hx hb dX6_becomes_5 (by decide) ?_
    refine lv_icmp_lt (tgt := 13) hx hb dX6_becomes_8 (by decide) (fun c6 => ?_) (fun c6 => ?_)
    · have hm := (if_pos c6).symm.trans hm
      refine lv_aload_n hx hb dX6_becomes_13 rfl (lv_at hl 0 rfl) ?_
      refine gfX6_images hx hb h_X6 hown hK hP l_f30 dX6_becomes_14 ?_
      refine lv_iload_n hx hb dX6_becomes_17 rfl (lv_at hl 1 rfl) ?_
      obtain ⟨hi, hm⟩ := ok_I hm
      refine ldC_25 hx hb hK hP hi dX6_becomes_18 ?_
      refine lv_if_ge (tgt := 29) hx hb dX6_becomes_19 (by decide) (fun c7 => ?_) (fun c7 => ?_)
      · have hm := (if_pos c7).symm.trans hm
        exact L_29 σ p1 p2 _ _ _ hP hS (lv_sub hl [0, 1, 2] rfl) hm
      · have hm := (if_neg c7).symm.trans hm
        refine lv_aload_n hx hb dX6_becomes_22 rfl (lv_at hl 0 rfl) ?_
        refine gfX6_images hx hb h_X6 hown hK hP l_f30 dX6_becomes_23 ?_
        refine lv_iload_n hx hb dX6_becomes_26 rfl (lv_at hl 1 rfl) ?_
        refine lv_iload_n hx hb dX6_becomes_27 rfl (lv_at hl 2 rfl) ?_
        obtain ⟨hi, hm⟩ := ok_I hm
        refine stC_25 hx hb hK hP hI AC_in hS hi dX6_becomes_28 (fun H locs hP hS => ?_)
        generalize es8 : su σ 28 (upd (σ.1 28) p1.toNatClampNeg p2) = s8 at hP
        have hm := bnd_x es8.symm hm
        exact L_29 s8 p1 p2 _ _ _ hP hS (lv_sub hl [0, 1, 2] rfl) hm
    · have hm := (if_neg c6).symm.trans hm
      refine lv_iconst (v := 0) hx hb dX6_becomes_11 (by decide) ?_
      exact W.zret (v := 0) hx hb hr rfl (fun T hT hW => ⟨⟨0, σ, rfl, ⟨congrArg Prod.fst (Option.some.inj hm), congrArg Prod.snd (Option.some.inj hm)⟩, by rw [posW, hT]; exact hP⟩, hS.F hT⟩) hS.2.2 dX6_becomes_12
theorem eX6_partsBecome : yX6_partsBecome.cls = RX6 ∧ yX6_partsBecome.cls ≠ "java/lang/invoke/MethodHandle" ∧ yX6_partsBecome.cls ≠ "java/lang/invoke/VarHandle" ∧ (parseMethodDescriptor yX6_partsBecome.desc).map (fun d => d.parameters.length) = some 2 := by decide +kernel
def mX6_partsBecome_55 (s4 : St) (v1 : Int32) (v2 : Int32) (v3 : Int32) : Option (Int32 × St) :=
if v3 < 3 then (
some (1, s4))
else (
(mX1_second s4 v1).bind fun r6 =>
(mX1_second s4 v2).bind fun r8 =>
(mX6_becomes s4 r6 r8).bind fun ⟨r10, s12⟩ =>
if r10 = 0 then (
some (0, s12))
else (
some (1, s12)))
def mX6_partsBecome (σ : St) (p1 : Int32) (p2 : Int32) : Option (Int32 × St) :=
(mX1_sort σ p1).bind fun r14 =>
if r14 = 0 then (
some (1, σ))
else (
(mX1_sort σ p2).bind fun r17 =>
if r14 = r17 then (
if r14 < 2 then (
mX6_partsBecome_55 σ p1 p2 r14)
else (
(mX1_left σ p1).bind fun r21 =>
(mX1_left σ p2).bind fun r23 =>
(mX6_becomes σ r21 r23).bind fun ⟨r25, s27⟩ =>
if r25 = 0 then (
some (0, s27))
else (
mX6_partsBecome_55 s27 p1 p2 r14)))
else (
some (0, σ)))
set_option maxHeartbeats 4000000 in
set_option maxRecDepth 100000 in
theorem kX6_partsBecome (l : Launch) (D : va_G) (y : Nat → ClassId) (a t : Nat → Nat) (hI : AI a 37) (sz : Nat) (σ τ : St) (p1 : Int32) (p2 : Int32) (r : Int32) (hm : mX6_partsBecome σ p1 p2 = some (r, τ)) : Met l yX6_partsBecome zX6_partsBecome { frames := 1, cells := 0, slots := 0, locals := 22 } (va_Pc [.ref (a 4), .int p1, .int p2] (preW (wC y a) a 37 D y t σ sz)) (va_Qi (fun r' u => r' = r ∧ u = τ) (posW (wC y a) D) (AC a 37 sz)) 0 0 (AC a 37 sz) := by
  refine Met.ofW (cc := cX6_partsBecome) (maxL := 4) (ret := (some .boolean)) (by decide) rfl ?_
  intro p e s m args below meth c s₁ B hml hv
  obtain ⟨rfl, hsz, hP, hK, hF⟩ := hv
  have hx := B.exec
  have hb := B.bytes
  have hr := B.returns
  have hts := atoms_spec (ws := zX6_partsBecome) B.pre
  have hown : s.vm.findClass RX6 = some m.cls := findClass_of_methodNamed B.named
  have hlocks := B.notSynchronized
  subst hsz
  have l_f33 := hts _ (List.mem_cons_of_mem _ aF_X6_33)
  have h_X6 : ∀ w ∈ wsX60, w.before _ s = true := fun w hw => hts w (List.mem_cons_of_mem _ (hwX6 w hw))
  have hS : va_S (AC a 37 s.heap.size) s.heap s.heap [] := va_S.rf
  have hl := lv_entry ([.ref (a 4), .int p1, .int p2]) (n := 4) (Nat.le_of_ble_eq_true rfl)
  rw [lg_entry_eq]
  generalize (lg_sl ([.ref (a 4), .int p1, .int p2]) ++ List.replicate (4 - (lg_sl ([.ref (a 4), .int p1, .int p2])).length) Slot.unset).toArray = ls at hl ⊢
  have hl : lv_has ls 4 [(0, .ref (a 4)), (1, .int p1), (2, .int p2)] := hl
  have L_55 : ∀ (s4 : St) (v1 : Int32) (v2 : Int32) (v3 : Int32) (H : Heap) (locs : List Loc) (ls : Array Slot), va_P D vwCl (wC y a s4) H → va_S (AC a 37 s.heap.size) s.heap H locs → lv_has ls 4 [(0, .ref (a 4)), (1, .int v1), (2, .int v2), (3, .int v3)] → mX6_partsBecome_55 s4 v1 v2 v3 = some (r, τ) → W p l e (headSpec zX6_partsBecome ({ frames := 1, cells := 0, slots := 0, locals := 22 })).room s m ([.ref (a 4), .int p1, .int p2] : List Value).toArray below meth c H locs 0 0 (MQ below (va_Qi (fun r' u => r' = r ∧ u = τ) (posW (wC y a) D) (AC a 37 s.heap.size)) ([.ref (a 4), .int p1, .int p2] : List Value).toArray s 0 0 (AC a 37 s.heap.size)) (F0 m 55 ls []) := by
    intro s4 v1 v2 v3 H locs ls hP hS hl hm
    unfold mX6_partsBecome_55 at hm
    refine lv_iload_n hx hb dX6_partsBecome_55 rfl (lv_at hl 3 rfl) ?_
    refine lv_iconst (v := 3) hx hb dX6_partsBecome_56 (by decide) ?_
    refine lv_icmp_lt (tgt := 83) hx hb dX6_partsBecome_57 (by decide) (fun c5 => ?_) (fun c5 => ?_)
    · have hm := (if_pos c5).symm.trans hm
      refine lv_iconst (v := 1) hx hb dX6_partsBecome_83 (by decide) ?_
      refine lv_goto (tgt := 88) hx hb dX6_partsBecome_84 (by decide) ?_
      exact W.zret (v := 1) hx hb hr rfl (fun T hT hW => ⟨⟨1, s4, rfl, ⟨congrArg Prod.fst (Option.some.inj hm), congrArg Prod.snd (Option.some.inj hm)⟩, by rw [posW, hT]; exact hP⟩, hS.F hT⟩) hS.2.2 dX6_partsBecome_88
    · have hm := (if_neg c5).symm.trans hm
      refine lv_aload_n hx hb dX6_partsBecome_60 rfl (lv_at hl 0 rfl) ?_
      refine lv_aload_n hx hb dX6_partsBecome_61 rfl (lv_at hl 0 rfl) ?_
      refine gfX6_formulas hx hb h_X6 hown hK hP l_f33 dX6_partsBecome_62 ?_
      refine lv_iload_n hx hb dX6_partsBecome_65 rfl (lv_at hl 1 rfl) ?_
      obtain ⟨r6, h7, hm⟩ := ok_bind hm
      refine calV_i (As := [.int v1]) (rest := [.ref (a 4)]) ⟨hx, hb, hml, hown, hts⟩ (kX1_second l D y a t hI _ s4 v1 r6 h7) (cwV 1 hts (gAV aM_X6_80 aI_X1_second aS_X1_second aN_X1 aC_X1_second) rfl rfl rfl eX1_second ⟨Nat.le_of_ble_eq_true rfl, Nat.le_of_ble_eq_true rfl⟩) (preV_W (ci := 1) (q := (RX1, TX1, 8)) hK hP hF hS rfl (wC_1 y a s4)) rfl hl.1 rfl (Nat.le_of_ble_eq_true rfl) dX6_partsBecome_66 ⟨Nat.zero_le _, Nat.zero_le _⟩ hS (AC_le hS.1) (fun H locs hP hS hk1 => ?_)
      refine lv_aload_n hx hb dX6_partsBecome_69 rfl (lv_at hl 0 rfl) ?_
      refine gfX6_formulas hx hb h_X6 hown hK hP l_f33 dX6_partsBecome_70 ?_
      refine lv_iload_n hx hb dX6_partsBecome_73 rfl (lv_at hl 2 rfl) ?_
      obtain ⟨r8, h9, hm⟩ := ok_bind hm
      refine calV_i (As := [.int v2]) (rest := [.int r6, .ref (a 4)]) ⟨hx, hb, hml, hown, hts⟩ (kX1_second l D y a t hI _ s4 v2 r8 h9) (cwV 1 hts (gAV aM_X6_80 aI_X1_second aS_X1_second aN_X1 aC_X1_second) rfl rfl rfl eX1_second ⟨Nat.le_of_ble_eq_true rfl, Nat.le_of_ble_eq_true rfl⟩) (preV_W (ci := 1) (q := (RX1, TX1, 8)) hK hP hF hS rfl (wC_1 y a s4)) rfl hl.1 rfl (Nat.le_of_ble_eq_true rfl) dX6_partsBecome_74 ⟨Nat.zero_le _, Nat.zero_le _⟩ hS (AC_le hS.1) (fun H locs hP hS hk1 => ?_)
      obtain ⟨⟨r10, s12⟩, h11, hm⟩ := ok_bind hm
      refine calV_i (As := [.int r6, .int r8]) (rest := []) ⟨hx, hb, hml, hown, hts⟩ (kX6_becomes l D y a t hI _ s4 s12 r6 r8 r10 h11) (cwV 2 hts (gAV aM_X6_55 aI_X6_becomes aS_X6_becomes aN_X6 aC_X6_becomes) rfl rfl rfl eX6_becomes ⟨Nat.le_of_ble_eq_true rfl, Nat.le_of_ble_eq_true rfl⟩) (preV_W (ci := 6) (q := (RX6, TX6, 9)) hK hP hF hS rfl (wC_4 y a s4)) rfl hl.1 rfl (Nat.le_of_ble_eq_true rfl) dX6_partsBecome_77 ⟨Nat.zero_le _, Nat.zero_le _⟩ hS (AC_le hS.1) (fun H locs hP hS hk1 => ?_)
      refine lv_if_eq (tgt := 87) hx hb dX6_partsBecome_80 (by decide) (fun c13 => ?_) (fun c13 => ?_)
      · have hm := (if_pos c13).symm.trans hm
        refine lv_iconst (v := 0) hx hb dX6_partsBecome_87 (by decide) ?_
        exact W.zret (v := 0) hx hb hr rfl (fun T hT hW => ⟨⟨0, s12, rfl, ⟨congrArg Prod.fst (Option.some.inj hm), congrArg Prod.snd (Option.some.inj hm)⟩, by rw [posW, hT]; exact hP⟩, hS.F hT⟩) hS.2.2 dX6_partsBecome_88
      · have hm := (if_neg c13).symm.trans hm
        refine lv_iconst (v := 1) hx hb dX6_partsBecome_83 (by decide) ?_
        refine lv_goto (tgt := 88) hx hb dX6_partsBecome_84 (by decide) ?_
        exact W.zret (v := 1) hx hb hr rfl (fun T hT hW => ⟨⟨1, s12, rfl, ⟨congrArg Prod.fst (Option.some.inj hm), congrArg Prod.snd (Option.some.inj hm)⟩, by rw [posW, hT]; exact hP⟩, hS.F hT⟩) hS.2.2 dX6_partsBecome_88
  unfold mX6_partsBecome at hm
  refine lv_aload_n hx hb dX6_partsBecome_0 rfl (lv_at hl 0 rfl) ?_
  refine gfX6_formulas hx hb h_X6 hown hK hP l_f33 dX6_partsBecome_1 ?_
  refine lv_iload_n hx hb dX6_partsBecome_4 rfl (lv_at hl 1 rfl) ?_
  obtain ⟨r14, h15, hm⟩ := ok_bind hm
  refine calV_i (As := [.int p1]) (rest := []) ⟨hx, hb, hml, hown, hts⟩ (kX1_sort l D y a t hI _ σ p1 r14 h15) (cwV 1 hts (gAV aM_X6_74 aI_X1_sort aS_X1_sort aN_X1 aC_X1_sort) rfl rfl rfl eX1_sort ⟨Nat.le_of_ble_eq_true rfl, Nat.le_of_ble_eq_true rfl⟩) (preV_W (ci := 1) (q := (RX1, TX1, 8)) hK hP hF hS rfl (wC_1 y a σ)) rfl hl.1 rfl (Nat.le_of_ble_eq_true rfl) dX6_partsBecome_5 ⟨Nat.zero_le _, Nat.zero_le _⟩ hS (AC_le hS.1) (fun H locs hP hS hk1 => ?_)
  refine lv_istore_n (lv' := [(3, .int r14), (0, .ref (a 4)), (1, .int p1), (2, .int p2)]) hx hb dX6_partsBecome_8 rfl hl (by decide) rfl (fun ls hl => ?_)
  refine lv_iload_n hx hb dX6_partsBecome_9 rfl (lv_at hl 0 rfl) ?_
  refine lv_if_ne (tgt := 15) hx hb dX6_partsBecome_10 (by decide) (fun c16 => ?_) (fun c16 => ?_)
  · have hm := (if_neg c16).symm.trans hm
    refine lv_iload_n hx hb dX6_partsBecome_15 rfl (lv_at hl 0 rfl) ?_
    refine lv_aload_n hx hb dX6_partsBecome_16 rfl (lv_at hl 1 rfl) ?_
    refine gfX6_formulas hx hb h_X6 hown hK hP l_f33 dX6_partsBecome_17 ?_
    refine lv_iload_n hx hb dX6_partsBecome_20 rfl (lv_at hl 3 rfl) ?_
    obtain ⟨r17, h18, hm⟩ := ok_bind hm
    refine calV_i (As := [.int p2]) (rest := [.int r14]) ⟨hx, hb, hml, hown, hts⟩ (kX1_sort l D y a t hI _ σ p2 r17 h18) (cwV 1 hts (gAV aM_X6_74 aI_X1_sort aS_X1_sort aN_X1 aC_X1_sort) rfl rfl rfl eX1_sort ⟨Nat.le_of_ble_eq_true rfl, Nat.le_of_ble_eq_true rfl⟩) (preV_W (ci := 1) (q := (RX1, TX1, 8)) hK hP hF hS rfl (wC_1 y a σ)) rfl hl.1 rfl (Nat.le_of_ble_eq_true rfl) dX6_partsBecome_21 ⟨Nat.zero_le _, Nat.zero_le _⟩ hS (AC_le hS.1) (fun H locs hP hS hk1 => ?_)
    refine lv_icmp_ne (tgt := 87) hx hb dX6_partsBecome_24 (by decide) (fun c19 => ?_) (fun c19 => ?_)
    · have hm := (if_neg c19).symm.trans hm
      refine lv_iconst (v := 0) hx hb dX6_partsBecome_87 (by decide) ?_
      exact W.zret (v := 0) hx hb hr rfl (fun T hT hW => ⟨⟨0, σ, rfl, ⟨congrArg Prod.fst (Option.some.inj hm), congrArg Prod.snd (Option.some.inj hm)⟩, by rw [posW, hT]; exact hP⟩, hS.F hT⟩) hS.2.2 dX6_partsBecome_88
    · have hm := (if_pos c19).symm.trans hm
      refine lv_iload_n hx hb dX6_partsBecome_27 rfl (lv_at hl 0 rfl) ?_
      refine lv_iconst (v := 2) hx hb dX6_partsBecome_28 (by decide) ?_
      refine lv_icmp_lt (tgt := 55) hx hb dX6_partsBecome_29 (by decide) (fun c20 => ?_) (fun c20 => ?_)
      · have hm := (if_pos c20).symm.trans hm
        exact L_55 σ p1 p2 r14 _ _ _ hP hS (lv_sub hl [1, 2, 3, 0] rfl) hm
      · have hm := (if_neg c20).symm.trans hm
        refine lv_aload_n hx hb dX6_partsBecome_32 rfl (lv_at hl 1 rfl) ?_
        refine lv_aload_n hx hb dX6_partsBecome_33 rfl (lv_at hl 1 rfl) ?_
        refine gfX6_formulas hx hb h_X6 hown hK hP l_f33 dX6_partsBecome_34 ?_
        refine lv_iload_n hx hb dX6_partsBecome_37 rfl (lv_at hl 2 rfl) ?_
        obtain ⟨r21, h22, hm⟩ := ok_bind hm
        refine calV_i (As := [.int p1]) (rest := [.ref (a 4)]) ⟨hx, hb, hml, hown, hts⟩ (kX1_left l D y a t hI _ σ p1 r21 h22) (cwV 1 hts (gAV aM_X6_77 aI_X1_left aS_X1_left aN_X1 aC_X1_left) rfl rfl rfl eX1_left ⟨Nat.le_of_ble_eq_true rfl, Nat.le_of_ble_eq_true rfl⟩) (preV_W (ci := 1) (q := (RX1, TX1, 8)) hK hP hF hS rfl (wC_1 y a σ)) rfl hl.1 rfl (Nat.le_of_ble_eq_true rfl) dX6_partsBecome_38 ⟨Nat.zero_le _, Nat.zero_le _⟩ hS (AC_le hS.1) (fun H locs hP hS hk1 => ?_)
        refine lv_aload_n hx hb dX6_partsBecome_41 rfl (lv_at hl 1 rfl) ?_
        refine gfX6_formulas hx hb h_X6 hown hK hP l_f33 dX6_partsBecome_42 ?_
        refine lv_iload_n hx hb dX6_partsBecome_45 rfl (lv_at hl 3 rfl) ?_
        obtain ⟨r23, h24, hm⟩ := ok_bind hm
        refine calV_i (As := [.int p2]) (rest := [.int r21, .ref (a 4)]) ⟨hx, hb, hml, hown, hts⟩ (kX1_left l D y a t hI _ σ p2 r23 h24) (cwV 1 hts (gAV aM_X6_77 aI_X1_left aS_X1_left aN_X1 aC_X1_left) rfl rfl rfl eX1_left ⟨Nat.le_of_ble_eq_true rfl, Nat.le_of_ble_eq_true rfl⟩) (preV_W (ci := 1) (q := (RX1, TX1, 8)) hK hP hF hS rfl (wC_1 y a σ)) rfl hl.1 rfl (Nat.le_of_ble_eq_true rfl) dX6_partsBecome_46 ⟨Nat.zero_le _, Nat.zero_le _⟩ hS (AC_le hS.1) (fun H locs hP hS hk1 => ?_)
        obtain ⟨⟨r25, s27⟩, h26, hm⟩ := ok_bind hm
        refine calV_i (As := [.int r21, .int r23]) (rest := []) ⟨hx, hb, hml, hown, hts⟩ (kX6_becomes l D y a t hI _ σ s27 r21 r23 r25 h26) (cwV 2 hts (gAV aM_X6_55 aI_X6_becomes aS_X6_becomes aN_X6 aC_X6_becomes) rfl rfl rfl eX6_becomes ⟨Nat.le_of_ble_eq_true rfl, Nat.le_of_ble_eq_true rfl⟩) (preV_W (ci := 6) (q := (RX6, TX6, 9)) hK hP hF hS rfl (wC_4 y a σ)) rfl hl.1 rfl (Nat.le_of_ble_eq_true rfl) dX6_partsBecome_49 ⟨Nat.zero_le _, Nat.zero_le _⟩ hS (AC_le hS.1) (fun H locs hP hS hk1 => ?_)
        refine lv_if_eq (tgt := 87) hx hb dX6_partsBecome_52 (by decide) (fun c28 => ?_) (fun c28 => ?_)
        · have hm := (if_pos c28).symm.trans hm
          refine lv_iconst (v := 0) hx hb dX6_partsBecome_87 (by decide) ?_
          exact W.zret (v := 0) hx hb hr rfl (fun T hT hW => ⟨⟨0, s27, rfl, ⟨congrArg Prod.fst (Option.some.inj hm), congrArg Prod.snd (Option.some.inj hm)⟩, by rw [posW, hT]; exact hP⟩, hS.F hT⟩) hS.2.2 dX6_partsBecome_88
        · have hm := (if_neg c28).symm.trans hm
          exact L_55 s27 p1 p2 r14 _ _ _ hP hS (lv_sub hl [1, 2, 3, 0] rfl) hm
  · have hm := (if_pos c16).symm.trans hm
    refine lv_iconst (v := 1) hx hb dX6_partsBecome_13 (by decide) ?_
    exact W.zret (v := 1) hx hb hr rfl (fun T hT hW => ⟨⟨1, σ, rfl, ⟨congrArg Prod.fst (Option.some.inj hm), congrArg Prod.snd (Option.some.inj hm)⟩, by rw [posW, hT]; exact hP⟩, hS.F hT⟩) hS.2.2 dX6_partsBecome_14
theorem eX6_saysWithPremises : yX6_saysWithPremises.cls = RX6 ∧ yX6_saysWithPremises.cls ≠ "java/lang/invoke/MethodHandle" ∧ yX6_saysWithPremises.cls ≠ "java/lang/invoke/VarHandle" ∧ (parseMethodDescriptor yX6_saysWithPremises.desc).map (fun d => d.parameters.length) = some 4 := by decide +kernel
def mX6_saysWithPremises_110 (kh69 : St → Int32 → Int32 → Option (Int32 × St)) (s3 : St) (v1 : Int32) (v2 : Int32) : Option (Int32 × St) :=
bnd (v1 + (-1)) fun x4 =>
kh69 s3 v2 x4
def mX6_saysWithPremises_105 (kh69 : St → Int32 → Int32 → Option (Int32 × St)) (s6 : St) (v5 : Int32) : Option (Int32 × St) :=
mX6_saysWithPremises_110 kh69 s6 v5 1
def bX6_saysWithPremises_69 (kh69 : St → Int32 → Int32 → Option (Int32 × St)) (s9 : St) (v7 : Int32) (v8 : Int32) : Option (Int32 × St) :=
if v8 < 0 then (
chkZ v7 (some (v7, s9)))
else (
if v7 = 0 then (
chkZ v7 (some (v7, s9)))
else (
chkI v8 240 (
if (s9.1 28 v8.toNatClampNeg) < 0 then (
mX6_saysWithPremises_105 kh69 s9 v8)
else (
chkI v8 240 (
(mX6_partsBecome s9 v8 (s9.1 28 v8.toNatClampNeg)).bind fun ⟨r13, s15⟩ =>
if r13 = 0 then (
mX6_saysWithPremises_110 kh69 s15 v8 0)
else (
mX6_saysWithPremises_105 kh69 s15 v8))))))
abbrev mX6_saysWithPremises_69 (n : Nat) : St → Int32 → Int32 → Option (Int32 × St) := fx (fun _ _ _ => none) (bX6_saysWithPremises_69) n
def mX6_saysWithPremises_62 (s18 : St) (v17 : Int32) : Option (Int32 × St) :=
mX6_saysWithPremises_69 NF s18 v17 239
def mX6_saysWithPremises_61 (s19 : St) : Option (Int32 × St) :=
mX6_saysWithPremises_62 s19 0
def mX6_saysWithPremises_57 (s20 : St) : Option (Int32 × St) :=
mX6_saysWithPremises_62 s20 1
def mX6_saysWithPremises_38 (s23 : St) (v21 : Int32) (v22 : Int32) : Option (Int32 × St) :=
if v22 < 0 then (
mX6_saysWithPremises_57 s23)
else (
(mX6_secondPremise s23 v21).bind fun r25 =>
(mX6_becomes s23 r25 v22).bind fun ⟨r27, s29⟩ =>
if r27 = 0 then (
mX6_saysWithPremises_61 s29)
else (
mX6_saysWithPremises_57 s29))
def mX6_saysWithPremises (σ : St) (p1 : Int32) (p2 : Int32) (p3 : Int32) (p4 : Int32) : Option (Int32 × St) :=
(mJ7_fill_53178 σ (-1)).bind fun s32 =>
(mX6_conclusion s32 p1).bind fun r33 =>
(mX6_becomes s32 r33 p2).bind fun ⟨r35, s37⟩ =>
if r35 = 0 then (
mX6_saysWithPremises_61 s37)
else (
if p3 < 0 then (
mX6_saysWithPremises_38 s37 p1 p4)
else (
(mX6_firstPremise s37 p1).bind fun r40 =>
(mX6_becomes s37 r40 p3).bind fun ⟨r42, s44⟩ =>
if r42 = 0 then (
mX6_saysWithPremises_61 s44)
else (
mX6_saysWithPremises_38 s44 p1 p4)))
set_option maxHeartbeats 4000000 in
set_option maxRecDepth 100000 in
theorem kX6_saysWithPremises (l : Launch) (D : va_G) (y : Nat → ClassId) (a t : Nat → Nat) (hI : AI a 37) (sz : Nat) (σ τ : St) (p1 : Int32) (p2 : Int32) (p3 : Int32) (p4 : Int32) (r : Int32) (hm : mX6_saysWithPremises σ p1 p2 p3 p4 = some (r, τ)) : Met l yX6_saysWithPremises zX6_saysWithPremises { frames := 2, cells := 0, slots := 0, locals := 45 } (va_Pc [.ref (a 4), .int p1, .int p2, .int p3, .int p4] (preW (wC y a) a 37 D y t σ sz)) (va_Qi (fun r' u => r' = r ∧ u = τ) (posW (wC y a) D) (AC a 37 sz)) 0 0 (AC a 37 sz) := by
  refine Met.ofW (cc := cX6_saysWithPremises) (maxL := 7) (ret := (some .boolean)) (by decide) rfl ?_
  intro p e s m args below meth c s₁ B hml hv
  obtain ⟨rfl, hsz, hP, hK, hF⟩ := hv
  have hx := B.exec
  have hb := B.bytes
  have hr := B.returns
  have hts := atoms_spec (ws := zX6_saysWithPremises) B.pre
  have hown : s.vm.findClass RX6 = some m.cls := findClass_of_methodNamed B.named
  have hlocks := B.notSynchronized
  subst hsz
  have l_f30 := hts _ (List.mem_cons_of_mem _ aF_X6_30)
  have h_X6 : ∀ w ∈ wsX60, w.before _ s = true := fun w hw => hts w (List.mem_cons_of_mem _ (hwX6 w hw))
  have hS : va_S (AC a 37 s.heap.size) s.heap s.heap [] := va_S.rf
  have hl := lv_entry ([.ref (a 4), .int p1, .int p2, .int p3, .int p4]) (n := 7) (Nat.le_of_ble_eq_true rfl)
  rw [lg_entry_eq]
  generalize (lg_sl ([.ref (a 4), .int p1, .int p2, .int p3, .int p4]) ++ List.replicate (7 - (lg_sl ([.ref (a 4), .int p1, .int p2, .int p3, .int p4])).length) Slot.unset).toArray = ls at hl ⊢
  have hl : lv_has ls 7 [(0, .ref (a 4)), (1, .int p1), (2, .int p2), (3, .int p3), (4, .int p4)] := hl
  have L_69 : ∀ (n : Nat) (s9 : St) (v7 : Int32) (v8 : Int32) (H : Heap) (locs : List Loc) (ls : Array Slot), va_P D vwCl (wC y a s9) H → va_S (AC a 37 s.heap.size) s.heap H locs → lv_has ls 7 [(0, .ref (a 4)), (5, .int v7), (6, .int v8)] → mX6_saysWithPremises_69 n s9 v7 v8 = some (r, τ) → W p l e (headSpec zX6_saysWithPremises ({ frames := 2, cells := 0, slots := 0, locals := 45 })).room s m ([.ref (a 4), .int p1, .int p2, .int p3, .int p4] : List Value).toArray below meth c H locs 0 0 (MQ below (va_Qi (fun r' u => r' = r ∧ u = τ) (posW (wC y a) D) (AC a 37 s.heap.size)) ([.ref (a 4), .int p1, .int p2, .int p3, .int p4] : List Value).toArray s 0 0 (AC a 37 s.heap.size)) (F0 m 69 ls []) := by
    intro n
    induction n with
    | zero =>
      intro s9 v7 v8 H locs ls hP hS hl hm
      exact absurd (show (none : Option (Int32 × St)) = some (r, τ) from hm) (by intro h; cases h)
    | succ n ih69 =>
      obtain ⟨kh69, ekh69⟩ : ∃ z, z = mX6_saysWithPremises_69 n := ⟨_, rfl⟩
      have ih69 : ∀ (s9 : St) (v7 : Int32) (v8 : Int32) (H : Heap) (locs : List Loc) (ls : Array Slot), va_P D vwCl (wC y a s9) H → va_S (AC a 37 s.heap.size) s.heap H locs → lv_has ls 7 [(0, .ref (a 4)), (5, .int v7), (6, .int v8)] → kh69 s9 v7 v8 = some (r, τ) → W p l e (headSpec zX6_saysWithPremises ({ frames := 2, cells := 0, slots := 0, locals := 45 })).room s m ([.ref (a 4), .int p1, .int p2, .int p3, .int p4] : List Value).toArray below meth c H locs 0 0 (MQ below (va_Qi (fun r' u => r' = r ∧ u = τ) (posW (wC y a) D) (AC a 37 s.heap.size)) ([.ref (a 4), .int p1, .int p2, .int p3, .int p4] : List Value).toArray s 0 0 (AC a 37 s.heap.size)) (F0 m 69 ls []) := by rw [ekh69]; exact ih69
      have L_110 : ∀ (s3 : St) (v1 : Int32) (v2 : Int32) (H : Heap) (locs : List Loc) (ls : Array Slot), va_P D vwCl (wC y a s3) H → va_S (AC a 37 s.heap.size) s.heap H locs → lv_has ls 7 [(0, .ref (a 4)), (6, .int v1)] → mX6_saysWithPremises_110 kh69 s3 v1 v2 = some (r, τ) → W p l e (headSpec zX6_saysWithPremises ({ frames := 2, cells := 0, slots := 0, locals := 45 })).room s m ([.ref (a 4), .int p1, .int p2, .int p3, .int p4] : List Value).toArray below meth c H locs 0 0 (MQ below (va_Qi (fun r' u => r' = r ∧ u = τ) (posW (wC y a) D) (AC a 37 s.heap.size)) ([.ref (a 4), .int p1, .int p2, .int p3, .int p4] : List Value).toArray s 0 0 (AC a 37 s.heap.size)) (F0 m 110 ls [.int v2]) := by
        intro s3 v1 v2 H locs ls hP hS hl hm
        unfold mX6_saysWithPremises_110 at hm
        refine lv_istore (lv' := [(5, .int v2), (0, .ref (a 4)), (6, .int v1)]) hx hb dX6_saysWithPremises_110 hl (by decide) rfl (fun ls hl => ?_)
        obtain ⟨x4, ex4⟩ : ∃ z : Int32, z = v1 + (-1) := ⟨_, rfl⟩
        have hm := bnd_x ex4 hm
        refine lv_iinc (v := x4) (lv' := [(6, .int x4), (5, .int v2), (0, .ref (a 4))]) hx hb dX6_saysWithPremises_112 hl (k := 2) rfl (by rw [ex4]; rfl) (by decide) rfl (fun ls hl => ?_)
        refine lv_goto (tgt := 69) hx hb dX6_saysWithPremises_115 (by decide) ?_
        exact ih69 s3 v2 x4 _ _ _ hP hS (lv_sub hl [2, 1, 0] rfl) hm
      have L_105 : ∀ (s6 : St) (v5 : Int32) (H : Heap) (locs : List Loc) (ls : Array Slot), va_P D vwCl (wC y a s6) H → va_S (AC a 37 s.heap.size) s.heap H locs → lv_has ls 7 [(0, .ref (a 4)), (6, .int v5)] → mX6_saysWithPremises_105 kh69 s6 v5 = some (r, τ) → W p l e (headSpec zX6_saysWithPremises ({ frames := 2, cells := 0, slots := 0, locals := 45 })).room s m ([.ref (a 4), .int p1, .int p2, .int p3, .int p4] : List Value).toArray below meth c H locs 0 0 (MQ below (va_Qi (fun r' u => r' = r ∧ u = τ) (posW (wC y a) D) (AC a 37 s.heap.size)) ([.ref (a 4), .int p1, .int p2, .int p3, .int p4] : List Value).toArray s 0 0 (AC a 37 s.heap.size)) (F0 m 105 ls []) := by
        intro s6 v5 H locs ls hP hS hl hm
        unfold mX6_saysWithPremises_105 at hm
        refine lv_iconst (v := 1) hx hb dX6_saysWithPremises_105 (by decide) ?_
        refine lv_goto (tgt := 110) hx hb dX6_saysWithPremises_106 (by decide) ?_
        exact L_110 s6 v5 1 _ _ _ hP hS (lv_sub hl [0, 1] rfl) hm
      intro s9 v7 v8 H locs ls hP hS hl hm
      have hm : bX6_saysWithPremises_69 (mX6_saysWithPremises_69 n) s9 v7 v8 = some (r, τ) := hm
      rw [← ekh69] at hm
      unfold bX6_saysWithPremises_69 at hm
      refine lv_iload hx hb dX6_saysWithPremises_69 (lv_at hl 2 rfl) ?_
      refine lv_if_lt (tgt := 118) hx hb dX6_saysWithPremises_71 (by decide) (fun c10 => ?_) (fun c10 => ?_)
      · have hm := (if_pos c10).symm.trans hm
        refine lv_iload hx hb dX6_saysWithPremises_118 (lv_at hl 1 rfl) ?_
        obtain ⟨hz, hm⟩ := ok_Z hm
        exact W.zret (v := v7) hx hb hr hz (fun T hT hW => ⟨⟨v7, s9, rfl, ⟨congrArg Prod.fst (Option.some.inj hm), congrArg Prod.snd (Option.some.inj hm)⟩, by rw [posW, hT]; exact hP⟩, hS.F hT⟩) hS.2.2 dX6_saysWithPremises_120
      · have hm := (if_neg c10).symm.trans hm
        refine lv_iload hx hb dX6_saysWithPremises_74 (lv_at hl 1 rfl) ?_
        refine lv_if_eq (tgt := 118) hx hb dX6_saysWithPremises_76 (by decide) (fun c11 => ?_) (fun c11 => ?_)
        · have hm := (if_pos c11).symm.trans hm
          refine lv_iload hx hb dX6_saysWithPremises_118 (lv_at hl 1 rfl) ?_
          obtain ⟨hz, hm⟩ := ok_Z hm
          exact W.zret (v := v7) hx hb hr hz (fun T hT hW => ⟨⟨v7, s9, rfl, ⟨congrArg Prod.fst (Option.some.inj hm), congrArg Prod.snd (Option.some.inj hm)⟩, by rw [posW, hT]; exact hP⟩, hS.F hT⟩) hS.2.2 dX6_saysWithPremises_120
        · have hm := (if_neg c11).symm.trans hm
          refine lv_aload_n hx hb dX6_saysWithPremises_79 rfl (lv_at hl 0 rfl) ?_
          refine gfX6_images hx hb h_X6 hown hK hP l_f30 dX6_saysWithPremises_80 ?_
          refine lv_iload hx hb dX6_saysWithPremises_83 (lv_at hl 2 rfl) ?_
          obtain ⟨hi, hm⟩ := ok_I hm
          refine ldC_25 hx hb hK hP hi dX6_saysWithPremises_85 ?_
          refine lv_if_lt (tgt := 105) hx hb dX6_saysWithPremises_86 (by decide) (fun c12 => ?_) (fun c12 => ?_)
          · have hm := (if_pos c12).symm.trans hm
            exact L_105 s9 v8 _ _ _ hP hS (lv_sub hl [0, 2] rfl) hm
          · have hm := (if_neg c12).symm.trans hm
            refine lv_aload_n hx hb dX6_saysWithPremises_89 rfl (lv_at hl 0 rfl) ?_
            refine lv_iload hx hb dX6_saysWithPremises_90 (lv_at hl 2 rfl) ?_
            refine lv_aload_n hx hb dX6_saysWithPremises_92 rfl (lv_at hl 0 rfl) ?_
            refine gfX6_images hx hb h_X6 hown hK hP l_f30 dX6_saysWithPremises_93 ?_
            refine lv_iload hx hb dX6_saysWithPremises_96 (lv_at hl 2 rfl) ?_
            obtain ⟨hi, hm⟩ := ok_I hm
            refine ldC_25 hx hb hK hP hi dX6_saysWithPremises_98 ?_
            obtain ⟨⟨r13, s15⟩, h14, hm⟩ := ok_bind hm
            refine calV_i (As := [.int v8, .int (s9.1 28 v8.toNatClampNeg)]) (rest := []) ⟨hx, hb, hml, hown, hts⟩ (kX6_partsBecome l D y a t hI _ s9 s15 v8 (s9.1 28 v8.toNatClampNeg) r13 h14) (cwV 2 hts (gAV aM_X6_65 aI_X6_partsBecome aS_X6_partsBecome aN_X6 aC_X6_partsBecome) rfl rfl rfl eX6_partsBecome ⟨Nat.le_of_ble_eq_true rfl, Nat.le_of_ble_eq_true rfl⟩) (preV_W (ci := 6) (q := (RX6, TX6, 9)) hK hP hF hS rfl (wC_4 y a s9)) rfl hl.1 rfl (Nat.le_of_ble_eq_true rfl) dX6_saysWithPremises_99 ⟨Nat.zero_le _, Nat.zero_le _⟩ hS (AC_le hS.1) (fun H locs hP hS hk1 => ?_)
            refine lv_if_eq (tgt := 109) hx hb dX6_saysWithPremises_102 (by decide) (fun c16 => ?_) (fun c16 => ?_)
            · have hm := (if_pos c16).symm.trans hm
              refine lv_iconst (v := 0) hx hb dX6_saysWithPremises_109 (by decide) ?_
              exact L_110 s15 v8 0 _ _ _ hP hS (lv_sub hl [0, 2] rfl) hm
            · have hm := (if_neg c16).symm.trans hm
              exact L_105 s15 v8 _ _ _ hP hS (lv_sub hl [0, 2] rfl) hm
  have L_62 : ∀ (s18 : St) (v17 : Int32) (H : Heap) (locs : List Loc) (ls : Array Slot), va_P D vwCl (wC y a s18) H → va_S (AC a 37 s.heap.size) s.heap H locs → lv_has ls 7 [(0, .ref (a 4))] → mX6_saysWithPremises_62 s18 v17 = some (r, τ) → W p l e (headSpec zX6_saysWithPremises ({ frames := 2, cells := 0, slots := 0, locals := 45 })).room s m ([.ref (a 4), .int p1, .int p2, .int p3, .int p4] : List Value).toArray below meth c H locs 0 0 (MQ below (va_Qi (fun r' u => r' = r ∧ u = τ) (posW (wC y a) D) (AC a 37 s.heap.size)) ([.ref (a 4), .int p1, .int p2, .int p3, .int p4] : List Value).toArray s 0 0 (AC a 37 s.heap.size)) (F0 m 62 ls [.int v17]) := by
    intro s18 v17 H locs ls hP hS hl hm
    unfold mX6_saysWithPremises_62 at hm
    refine lv_istore (lv' := [(5, .int v17), (0, .ref (a 4))]) hx hb dX6_saysWithPremises_62 hl (by decide) rfl (fun ls hl => ?_)
    refine lv_sipush (v := 239) hx hb dX6_saysWithPremises_64 (by decide) ?_
    refine lv_istore (lv' := [(6, .int 239), (5, .int v17), (0, .ref (a 4))]) hx hb dX6_saysWithPremises_67 hl (by decide) rfl (fun ls hl => ?_)
    exact L_69 NF s18 v17 239 _ _ _ hP hS (lv_sub hl [2, 1, 0] rfl) hm
  have L_61 : ∀ (s19 : St) (H : Heap) (locs : List Loc) (ls : Array Slot), va_P D vwCl (wC y a s19) H → va_S (AC a 37 s.heap.size) s.heap H locs → lv_has ls 7 [(0, .ref (a 4))] → mX6_saysWithPremises_61 s19 = some (r, τ) → W p l e (headSpec zX6_saysWithPremises ({ frames := 2, cells := 0, slots := 0, locals := 45 })).room s m ([.ref (a 4), .int p1, .int p2, .int p3, .int p4] : List Value).toArray below meth c H locs 0 0 (MQ below (va_Qi (fun r' u => r' = r ∧ u = τ) (posW (wC y a) D) (AC a 37 s.heap.size)) ([.ref (a 4), .int p1, .int p2, .int p3, .int p4] : List Value).toArray s 0 0 (AC a 37 s.heap.size)) (F0 m 61 ls []) := by
    intro s19 H locs ls hP hS hl hm
    unfold mX6_saysWithPremises_61 at hm
    refine lv_iconst (v := 0) hx hb dX6_saysWithPremises_61 (by decide) ?_
    exact L_62 s19 0 _ _ _ hP hS (lv_sub hl [0] rfl) hm
  have L_57 : ∀ (s20 : St) (H : Heap) (locs : List Loc) (ls : Array Slot), va_P D vwCl (wC y a s20) H → va_S (AC a 37 s.heap.size) s.heap H locs → lv_has ls 7 [(0, .ref (a 4))] → mX6_saysWithPremises_57 s20 = some (r, τ) → W p l e (headSpec zX6_saysWithPremises ({ frames := 2, cells := 0, slots := 0, locals := 45 })).room s m ([.ref (a 4), .int p1, .int p2, .int p3, .int p4] : List Value).toArray below meth c H locs 0 0 (MQ below (va_Qi (fun r' u => r' = r ∧ u = τ) (posW (wC y a) D) (AC a 37 s.heap.size)) ([.ref (a 4), .int p1, .int p2, .int p3, .int p4] : List Value).toArray s 0 0 (AC a 37 s.heap.size)) (F0 m 57 ls []) := by
    intro s20 H locs ls hP hS hl hm
    unfold mX6_saysWithPremises_57 at hm
    refine lv_iconst (v := 1) hx hb dX6_saysWithPremises_57 (by decide) ?_
    refine lv_goto (tgt := 62) hx hb dX6_saysWithPremises_58 (by decide) ?_
    exact L_62 s20 1 _ _ _ hP hS (lv_sub hl [0] rfl) hm
  have L_38 : ∀ (s23 : St) (v21 : Int32) (v22 : Int32) (H : Heap) (locs : List Loc) (ls : Array Slot), va_P D vwCl (wC y a s23) H → va_S (AC a 37 s.heap.size) s.heap H locs → lv_has ls 7 [(0, .ref (a 4)), (1, .int v21), (4, .int v22)] → mX6_saysWithPremises_38 s23 v21 v22 = some (r, τ) → W p l e (headSpec zX6_saysWithPremises ({ frames := 2, cells := 0, slots := 0, locals := 45 })).room s m ([.ref (a 4), .int p1, .int p2, .int p3, .int p4] : List Value).toArray below meth c H locs 0 0 (MQ below (va_Qi (fun r' u => r' = r ∧ u = τ) (posW (wC y a) D) (AC a 37 s.heap.size)) ([.ref (a 4), .int p1, .int p2, .int p3, .int p4] : List Value).toArray s 0 0 (AC a 37 s.heap.size)) (F0 m 38 ls []) := by
    intro s23 v21 v22 H locs ls hP hS hl hm
    unfold mX6_saysWithPremises_38 at hm
    refine lv_iload hx hb dX6_saysWithPremises_38 (lv_at hl 2 rfl) ?_
    refine lv_if_lt (tgt := 57) hx hb dX6_saysWithPremises_40 (by decide) (fun c24 => ?_) (fun c24 => ?_)
    · have hm := (if_pos c24).symm.trans hm
      exact L_57 s23 _ _ _ hP hS (lv_sub hl [0] rfl) hm
    · have hm := (if_neg c24).symm.trans hm
      refine lv_aload_n hx hb dX6_saysWithPremises_43 rfl (lv_at hl 0 rfl) ?_
      refine lv_aload_n hx hb dX6_saysWithPremises_44 rfl (lv_at hl 0 rfl) ?_
      refine lv_iload_n hx hb dX6_saysWithPremises_45 rfl (lv_at hl 1 rfl) ?_
      obtain ⟨r25, h26, hm⟩ := ok_bind hm
      refine calV_i (As := [.int v21]) (rest := [.ref (a 4)]) ⟨hx, hb, hml, hown, hts⟩ (kX6_secondPremise l D y a t hI _ s23 v21 r25 h26) (cwV 1 hts (gAV aM_X6_62 aI_X6_secondPremise aS_X6_secondPremise aN_X6 aC_X6_secondPremise) rfl rfl rfl eX6_secondPremise ⟨Nat.le_of_ble_eq_true rfl, Nat.le_of_ble_eq_true rfl⟩) (preV_W (ci := 6) (q := (RX6, TX6, 9)) hK hP hF hS rfl (wC_4 y a s23)) rfl hl.1 rfl (Nat.le_of_ble_eq_true rfl) dX6_saysWithPremises_46 ⟨Nat.zero_le _, Nat.zero_le _⟩ hS (AC_le hS.1) (fun H locs hP hS hk1 => ?_)
      refine lv_iload hx hb dX6_saysWithPremises_49 (lv_at hl 2 rfl) ?_
      obtain ⟨⟨r27, s29⟩, h28, hm⟩ := ok_bind hm
      refine calV_i (As := [.int r25, .int v22]) (rest := []) ⟨hx, hb, hml, hown, hts⟩ (kX6_becomes l D y a t hI _ s23 s29 r25 v22 r27 h28) (cwV 2 hts (gAV aM_X6_55 aI_X6_becomes aS_X6_becomes aN_X6 aC_X6_becomes) rfl rfl rfl eX6_becomes ⟨Nat.le_of_ble_eq_true rfl, Nat.le_of_ble_eq_true rfl⟩) (preV_W (ci := 6) (q := (RX6, TX6, 9)) hK hP hF hS rfl (wC_4 y a s23)) rfl hl.1 rfl (Nat.le_of_ble_eq_true rfl) dX6_saysWithPremises_51 ⟨Nat.zero_le _, Nat.zero_le _⟩ hS (AC_le hS.1) (fun H locs hP hS hk1 => ?_)
      refine lv_if_eq (tgt := 61) hx hb dX6_saysWithPremises_54 (by decide) (fun c30 => ?_) (fun c30 => ?_)
      · have hm := (if_pos c30).symm.trans hm
        exact L_61 s29 _ _ _ hP hS (lv_sub hl [0] rfl) hm
      · have hm := (if_neg c30).symm.trans hm
        exact L_57 s29 _ _ _ hP hS (lv_sub hl [0] rfl) hm
  unfold mX6_saysWithPremises at hm
  refine lv_aload_n hx hb dX6_saysWithPremises_0 rfl (lv_at hl 0 rfl) ?_
  refine gfX6_images hx hb h_X6 hown hK hP l_f30 dX6_saysWithPremises_1 ?_
  refine lv_iconst (v := (-1)) hx hb dX6_saysWithPremises_4 (by decide) ?_
  obtain ⟨s32, h31, hm⟩ := ok_bind hm
  refine calS_v (As := [.ref (a 25), .int (-1)]) (rest := []) ⟨hx, hb, hml, hown, hts⟩ (kJ7_fill_53178 l D y a t hI _ σ s32 (-1) h31) (va_cwS 2 hts (gAS aM_X6_45 aT_J7_fill_53178 aN_J7 aC_J7_fill_53178) rfl rfl rfl eJ7_fill_53178 ⟨Nat.le_of_ble_eq_true rfl, Nat.le_of_ble_eq_true rfl⟩) (preS_W hK hP hF hS) rfl hl.1 rfl (Nat.le_of_ble_eq_true rfl) dX6_saysWithPremises_5 ⟨Nat.zero_le _, Nat.zero_le _⟩ hS (AC_le hS.1) (fun H locs hP hS hk1 => ?_)
  refine lv_aload_n hx hb dX6_saysWithPremises_8 rfl (lv_at hl 0 rfl) ?_
  refine lv_aload_n hx hb dX6_saysWithPremises_9 rfl (lv_at hl 0 rfl) ?_
  refine lv_iload_n hx hb dX6_saysWithPremises_10 rfl (lv_at hl 1 rfl) ?_
  obtain ⟨r33, h34, hm⟩ := ok_bind hm
  refine calV_i (As := [.int p1]) (rest := [.ref (a 4)]) ⟨hx, hb, hml, hown, hts⟩ (kX6_conclusion l D y a t hI _ s32 p1 r33 h34) (cwV 1 hts (gAV aM_X6_51 aI_X6_conclusion aS_X6_conclusion aN_X6 aC_X6_conclusion) rfl rfl rfl eX6_conclusion ⟨Nat.le_of_ble_eq_true rfl, Nat.le_of_ble_eq_true rfl⟩) (preV_W (ci := 6) (q := (RX6, TX6, 9)) hK hP hF hS rfl (wC_4 y a s32)) rfl hl.1 rfl (Nat.le_of_ble_eq_true rfl) dX6_saysWithPremises_11 ⟨Nat.zero_le _, Nat.zero_le _⟩ hS (AC_le hS.1) (fun H locs hP hS hk1 => ?_)
  refine lv_iload_n hx hb dX6_saysWithPremises_14 rfl (lv_at hl 2 rfl) ?_
  obtain ⟨⟨r35, s37⟩, h36, hm⟩ := ok_bind hm
  refine calV_i (As := [.int r33, .int p2]) (rest := []) ⟨hx, hb, hml, hown, hts⟩ (kX6_becomes l D y a t hI _ s32 s37 r33 p2 r35 h36) (cwV 2 hts (gAV aM_X6_55 aI_X6_becomes aS_X6_becomes aN_X6 aC_X6_becomes) rfl rfl rfl eX6_becomes ⟨Nat.le_of_ble_eq_true rfl, Nat.le_of_ble_eq_true rfl⟩) (preV_W (ci := 6) (q := (RX6, TX6, 9)) hK hP hF hS rfl (wC_4 y a s32)) rfl hl.1 rfl (Nat.le_of_ble_eq_true rfl) dX6_saysWithPremises_15 ⟨Nat.zero_le _, Nat.zero_le _⟩ hS (AC_le hS.1) (fun H locs hP hS hk1 => ?_)
  refine lv_if_eq (tgt := 61) hx hb dX6_saysWithPremises_18 (by decide) (fun c38 => ?_) (fun c38 => ?_)
  · have hm := (if_pos c38).symm.trans hm
    exact L_61 s37 _ _ _ hP hS (lv_sub hl [0] rfl) hm
  · have hm := (if_neg c38).symm.trans hm
    refine lv_iload_n hx hb dX6_saysWithPremises_21 rfl (lv_at hl 3 rfl) ?_
    refine lv_if_lt (tgt := 38) hx hb dX6_saysWithPremises_22 (by decide) (fun c39 => ?_) (fun c39 => ?_)
    · have hm := (if_pos c39).symm.trans hm
      exact L_38 s37 p1 p4 _ _ _ hP hS (lv_sub hl [0, 1, 4] rfl) hm
    · have hm := (if_neg c39).symm.trans hm
      refine lv_aload_n hx hb dX6_saysWithPremises_25 rfl (lv_at hl 0 rfl) ?_
      refine lv_aload_n hx hb dX6_saysWithPremises_26 rfl (lv_at hl 0 rfl) ?_
      refine lv_iload_n hx hb dX6_saysWithPremises_27 rfl (lv_at hl 1 rfl) ?_
      obtain ⟨r40, h41, hm⟩ := ok_bind hm
      refine calV_i (As := [.int p1]) (rest := [.ref (a 4)]) ⟨hx, hb, hml, hown, hts⟩ (kX6_firstPremise l D y a t hI _ s37 p1 r40 h41) (cwV 1 hts (gAV aM_X6_59 aI_X6_firstPremise aS_X6_firstPremise aN_X6 aC_X6_firstPremise) rfl rfl rfl eX6_firstPremise ⟨Nat.le_of_ble_eq_true rfl, Nat.le_of_ble_eq_true rfl⟩) (preV_W (ci := 6) (q := (RX6, TX6, 9)) hK hP hF hS rfl (wC_4 y a s37)) rfl hl.1 rfl (Nat.le_of_ble_eq_true rfl) dX6_saysWithPremises_28 ⟨Nat.zero_le _, Nat.zero_le _⟩ hS (AC_le hS.1) (fun H locs hP hS hk1 => ?_)
      refine lv_iload_n hx hb dX6_saysWithPremises_31 rfl (lv_at hl 3 rfl) ?_
      obtain ⟨⟨r42, s44⟩, h43, hm⟩ := ok_bind hm
      refine calV_i (As := [.int r40, .int p3]) (rest := []) ⟨hx, hb, hml, hown, hts⟩ (kX6_becomes l D y a t hI _ s37 s44 r40 p3 r42 h43) (cwV 2 hts (gAV aM_X6_55 aI_X6_becomes aS_X6_becomes aN_X6 aC_X6_becomes) rfl rfl rfl eX6_becomes ⟨Nat.le_of_ble_eq_true rfl, Nat.le_of_ble_eq_true rfl⟩) (preV_W (ci := 6) (q := (RX6, TX6, 9)) hK hP hF hS rfl (wC_4 y a s37)) rfl hl.1 rfl (Nat.le_of_ble_eq_true rfl) dX6_saysWithPremises_32 ⟨Nat.zero_le _, Nat.zero_le _⟩ hS (AC_le hS.1) (fun H locs hP hS hk1 => ?_)
      refine lv_if_eq (tgt := 61) hx hb dX6_saysWithPremises_35 (by decide) (fun c45 => ?_) (fun c45 => ?_)
      · have hm := (if_pos c45).symm.trans hm
        exact L_61 s44 _ _ _ hP hS (lv_sub hl [0] rfl) hm
      · have hm := (if_neg c45).symm.trans hm
        exact L_38 s44 p1 p4 _ _ _ hP hS (lv_sub hl [0, 1, 4] rfl) hm
theorem eX6_concludes : yX6_concludes.cls = RX6 ∧ yX6_concludes.cls ≠ "java/lang/invoke/MethodHandle" ∧ yX6_concludes.cls ≠ "java/lang/invoke/VarHandle" ∧ (parseMethodDescriptor yX6_concludes.desc).map (fun d => d.parameters.length) = some 2 := by decide +kernel
def mX6_concludes (σ : St) (p1 : Int32) (p2 : Int32) : Option (Int32 × St) :=
(mX6_saysWithPremises σ p1 p2 (-1) (-1)).bind fun ⟨r1, s3⟩ =>
chkZ r1 (some (r1, s3))
set_option maxHeartbeats 4000000 in
set_option maxRecDepth 100000 in
theorem kX6_concludes (l : Launch) (D : va_G) (y : Nat → ClassId) (a t : Nat → Nat) (hI : AI a 37) (sz : Nat) (σ τ : St) (p1 : Int32) (p2 : Int32) (r : Int32) (hm : mX6_concludes σ p1 p2 = some (r, τ)) : Met l yX6_concludes zX6_concludes { frames := 3, cells := 0, slots := 0, locals := 71 } (va_Pc [.ref (a 4), .int p1, .int p2] (preW (wC y a) a 37 D y t σ sz)) (va_Qi (fun r' u => r' = r ∧ u = τ) (posW (wC y a) D) (AC a 37 sz)) 0 0 (AC a 37 sz) := by
  refine Met.ofW (cc := cX6_concludes) (maxL := 3) (ret := (some .boolean)) (by decide) rfl ?_
  intro p e s m args below meth c s₁ B hml hv
  obtain ⟨rfl, hsz, hP, hK, hF⟩ := hv
  have hx := B.exec
  have hb := B.bytes
  have hr := B.returns
  have hts := atoms_spec (ws := zX6_concludes) B.pre
  have hown : s.vm.findClass RX6 = some m.cls := findClass_of_methodNamed B.named
  have hlocks := B.notSynchronized
  subst hsz
  have hS : va_S (AC a 37 s.heap.size) s.heap s.heap [] := va_S.rf
  have hl := lv_entry ([.ref (a 4), .int p1, .int p2]) (n := 3) (Nat.le_of_ble_eq_true rfl)
  rw [lg_entry_eq]
  generalize (lg_sl ([.ref (a 4), .int p1, .int p2]) ++ List.replicate (3 - (lg_sl ([.ref (a 4), .int p1, .int p2])).length) Slot.unset).toArray = ls at hl ⊢
  have hl : lv_has ls 3 [(0, .ref (a 4)), (1, .int p1), (2, .int p2)] := hl
  unfold mX6_concludes at hm
  refine lv_aload_n hx hb dX6_concludes_0 rfl (lv_at hl 0 rfl) ?_
  refine lv_iload_n hx hb dX6_concludes_1 rfl (lv_at hl 1 rfl) ?_
  refine lv_iload_n hx hb dX6_concludes_2 rfl (lv_at hl 2 rfl) ?_
  refine lv_iconst (v := (-1)) hx hb dX6_concludes_3 (by decide) ?_
  refine lv_iconst (v := (-1)) hx hb dX6_concludes_4 (by decide) ?_
  obtain ⟨⟨r1, s3⟩, h2, hm⟩ := ok_bind hm
  refine calV_i (As := [.int p1, .int p2, .int (-1), .int (-1)]) (rest := []) ⟨hx, hb, hml, hown, hts⟩ (kX6_saysWithPremises l D y a t hI _ σ s3 p1 p2 (-1) (-1) r1 h2) (cwV 4 hts (gAV aM_X6_41 aI_X6_saysWithPremises aS_X6_saysWithPremises aN_X6 aC_X6_saysWithPremises) rfl rfl rfl eX6_saysWithPremises ⟨Nat.le_of_ble_eq_true rfl, Nat.le_of_ble_eq_true rfl⟩) (preV_W (ci := 6) (q := (RX6, TX6, 9)) hK hP hF hS rfl (wC_4 y a σ)) rfl hl.1 rfl (Nat.le_of_ble_eq_true rfl) dX6_concludes_5 ⟨Nat.zero_le _, Nat.zero_le _⟩ hS (AC_le hS.1) (fun H locs hP hS hk1 => ?_)
  obtain ⟨hz, hm⟩ := ok_Z hm
  exact W.zret (v := r1) hx hb hr hz (fun T hT hW => ⟨⟨r1, s3, rfl, ⟨congrArg Prod.fst (Option.some.inj hm), congrArg Prod.snd (Option.some.inj hm)⟩, by rw [posW, hT]; exact hP⟩, hS.F hT⟩) hS.2.2 dX6_concludes_8
theorem eX6_imageOfLetter : yX6_imageOfLetter.cls = RX6 ∧ yX6_imageOfLetter.cls ≠ "java/lang/invoke/MethodHandle" ∧ yX6_imageOfLetter.cls ≠ "java/lang/invoke/VarHandle" ∧ (parseMethodDescriptor yX6_imageOfLetter.desc).map (fun d => d.parameters.length) = some 1 := by decide +kernel
def mX6_imageOfLetter (σ : St) (p1 : Int32) : Option Int32 :=
(mX1_find σ 0 p1 (-1)).bind fun r1 =>
if r1 < 0 then (
some (-1))
else (
if 240 ≤ r1 then (
some (-1))
else (
chkI r1 240 (
some (σ.1 28 r1.toNatClampNeg))))
set_option maxHeartbeats 4000000 in
set_option maxRecDepth 100000 in
theorem kX6_imageOfLetter (l : Launch) (D : va_G) (y : Nat → ClassId) (a t : Nat → Nat) (hI : AI a 37) (sz : Nat) (σ : St) (p1 : Int32) (r : Int32) (hm : mX6_imageOfLetter σ p1 = some r) : Met l yX6_imageOfLetter zX6_imageOfLetter { frames := 1, cells := 0, slots := 0, locals := 24 } (va_Pc [.ref (a 4), .int p1] (preW (wC y a) a 37 D y t σ sz)) (va_Qi (fun r' u => r' = r ∧ u = σ) (posW (wC y a) D) (AC a 37 sz)) 0 0 (AC a 37 sz) := by
  refine Met.ofW (cc := cX6_imageOfLetter) (maxL := 3) (ret := (some .int)) (by decide) rfl ?_
  intro p e s m args below meth c s₁ B hml hv
  obtain ⟨rfl, hsz, hP, hK, hF⟩ := hv
  have hx := B.exec
  have hb := B.bytes
  have hr := B.returns
  have hts := atoms_spec (ws := zX6_imageOfLetter) B.pre
  have hown : s.vm.findClass RX6 = some m.cls := findClass_of_methodNamed B.named
  have hlocks := B.notSynchronized
  subst hsz
  have l_f33 := hts _ (List.mem_cons_of_mem _ aF_X6_33)
  have l_f30 := hts _ (List.mem_cons_of_mem _ aF_X6_30)
  have h_X6 : ∀ w ∈ wsX60, w.before _ s = true := fun w hw => hts w (List.mem_cons_of_mem _ (hwX6 w hw))
  have hS : va_S (AC a 37 s.heap.size) s.heap s.heap [] := va_S.rf
  have hl := lv_entry ([.ref (a 4), .int p1]) (n := 3) (Nat.le_of_ble_eq_true rfl)
  rw [lg_entry_eq]
  generalize (lg_sl ([.ref (a 4), .int p1]) ++ List.replicate (3 - (lg_sl ([.ref (a 4), .int p1])).length) Slot.unset).toArray = ls at hl ⊢
  have hl : lv_has ls 3 [(0, .ref (a 4)), (1, .int p1)] := hl
  unfold mX6_imageOfLetter at hm
  refine lv_aload_n hx hb dX6_imageOfLetter_0 rfl (lv_at hl 0 rfl) ?_
  refine gfX6_formulas hx hb h_X6 hown hK hP l_f33 dX6_imageOfLetter_1 ?_
  refine lv_iconst (v := 0) hx hb dX6_imageOfLetter_4 (by decide) ?_
  refine lv_iload_n hx hb dX6_imageOfLetter_5 rfl (lv_at hl 1 rfl) ?_
  refine lv_iconst (v := (-1)) hx hb dX6_imageOfLetter_6 (by decide) ?_
  obtain ⟨r1, h2, hm⟩ := ok_bind hm
  refine calV_i (As := [.int 0, .int p1, .int (-1)]) (rest := []) ⟨hx, hb, hml, hown, hts⟩ (kX1_find l D y a t hI _ σ 0 p1 (-1) r1 h2) (cwV 3 hts (gAV aM_X6_68 aI_X1_find aS_X1_find aN_X1 aC_X1_find) rfl rfl rfl eX1_find ⟨Nat.le_of_ble_eq_true rfl, Nat.le_of_ble_eq_true rfl⟩) (preV_W (ci := 1) (q := (RX1, TX1, 8)) hK hP hF hS rfl (wC_1 y a σ)) rfl hl.1 rfl (Nat.le_of_ble_eq_true rfl) dX6_imageOfLetter_7 ⟨Nat.zero_le _, Nat.zero_le _⟩ hS (AC_le hS.1) (fun H locs hP hS hk1 => ?_)
  refine lv_istore_n (lv' := [(2, .int r1), (0, .ref (a 4)), (1, .int p1)]) hx hb dX6_imageOfLetter_10 rfl hl (by decide) rfl (fun ls hl => ?_)
  refine lv_iload_n hx hb dX6_imageOfLetter_11 rfl (lv_at hl 0 rfl) ?_
  refine lv_if_lt (tgt := 31) hx hb dX6_imageOfLetter_12 (by decide) (fun c3 => ?_) (fun c3 => ?_)
  · have hm := (if_pos c3).symm.trans hm
    refine lv_iconst (v := (-1)) hx hb dX6_imageOfLetter_31 (by decide) ?_
    exact W.iret (v := (-1)) hx hb hr (fun T hT hW => ⟨⟨(-1), σ, rfl, ⟨Option.some.inj hm, rfl⟩, by rw [posW, hT]; exact hP⟩, hS.F hT⟩) hS.2.2 dX6_imageOfLetter_32
  · have hm := (if_neg c3).symm.trans hm
    refine lv_iload_n hx hb dX6_imageOfLetter_15 rfl (lv_at hl 0 rfl) ?_
    refine lv_sipush (v := 240) hx hb dX6_imageOfLetter_16 (by decide) ?_
    refine lv_icmp_ge (tgt := 31) hx hb dX6_imageOfLetter_19 (by decide) (fun c4 => ?_) (fun c4 => ?_)
    · have hm := (if_pos c4).symm.trans hm
      refine lv_iconst (v := (-1)) hx hb dX6_imageOfLetter_31 (by decide) ?_
      exact W.iret (v := (-1)) hx hb hr (fun T hT hW => ⟨⟨(-1), σ, rfl, ⟨Option.some.inj hm, rfl⟩, by rw [posW, hT]; exact hP⟩, hS.F hT⟩) hS.2.2 dX6_imageOfLetter_32
    · have hm := (if_neg c4).symm.trans hm
      refine lv_aload_n hx hb dX6_imageOfLetter_22 rfl (lv_at hl 1 rfl) ?_
      refine gfX6_images hx hb h_X6 hown hK hP l_f30 dX6_imageOfLetter_23 ?_
      refine lv_iload_n hx hb dX6_imageOfLetter_26 rfl (lv_at hl 0 rfl) ?_
      obtain ⟨hi, hm⟩ := ok_I hm
      refine ldC_25 hx hb hK hP hi dX6_imageOfLetter_27 ?_
      refine lv_goto (tgt := 32) hx hb dX6_imageOfLetter_28 (by decide) ?_
      exact W.iret (v := σ.1 28 r1.toNatClampNeg) hx hb hr (fun T hT hW => ⟨⟨σ.1 28 r1.toNatClampNeg, σ, rfl, ⟨Option.some.inj hm, rfl⟩, by rw [posW, hT]; exact hP⟩, hS.F hT⟩) hS.2.2 dX6_imageOfLetter_32
